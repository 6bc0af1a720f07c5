section
-- ===== PART A: goes FIRST, ahead of the names: the tables' words, and 'selects' of the private methods out of them =====
/-- a private method of a class that the tables say can be made, by its rows of tables_1 -/
def lw_okq (q : MethodName × Nat) : Prop := (q.1.cls ≠ "java/lang/invoke/MethodHandle" ∧ q.1.cls ≠ "java/lang/invoke/VarHandle") ∧ Cond.instantiable q.1.cls q.2 ∈ tables_1 ∧ Cond.privateMethod q.1 ∈ tables_1 ∧ Cond.instanceMethod q.1 ∈ tables_1
theorem lw_p0 : lw_okq (⟨"java/lang/Throwable", "fillInStackTrace", "(I)Ljava/lang/Throwable;"⟩, 6) := ⟨⟨by decide +kernel, by decide +kernel⟩, List.mem_of_getElem? (i := 299) (by decide +kernel), List.mem_of_getElem? (i := 297) (by decide +kernel), List.mem_of_getElem? (i := 298) (by decide +kernel)⟩
theorem lw_p1 : lw_okq (⟨"TunnelWatch", "tubeAt", "(I)LTunnelWatch$Tube;"⟩, 9) := ⟨⟨by decide +kernel, by decide +kernel⟩, List.mem_of_getElem? (i := 14) (by decide +kernel), List.mem_of_getElem? (i := 324) (by decide +kernel), List.mem_of_getElem? (i := 325) (by decide +kernel)⟩
theorem lw_p2 : lw_okq (⟨"TunnelWatch", "needDevice", "(II)V"⟩, 9) := ⟨⟨by decide +kernel, by decide +kernel⟩, List.mem_of_getElem? (i := 14) (by decide +kernel), List.mem_of_getElem? (i := 357) (by decide +kernel), List.mem_of_getElem? (i := 358) (by decide +kernel)⟩
theorem lw_p3 : lw_okq (⟨"TunnelWatch", "needSection", "(II)V"⟩, 9) := ⟨⟨by decide +kernel, by decide +kernel⟩, List.mem_of_getElem? (i := 14) (by decide +kernel), List.mem_of_getElem? (i := 372) (by decide +kernel), List.mem_of_getElem? (i := 373) (by decide +kernel)⟩
theorem lw_p4 : lw_okq (⟨"TunnelWatch$Tube", "leastOn", "()I"⟩, 12) := ⟨⟨by decide +kernel, by decide +kernel⟩, List.mem_of_getElem? (i := 32) (by decide +kernel), List.mem_of_getElem? (i := 429) (by decide +kernel), List.mem_of_getElem? (i := 430) (by decide +kernel)⟩
theorem lw_p5 : lw_okq (⟨"TunnelWatch", "tick", "()V"⟩, 9) := ⟨⟨by decide +kernel, by decide +kernel⟩, List.mem_of_getElem? (i := 14) (by decide +kernel), List.mem_of_getElem? (i := 485) (by decide +kernel), List.mem_of_getElem? (i := 486) (by decide +kernel)⟩
theorem lw_p6 : lw_okq (⟨"TunnelWatch$Tube", "bestCandidate", "()I"⟩, 12) := ⟨⟨by decide +kernel, by decide +kernel⟩, List.mem_of_getElem? (i := 32) (by decide +kernel), List.mem_of_getElem? (i := 521) (by decide +kernel), List.mem_of_getElem? (i := 522) (by decide +kernel)⟩
theorem lw_p7 : lw_okq (⟨"TunnelWatch$Tube", "leastOfPair", "()I"⟩, 12) := ⟨⟨by decide +kernel, by decide +kernel⟩, List.mem_of_getElem? (i := 32) (by decide +kernel), List.mem_of_getElem? (i := 525) (by decide +kernel), List.mem_of_getElem? (i := 526) (by decide +kernel)⟩
theorem lw_p8 : lw_okq (⟨"TunnelWatch$Tube", "isOnCloseAbove", "(I)Z"⟩, 12) := ⟨⟨by decide +kernel, by decide +kernel⟩, List.mem_of_getElem? (i := 32) (by decide +kernel), List.mem_of_getElem? (i := 529) (by decide +kernel), List.mem_of_getElem? (i := 530) (by decide +kernel)⟩
theorem lw_p9 : lw_okq (⟨"TunnelWatch$Tube", "judgeSuspicion", "()V"⟩, 12) := ⟨⟨by decide +kernel, by decide +kernel⟩, List.mem_of_getElem? (i := 32) (by decide +kernel), List.mem_of_getElem? (i := 534) (by decide +kernel), List.mem_of_getElem? (i := 535) (by decide +kernel)⟩
theorem lw_p10 : lw_okq (⟨"TunnelWatch", "tubeThatCounts", "()I"⟩, 9) := ⟨⟨by decide +kernel, by decide +kernel⟩, List.mem_of_getElem? (i := 14) (by decide +kernel), List.mem_of_getElem? (i := 542) (by decide +kernel), List.mem_of_getElem? (i := 543) (by decide +kernel)⟩
theorem lw_p11 : lw_okq (⟨"TunnelWatch$Tube", "isHalted", "(I)Z"⟩, 12) := ⟨⟨by decide +kernel, by decide +kernel⟩, List.mem_of_getElem? (i := 32) (by decide +kernel), List.mem_of_getElem? (i := 559) (by decide +kernel), List.mem_of_getElem? (i := 560) (by decide +kernel)⟩
theorem lw_p12 : lw_okq (⟨"TunnelWatch$Tube", "stopBlowingAgainst", "(I)V"⟩, 12) := ⟨⟨by decide +kernel, by decide +kernel⟩, List.mem_of_getElem? (i := 32) (by decide +kernel), List.mem_of_getElem? (i := 567) (by decide +kernel), List.mem_of_getElem? (i := 568) (by decide +kernel)⟩
theorem lw_p13 : lw_okq (⟨"TunnelWatch$Tube", "longestRun", "(Z)I"⟩, 12) := ⟨⟨by decide +kernel, by decide +kernel⟩, List.mem_of_getElem? (i := 32) (by decide +kernel), List.mem_of_getElem? (i := 576) (by decide +kernel), List.mem_of_getElem? (i := 577) (by decide +kernel)⟩
theorem lw_p14 : lw_okq (⟨"TunnelWatch$Tube", "stopAt", "(II)V"⟩, 12) := ⟨⟨by decide +kernel, by decide +kernel⟩, List.mem_of_getElem? (i := 32) (by decide +kernel), List.mem_of_getElem? (i := 580) (by decide +kernel), List.mem_of_getElem? (i := 581) (by decide +kernel)⟩
theorem lw_p15 : lw_okq (⟨"TunnelWatch", "shedLoad", "(LTunnelWatch$Tube;LTunnelWatch$Tube;)V"⟩, 9) := ⟨⟨by decide +kernel, by decide +kernel⟩, List.mem_of_getElem? (i := 14) (by decide +kernel), List.mem_of_getElem? (i := 584) (by decide +kernel), List.mem_of_getElem? (i := 585) (by decide +kernel)⟩
def lw_privs_1 : List (MethodName × Nat) := [(⟨"java/lang/Throwable", "fillInStackTrace", "(I)Ljava/lang/Throwable;"⟩, 6), (⟨"TunnelWatch", "tubeAt", "(I)LTunnelWatch$Tube;"⟩, 9), (⟨"TunnelWatch", "needDevice", "(II)V"⟩, 9), (⟨"TunnelWatch", "needSection", "(II)V"⟩, 9), (⟨"TunnelWatch$Tube", "leastOn", "()I"⟩, 12), (⟨"TunnelWatch", "tick", "()V"⟩, 9), (⟨"TunnelWatch$Tube", "bestCandidate", "()I"⟩, 12), (⟨"TunnelWatch$Tube", "leastOfPair", "()I"⟩, 12), (⟨"TunnelWatch$Tube", "isOnCloseAbove", "(I)Z"⟩, 12), (⟨"TunnelWatch$Tube", "judgeSuspicion", "()V"⟩, 12), (⟨"TunnelWatch", "tubeThatCounts", "()I"⟩, 9), (⟨"TunnelWatch$Tube", "isHalted", "(I)Z"⟩, 12), (⟨"TunnelWatch$Tube", "stopBlowingAgainst", "(I)V"⟩, 12), (⟨"TunnelWatch$Tube", "longestRun", "(Z)I"⟩, 12), (⟨"TunnelWatch$Tube", "stopAt", "(II)V"⟩, 12), (⟨"TunnelWatch", "shedLoad", "(LTunnelWatch$Tube;LTunnelWatch$Tube;)V"⟩, 9)]
theorem lw_r1 : ∀ q ∈ lw_privs_1, lw_okq q := List.forall_mem_cons.mpr ⟨lw_p0, List.forall_mem_cons.mpr ⟨lw_p1, List.forall_mem_cons.mpr ⟨lw_p2, List.forall_mem_cons.mpr ⟨lw_p3, List.forall_mem_cons.mpr ⟨lw_p4, List.forall_mem_cons.mpr ⟨lw_p5, List.forall_mem_cons.mpr ⟨lw_p6, List.forall_mem_cons.mpr ⟨lw_p7, List.forall_mem_cons.mpr ⟨lw_p8, List.forall_mem_cons.mpr ⟨lw_p9, List.forall_mem_cons.mpr ⟨lw_p10, List.forall_mem_cons.mpr ⟨lw_p11, List.forall_mem_cons.mpr ⟨lw_p12, List.forall_mem_cons.mpr ⟨lw_p13, List.forall_mem_cons.mpr ⟨lw_p14, List.forall_mem_cons.mpr ⟨lw_p15, fun _ h => absurd h List.not_mem_nil⟩⟩⟩⟩⟩⟩⟩⟩⟩⟩⟩⟩⟩⟩⟩⟩
theorem lw_p16 : lw_okq (⟨"TunnelWatch", "startFans", "(LTunnelWatch$Tube;)Z"⟩, 9) := ⟨⟨by decide +kernel, by decide +kernel⟩, List.mem_of_getElem? (i := 14) (by decide +kernel), List.mem_of_getElem? (i := 593) (by decide +kernel), List.mem_of_getElem? (i := 594) (by decide +kernel)⟩
theorem lw_p17 : lw_okq (⟨"TunnelWatch$Tube", "isReady", "(LTunnelWatch$Fan;II)Z"⟩, 12) := ⟨⟨by decide +kernel, by decide +kernel⟩, List.mem_of_getElem? (i := 32) (by decide +kernel), List.mem_of_getElem? (i := 602) (by decide +kernel), List.mem_of_getElem? (i := 603) (by decide +kernel)⟩
theorem lw_p18 : lw_okq (⟨"TunnelWatch", "mayStart", "(LTunnelWatch$Fan;)Z"⟩, 9) := ⟨⟨by decide +kernel, by decide +kernel⟩, List.mem_of_getElem? (i := 14) (by decide +kernel), List.mem_of_getElem? (i := 614) (by decide +kernel), List.mem_of_getElem? (i := 615) (by decide +kernel)⟩
theorem lw_p19 : lw_okq (⟨"TunnelWatch", "startFan", "(LTunnelWatch$Fan;I)V"⟩, 9) := ⟨⟨by decide +kernel, by decide +kernel⟩, List.mem_of_getElem? (i := 14) (by decide +kernel), List.mem_of_getElem? (i := 619) (by decide +kernel), List.mem_of_getElem? (i := 620) (by decide +kernel)⟩
theorem lw_p20 : lw_okq (⟨"TunnelWatch", "isBroken", "()Z"⟩, 9) := ⟨⟨by decide +kernel, by decide +kernel⟩, List.mem_of_getElem? (i := 14) (by decide +kernel), List.mem_of_getElem? (i := 632) (by decide +kernel), List.mem_of_getElem? (i := 633) (by decide +kernel)⟩
theorem lw_p21 : lw_okq (⟨"TunnelWatch", "tellFan", "(LTunnelWatch$Fan;I)I"⟩, 9) := ⟨⟨by decide +kernel, by decide +kernel⟩, List.mem_of_getElem? (i := 14) (by decide +kernel), List.mem_of_getElem? (i := 654) (by decide +kernel), List.mem_of_getElem? (i := 655) (by decide +kernel)⟩
theorem lw_p22 : lw_okq (⟨"TunnelWatchModel", "goes", "(ZZ)Z"⟩, 35) := ⟨⟨by decide +kernel, by decide +kernel⟩, List.mem_of_getElem? (i := 659) (by decide +kernel), List.mem_of_getElem? (i := 784) (by decide +kernel), List.mem_of_getElem? (i := 785) (by decide +kernel)⟩
theorem lw_p23 : lw_okq (⟨"TunnelWatchModel", "isDevice", "(II)Z"⟩, 35) := ⟨⟨by decide +kernel, by decide +kernel⟩, List.mem_of_getElem? (i := 659) (by decide +kernel), List.mem_of_getElem? (i := 792) (by decide +kernel), List.mem_of_getElem? (i := 793) (by decide +kernel)⟩
theorem lw_p24 : lw_okq (⟨"TunnelWatchModel", "isSection", "(II)Z"⟩, 35) := ⟨⟨by decide +kernel, by decide +kernel⟩, List.mem_of_getElem? (i := 659) (by decide +kernel), List.mem_of_getElem? (i := 800) (by decide +kernel), List.mem_of_getElem? (i := 801) (by decide +kernel)⟩
theorem lw_p25 : lw_okq (⟨"TunnelWatchModel", "leastOn", "(I)I"⟩, 35) := ⟨⟨by decide +kernel, by decide +kernel⟩, List.mem_of_getElem? (i := 659) (by decide +kernel), List.mem_of_getElem? (i := 831) (by decide +kernel), List.mem_of_getElem? (i := 832) (by decide +kernel)⟩
theorem lw_p26 : lw_okq (⟨"TunnelWatchModel", "isOn", "(II)Z"⟩, 35) := ⟨⟨by decide +kernel, by decide +kernel⟩, List.mem_of_getElem? (i := 659) (by decide +kernel), List.mem_of_getElem? (i := 835) (by decide +kernel), List.mem_of_getElem? (i := 836) (by decide +kernel)⟩
theorem lw_p27 : lw_okq (⟨"TunnelWatchModel", "tick", "()V"⟩, 35) := ⟨⟨by decide +kernel, by decide +kernel⟩, List.mem_of_getElem? (i := 659) (by decide +kernel), List.mem_of_getElem? (i := 863) (by decide +kernel), List.mem_of_getElem? (i := 864) (by decide +kernel)⟩
theorem lw_p28 : lw_okq (⟨"TunnelWatchModel", "act", "()V"⟩, 35) := ⟨⟨by decide +kernel, by decide +kernel⟩, List.mem_of_getElem? (i := 659) (by decide +kernel), List.mem_of_getElem? (i := 867) (by decide +kernel), List.mem_of_getElem? (i := 868) (by decide +kernel)⟩
theorem lw_p29 : lw_okq (⟨"TunnelWatchModel", "stop", "(I)V"⟩, 35) := ⟨⟨by decide +kernel, by decide +kernel⟩, List.mem_of_getElem? (i := 659) (by decide +kernel), List.mem_of_getElem? (i := 871) (by decide +kernel), List.mem_of_getElem? (i := 872) (by decide +kernel)⟩
theorem lw_p30 : lw_okq (⟨"TunnelWatchModel", "send", "(II)V"⟩, 35) := ⟨⟨by decide +kernel, by decide +kernel⟩, List.mem_of_getElem? (i := 659) (by decide +kernel), List.mem_of_getElem? (i := 875) (by decide +kernel), List.mem_of_getElem? (i := 876) (by decide +kernel)⟩
theorem lw_p31 : lw_okq (⟨"TunnelWatchModel", "judge", "(I)V"⟩, 35) := ⟨⟨by decide +kernel, by decide +kernel⟩, List.mem_of_getElem? (i := 659) (by decide +kernel), List.mem_of_getElem? (i := 879) (by decide +kernel), List.mem_of_getElem? (i := 880) (by decide +kernel)⟩
def lw_privs_2 : List (MethodName × Nat) := [(⟨"TunnelWatch", "startFans", "(LTunnelWatch$Tube;)Z"⟩, 9), (⟨"TunnelWatch$Tube", "isReady", "(LTunnelWatch$Fan;II)Z"⟩, 12), (⟨"TunnelWatch", "mayStart", "(LTunnelWatch$Fan;)Z"⟩, 9), (⟨"TunnelWatch", "startFan", "(LTunnelWatch$Fan;I)V"⟩, 9), (⟨"TunnelWatch", "isBroken", "()Z"⟩, 9), (⟨"TunnelWatch", "tellFan", "(LTunnelWatch$Fan;I)I"⟩, 9), (⟨"TunnelWatchModel", "goes", "(ZZ)Z"⟩, 35), (⟨"TunnelWatchModel", "isDevice", "(II)Z"⟩, 35), (⟨"TunnelWatchModel", "isSection", "(II)Z"⟩, 35), (⟨"TunnelWatchModel", "leastOn", "(I)I"⟩, 35), (⟨"TunnelWatchModel", "isOn", "(II)Z"⟩, 35), (⟨"TunnelWatchModel", "tick", "()V"⟩, 35), (⟨"TunnelWatchModel", "act", "()V"⟩, 35), (⟨"TunnelWatchModel", "stop", "(I)V"⟩, 35), (⟨"TunnelWatchModel", "send", "(II)V"⟩, 35), (⟨"TunnelWatchModel", "judge", "(I)V"⟩, 35)]
theorem lw_r2 : ∀ q ∈ lw_privs_2, lw_okq q := List.forall_mem_cons.mpr ⟨lw_p16, List.forall_mem_cons.mpr ⟨lw_p17, List.forall_mem_cons.mpr ⟨lw_p18, List.forall_mem_cons.mpr ⟨lw_p19, List.forall_mem_cons.mpr ⟨lw_p20, List.forall_mem_cons.mpr ⟨lw_p21, List.forall_mem_cons.mpr ⟨lw_p22, List.forall_mem_cons.mpr ⟨lw_p23, List.forall_mem_cons.mpr ⟨lw_p24, List.forall_mem_cons.mpr ⟨lw_p25, List.forall_mem_cons.mpr ⟨lw_p26, List.forall_mem_cons.mpr ⟨lw_p27, List.forall_mem_cons.mpr ⟨lw_p28, List.forall_mem_cons.mpr ⟨lw_p29, List.forall_mem_cons.mpr ⟨lw_p30, List.forall_mem_cons.mpr ⟨lw_p31, fun _ h => absurd h List.not_mem_nil⟩⟩⟩⟩⟩⟩⟩⟩⟩⟩⟩⟩⟩⟩⟩⟩
theorem lw_p32 : lw_okq (⟨"TunnelWatchModel", "isCandidate", "(II)Z"⟩, 35) := ⟨⟨by decide +kernel, by decide +kernel⟩, List.mem_of_getElem? (i := 659) (by decide +kernel), List.mem_of_getElem? (i := 883) (by decide +kernel), List.mem_of_getElem? (i := 884) (by decide +kernel)⟩
theorem lw_p33 : lw_okq (⟨"TunnelWatchModel", "burning", "()I"⟩, 35) := ⟨⟨by decide +kernel, by decide +kernel⟩, List.mem_of_getElem? (i := 659) (by decide +kernel), List.mem_of_getElem? (i := 887) (by decide +kernel), List.mem_of_getElem? (i := 888) (by decide +kernel)⟩
theorem lw_p34 : lw_okq (⟨"TunnelWatchModel", "want", "(I)V"⟩, 35) := ⟨⟨by decide +kernel, by decide +kernel⟩, List.mem_of_getElem? (i := 659) (by decide +kernel), List.mem_of_getElem? (i := 891) (by decide +kernel), List.mem_of_getElem? (i := 892) (by decide +kernel)⟩
theorem lw_p35 : lw_okq (⟨"TunnelWatchModel", "traffic", "(Z)V"⟩, 35) := ⟨⟨by decide +kernel, by decide +kernel⟩, List.mem_of_getElem? (i := 659) (by decide +kernel), List.mem_of_getElem? (i := 895) (by decide +kernel), List.mem_of_getElem? (i := 896) (by decide +kernel)⟩
theorem lw_p36 : lw_okq (⟨"TunnelWatchModel", "isHalted", "(I)Z"⟩, 35) := ⟨⟨by decide +kernel, by decide +kernel⟩, List.mem_of_getElem? (i := 659) (by decide +kernel), List.mem_of_getElem? (i := 899) (by decide +kernel), List.mem_of_getElem? (i := 900) (by decide +kernel)⟩
theorem lw_p37 : lw_okq (⟨"TunnelWatchModel", "calm", "(IZ)V"⟩, 35) := ⟨⟨by decide +kernel, by decide +kernel⟩, List.mem_of_getElem? (i := 659) (by decide +kernel), List.mem_of_getElem? (i := 903) (by decide +kernel), List.mem_of_getElem? (i := 904) (by decide +kernel)⟩
theorem lw_p38 : lw_okq (⟨"TunnelWatchModel", "blowing", "(II)I"⟩, 35) := ⟨⟨by decide +kernel, by decide +kernel⟩, List.mem_of_getElem? (i := 659) (by decide +kernel), List.mem_of_getElem? (i := 907) (by decide +kernel), List.mem_of_getElem? (i := 908) (by decide +kernel)⟩
theorem lw_p39 : lw_okq (⟨"TunnelWatchModel", "longest", "(II)I"⟩, 35) := ⟨⟨by decide +kernel, by decide +kernel⟩, List.mem_of_getElem? (i := 659) (by decide +kernel), List.mem_of_getElem? (i := 911) (by decide +kernel), List.mem_of_getElem? (i := 912) (by decide +kernel)⟩
theorem lw_p40 : lw_okq (⟨"TunnelWatchModel", "relieve", "(I)V"⟩, 35) := ⟨⟨by decide +kernel, by decide +kernel⟩, List.mem_of_getElem? (i := 659) (by decide +kernel), List.mem_of_getElem? (i := 915) (by decide +kernel), List.mem_of_getElem? (i := 916) (by decide +kernel)⟩
theorem lw_p41 : lw_okq (⟨"TunnelWatchModel", "loadOf", "()I"⟩, 35) := ⟨⟨by decide +kernel, by decide +kernel⟩, List.mem_of_getElem? (i := 659) (by decide +kernel), List.mem_of_getElem? (i := 919) (by decide +kernel), List.mem_of_getElem? (i := 920) (by decide +kernel)⟩
theorem lw_p42 : lw_okq (⟨"TunnelWatchModel", "starting", "(I)Z"⟩, 35) := ⟨⟨by decide +kernel, by decide +kernel⟩, List.mem_of_getElem? (i := 659) (by decide +kernel), List.mem_of_getElem? (i := 923) (by decide +kernel), List.mem_of_getElem? (i := 924) (by decide +kernel)⟩
theorem lw_p43 : lw_okq (⟨"TunnelWatchModel", "hasRested", "(II)Z"⟩, 35) := ⟨⟨by decide +kernel, by decide +kernel⟩, List.mem_of_getElem? (i := 659) (by decide +kernel), List.mem_of_getElem? (i := 927) (by decide +kernel), List.mem_of_getElem? (i := 928) (by decide +kernel)⟩
theorem lw_p44 : lw_okq (⟨"TunnelWatchModel", "startsOf", "()I"⟩, 35) := ⟨⟨by decide +kernel, by decide +kernel⟩, List.mem_of_getElem? (i := 659) (by decide +kernel), List.mem_of_getElem? (i := 931) (by decide +kernel), List.mem_of_getElem? (i := 932) (by decide +kernel)⟩
theorem lw_p45 : lw_okq (⟨"TunnelWatchModel", "look", "()V"⟩, 35) := ⟨⟨by decide +kernel, by decide +kernel⟩, List.mem_of_getElem? (i := 659) (by decide +kernel), List.mem_of_getElem? (i := 935) (by decide +kernel), List.mem_of_getElem? (i := 936) (by decide +kernel)⟩
def lw_privs_3 : List (MethodName × Nat) := [(⟨"TunnelWatchModel", "isCandidate", "(II)Z"⟩, 35), (⟨"TunnelWatchModel", "burning", "()I"⟩, 35), (⟨"TunnelWatchModel", "want", "(I)V"⟩, 35), (⟨"TunnelWatchModel", "traffic", "(Z)V"⟩, 35), (⟨"TunnelWatchModel", "isHalted", "(I)Z"⟩, 35), (⟨"TunnelWatchModel", "calm", "(IZ)V"⟩, 35), (⟨"TunnelWatchModel", "blowing", "(II)I"⟩, 35), (⟨"TunnelWatchModel", "longest", "(II)I"⟩, 35), (⟨"TunnelWatchModel", "relieve", "(I)V"⟩, 35), (⟨"TunnelWatchModel", "loadOf", "()I"⟩, 35), (⟨"TunnelWatchModel", "starting", "(I)Z"⟩, 35), (⟨"TunnelWatchModel", "hasRested", "(II)Z"⟩, 35), (⟨"TunnelWatchModel", "startsOf", "()I"⟩, 35), (⟨"TunnelWatchModel", "look", "()V"⟩, 35)]
theorem lw_r3 : ∀ q ∈ lw_privs_3, lw_okq q := List.forall_mem_cons.mpr ⟨lw_p32, List.forall_mem_cons.mpr ⟨lw_p33, List.forall_mem_cons.mpr ⟨lw_p34, List.forall_mem_cons.mpr ⟨lw_p35, List.forall_mem_cons.mpr ⟨lw_p36, List.forall_mem_cons.mpr ⟨lw_p37, List.forall_mem_cons.mpr ⟨lw_p38, List.forall_mem_cons.mpr ⟨lw_p39, List.forall_mem_cons.mpr ⟨lw_p40, List.forall_mem_cons.mpr ⟨lw_p41, List.forall_mem_cons.mpr ⟨lw_p42, List.forall_mem_cons.mpr ⟨lw_p43, List.forall_mem_cons.mpr ⟨lw_p44, List.forall_mem_cons.mpr ⟨lw_p45, fun _ h => absurd h List.not_mem_nil⟩⟩⟩⟩⟩⟩⟩⟩⟩⟩⟩⟩⟩⟩
def lw_privs : List (MethodName × Nat) := lw_privs_1 ++ (lw_privs_2 ++ (lw_privs_3))
def lw_tbl : List Cond := k2_sels lw_privs ++ tables_1
theorem lw_privs_ok : ∀ q ∈ lw_privs, lw_okq q := by
  show ∀ q ∈ lw_privs_1 ++ (lw_privs_2 ++ (lw_privs_3)), lw_okq q
  exact List.forall_mem_append.mpr ⟨lw_r1, List.forall_mem_append.mpr ⟨lw_r2, lw_r3⟩⟩
end
section
/-! ===== BEGIN words of one list among another's, by their places ===== -/
theorem goodIn_r {big : List Cond} (ws : List Cond) (ps : List Nat) (hp : ws = ps.filterMap (fun i => big[i]?)) (h : ws.all goodWord = true) : GoodIn big ws := by
  intro w hw
  have h1 := List.all_eq_true.mp h w hw
  rw [hp] at hw
  obtain ⟨i, -, hi⟩ := List.mem_filterMap.mp hw
  have hm : w ∈ big := by first | exact List.mem_of_getElem? hi | exact List.getElem?_mem hi
  exact ⟨hm, good_of_word h1⟩
theorem goodIn_app {big a b : List Cond} (ha : GoodIn big a) (hb : GoodIn big b) : GoodIn big (a ++ b) := fun w h => (List.mem_append.mp h).elim (ha w) (hb w)
theorem goodIn_ca {big a b : List Cond} {c : Cond} (ha : GoodIn big (c :: a)) (hb : GoodIn big b) : GoodIn big (c :: (a ++ b)) := fun w h => (List.mem_cons.mp h).elim (fun e => ha w (List.mem_cons.mpr (Or.inl e))) (fun h => (List.mem_append.mp h).elim (fun h => ha w (List.mem_cons.mpr (Or.inr h))) (hb w))
theorem goodIn_sub {big ws : List Cond} (hm : ∀ w ∈ ws, w ∈ big) (h : ws.all goodWord = true) : GoodIn big ws := fun w hw => ⟨hm w hw, good_of_word (List.all_eq_true.mp h w hw)⟩
/-! ===== END ===== -/

/-! ===== BEGIN exceptions that leave a method, and their catching by the caller (launches without stack traces) ===== -/
section VXA
/-! The laws vx_back, vx_callV, vx_callS, vx_callSW, vx_throw0, vx_throwS follow proofs of the library, with one case more: JvmDerived/Free/Laws.lean (Back.of_free), Shelf42/LK1.lean (callV, callS), Shelf/KitTraced.lean (throwNew0V, throwNewS). -/
/-- where a method has thrown q: the class by its name, the cell, what was written, the world -/
def vx_T (XC : String → State → State → Prop) (st : State) (q : Addr) (t : State) (mc ms : Nat) (free : Addr → Prop) : Prop :=
  ∃ (E : String) (ce : Cell) (L : List Loc), XC E st t ∧ t.heap[q]? = some ce ∧ ce.vm = .none ∧ st.vm.findClass E = some ce.cls ∧ st.WarmedH t.vm ∧ st.sameButNew ({ t with vm := st.vm } : State) L mc ms ∧ ∀ z ∈ L, free z.base
def vx_Q (Qc : Array Value → State → Outcome → State → Prop) (XC : String → State → State → Prop) (mc ms : Nat) (free : Addr → Prop) : Array Value → State → Outcome → State → Prop := fun a st o t =>
  (Qc a st o t ∧ ∃ L, FrameEnd st o t L mc ms ∧ ∀ q ∈ L, free q.base) ∨ ∃ q, o = .threw q ∧ vx_T XC st q t mc ms free
/-- a callee that returns or throws -/
def vx_Met (l : Launch) (y : MethodName) (ws : List Cond) (rm : Room) (Pc : Array Value → State → Prop) (Qc : Array Value → State → Outcome → State → Prop) (XC : String → State → State → Prop) (mc ms : Nat) (free : Addr → Prop) : Prop :=
  MetFree l y (headSpec ws rm) Pc (fun _ _ _ _ _ => True) (vx_Q Qc XC mc ms free)
def vx_Post (XC : String → State → State → Prop) (mc ms : Nat) (free : Addr → Prop) : Pt → Array Value → Addr → Pt → Prop := fun A a q B =>
  ∃ (g : JFrame) (mk : MethodId) (t : State) (L : List Loc) (E : String) (ce : Cell), B.U.heap = t.heap ∧ B.U.vm = t.vm ∧ XC E (A.U.calling g mk a) t ∧ t.heap[q]? = some ce ∧ ce.vm = .none ∧ A.U.vm.findClass E = some ce.cls ∧ B.locs = A.locs ++ L ∧ (∀ z ∈ L, free z.base) ∧ B.cells = A.cells + mc ∧ B.slots = A.slots + ms
def vx_Back (l : Launch) (R : Room) (p : Program) (e : Env) (below : List Frame) (s : State) (sargs : Array Value) (y : MethodName) (len W9 : Nat)
    (Pre : Pt → Array Value → Prop) (Post : Pt → Array Value → Option Value → Pt → Prop) (PostX : Pt → Array Value → Addr → Pt → Prop) : Prop :=
  ∀ (m : MethodId) (meth : Method) (c : Code) (A : Pt) (g : JFrame) (ig : Instr) (mk : MethodId) (a : Array Value),
    Stand p l e R s m sargs below meth c A.U A.locs A.cells A.slots → g.method = m → g.locals.size = c.maxLocals → decode c.code g.pc = .ok (ig, len) →
    2 * g.monitorRoom + (g.stack.map fun v => v.category).sum ≤ W9 → A.U.methodNamed? y = some mk → Pre A a →
    (∃ (v : Option Value) (B : Pt), Stand p l e R s m sargs below meth c B.U B.locs B.cells B.slots ∧ Post A a v B ∧
      Steps p.tables e below (doInvoke e (A.U.setTop g) [] mk a).1 (B.U.setTop { g with pc := g.pc + len, stack := v.toList ++ g.stack })) ∨
    (∃ (q : Addr) (B : Pt), Stand p l e R s m sargs below meth c B.U B.locs B.cells B.slots ∧ PostX A a q B ∧
      Steps p.tables e below (doInvoke e (A.U.setTop g) [] mk a).1 ((B.U.setTop g).pushFrame (.throwing q)))
section Payer
variable {l : Launch} {R : Room} {p : Program} {e : Env} {below : List Frame} {s : State} {sargs : Array Value} {y : MethodName} {len W9 : Nat}
theorem vx_back {ws : List Cond} {rm : Room} {Pc : Array Value → State → Prop} {Qc : Array Value → State → Outcome → State → Prop} {XC : String → State → State → Prop} {mc ms : Nat} {free : Addr → Prop} {bytes : ByteArray} {maxL : Nat} {ret : Option FieldType}
    (hM : vx_Met l y ws rm Pc Qc XC mc ms free) (hblind : FrameBlind Pc) (hrc : rm.cells = mc) (hrs : rm.slots = ms)
    (hframes : rm.frames + 1 ≤ R.frames) (hlocals : W9 + (maxL + 11) + rm.locals ≤ R.locals)
    (hws : ∀ w ∈ ws, ∀ a' U, s.WarmedH U.vm → w.before a' U = true) (hcode : Cond.code y bytes maxL ret ∈ ws) (hinit : ∀ a' U, s.WarmedH U.vm → (Cond.initialized y.cls).before a' U = true) :
    vx_Back l R p e below s sargs y len W9 (PreOf R mc ms Pc) (PostOf Qc mc ms free) (vx_Post XC mc ms free) := by
  intro m meth c A g ig mk a X hg hsize hdg hW hn hp
  have h1 : (headSpec ws rm).pre.before a A.U = true := atoms_intro fun w hw => hws w hw _ _ X.warmed
  have h2 : (Cond.code y bytes maxL ret).before a A.U = true := hws _ hcode _ _ X.warmed
  have h3 : (Cond.initialized y.cls).before a A.U = true := hinit _ _ X.warmed
  have h4 : A.cells + (headSpec ws rm).room.cells ≤ R.cells := by rw [show (headSpec ws rm).room.cells = mc from hrc]; exact hp.1
  have h5 : A.slots + (headSpec ws rm).room.slots ≤ R.slots := by rw [show (headSpec ws rm).room.slots = ms from hrs]; exact hp.2.1
  have hPc : Pc a (A.U.calling g mk a) := hblind _ _ _ _ hp.2.2
  obtain ⟨U, Ls, c0, s0⟩ := A
  dsimp only [Pt.U, Pt.locs, Pt.cells, Pt.slots] at h1 h2 h3 h4 h5 X hn hPc ⊢
  obtain ⟨methY, cY, hmY, hcY, -, hlY, -, -, -, -⟩ := Cond.code_spec hn h2
  obtain ⟨kY, hkY, -⟩ := className_of_methodNamed hn
  have hinitY : kY.init = .initialized := Cond.initialized_spec (findClass_of_methodNamed hn) hkY h3
  have h : At U g.method c below := by rw [hg]; exact X.here
  have hlocals9 : W9 + (maxL + 11) + (headSpec ws rm).room.locals ≤ R.locals := hlocals
  have happ : (headSpec ws rm).appliesLoose y e.platform (U.calling g mk a) = true :=
    Spec.appliesLoose_calling (g := g) h hdg hn hkY hinitY
      (X.room_calling (g := g) (R' := (headSpec ws rm).room) hsize hmY hcY hframes (by rw [hlY]; omega) h4 h5) h1
  obtain ⟨mid, hmid⟩ := h.above
  have hfr : (U.setTop g).frames = (.java g :: mid) ++ below := by rw [State.frames_setTop' g h.top, hmid]; rfl
  obtain ⟨o, s₂, hsteps, -, hend, hq⟩ := Steps.callFree hM p X.admits X.cas X.clock (acts := []) hfr happ hPc trivial
  have hq' : vx_Q Qc XC mc ms free a (U.calling g mk a) o s₂ := hq
  rw [State.frames_setTop' g h.top] at hend
  obtain ⟨g₀, hg0⟩ := Option.isSome_iff_exists.mp h.top
  obtain ⟨r, hr⟩ := State.topJava?_eq_some.mp hg0
  have hr' : (({ U with heap := s₂.heap, slotsUsed := s₂.slotsUsed } : State).setVm s₂.vm).frames = .java g₀ :: r := hr
  rcases hq' with ⟨hqc, L, hfe, hL⟩ | ⟨q, rfl, E, ce, L, hx, hce, hcv, hcl, hW₂, hsm, hL⟩
  · obtain ⟨⟨v, rfl⟩, hW₂, e2, q2, q3, q4, q5, q6⟩ := id hfe
    have e3 : s₂ = ({ (U.calling g mk a).setFrames s₂.frames with heap := s₂.heap, slotsUsed := s₂.slotsUsed } : State).setVm s₂.vm := by
      have : s₂ = ({ s₂ with vm := (U.calling g mk a).vm } : State).setVm s₂.vm := rfl
      rw [e2] at this
      exact this
    obtain ⟨c₂, i₂, len₂, hc₂, hd₂, hf₂⟩ := hend
    have hW' : U.WarmedH s₂.vm := hW₂
    have hcc : c₂ = c := by
      have h1 : s₂.code? g.method = U.code? g.method := by
        rw [State.code?_eq, State.code?_eq, hW'.alike.method?]
      exact Option.some.inj (hc₂.symm.trans (h1.trans h.code))
    subst hcc
    have hlen : len₂ = len := by rw [hdg] at hd₂; cases hd₂; rfl
    subst hlen
    have hs₂ : s₂ = (({ U with heap := s₂.heap, slotsUsed := s₂.slotsUsed } : State).setVm s₂.vm).setTop { g with pc := g.pc + len₂, stack := v.toList ++ g.stack } := by
      refine e3.trans ?_
      rw [hf₂, State.calling_eq h.top, State.setFrames_setFrames, State.setTop_of_frames _ hr', hr]
      rfl
    have hsame : U.sameButNew ({ U with heap := s₂.heap, slotsUsed := s₂.slotsUsed } : State) L mc ms := by
      refine ⟨?_, q2, q3, q4, q5, q6⟩
      obtain ⟨t, ht, -⟩ := State.frames_cons hr
      show ({ U with heap := s₂.heap, slotsUsed := s₂.slotsUsed } : State) = { U.setFrames U.frames with heap := s₂.heap, slotsUsed := s₂.slotsUsed }
      rw [State.setFrames_self ht]
    subst hg
    refine Or.inl ⟨v, ⟨(({ U with heap := s₂.heap, slotsUsed := s₂.slotsUsed } : State).setVm s₂.vm), Ls ++ L, c0 + mc, s0 + ms⟩,
      ⟨X.admits, X.cas, X.clock, X.frames, X.room, X.hears, X.method, X.code, (X.here.setHeapUsed s₂.heap s₂.slotsUsed).setVm hW'.alike, X.tail, State.WarmedH.trans X.warmed hW', X.limits, X.bytes, X.same.trans (hsame.setVm s.vm)⟩,
      ⟨g, mk, s₂, L, rfl, rfl, hqc, rfl, hL, rfl, rfl⟩, ?_⟩
    show Steps p.tables e below _ ((({ U with heap := s₂.heap, slotsUsed := s₂.slotsUsed } : State).setVm s₂.vm).setTop { g with pc := g.pc + len₂, stack := v.toList ++ g.stack })
    rw [← hs₂]
    exact hsteps
  · obtain ⟨e2, q2, q3, q4, q5, q6⟩ := id hsm
    have e3 : s₂ = ({ (U.calling g mk a).setFrames s₂.frames with heap := s₂.heap, slotsUsed := s₂.slotsUsed } : State).setVm s₂.vm := by
      have : s₂ = ({ s₂ with vm := (U.calling g mk a).vm } : State).setVm s₂.vm := rfl
      rw [e2] at this
      exact this
    have hf₂ : s₂.frames = .throwing q :: .java g :: U.frames.tail := hend
    have hW' : U.WarmedH s₂.vm := hW₂
    have hs₂ : s₂ = ((({ U with heap := s₂.heap, slotsUsed := s₂.slotsUsed } : State).setVm s₂.vm).setTop g).pushFrame (.throwing q) := by
      refine e3.trans ?_
      rw [hf₂, State.calling_eq h.top, State.setFrames_setFrames, State.pushFrame, State.frames_setTop _ hr', State.setTop_of_frames _ hr', State.setFrames_setFrames, hr]
      rfl
    have hsame : U.sameButNew ({ U with heap := s₂.heap, slotsUsed := s₂.slotsUsed } : State) L mc ms := by
      refine ⟨?_, q2, q3, q4, q5, q6⟩
      obtain ⟨t, ht, -⟩ := State.frames_cons hr
      show ({ U with heap := s₂.heap, slotsUsed := s₂.slotsUsed } : State) = { U.setFrames U.frames with heap := s₂.heap, slotsUsed := s₂.slotsUsed }
      rw [State.setFrames_self ht]
    subst hg
    refine Or.inr ⟨q, ⟨(({ U with heap := s₂.heap, slotsUsed := s₂.slotsUsed } : State).setVm s₂.vm), Ls ++ L, c0 + mc, s0 + ms⟩,
      ⟨X.admits, X.cas, X.clock, X.frames, X.room, X.hears, X.method, X.code, (X.here.setHeapUsed s₂.heap s₂.slotsUsed).setVm hW'.alike, X.tail, State.WarmedH.trans X.warmed hW', X.limits, X.bytes, X.same.trans (hsame.setVm s.vm)⟩,
      ⟨g, mk, s₂, L, E, ce, rfl, rfl, hx, hce, hcv, hcl, rfl, hL, rfl, rfl⟩, ?_⟩
    show Steps p.tables e below _ (((({ U with heap := s₂.heap, slotsUsed := s₂.slotsUsed } : State).setVm s₂.vm).setTop g).pushFrame (.throwing q))
    rw [← hs₂]
    exact hsteps
end Payer
section Calls
variable {p : Program} {l : Launch} {e : Env} {R : Room} {s : State} {m : MethodId} {args : Array Value} {below : List Frame} {meth : Method} {c : Code} {T : State} {locs : List Loc} {cells slots : Nat}
theorem vx_callV (X : Stand p l e R s m args below meth c T locs cells slots) (hexec : p.tables.exec = Jvm.exec) {own C : String} {index : Nat} {y : MethodName} {bytes : ByteArray} {maxL : Nat} {ret : Option FieldType}
    (hown : s.vm.findClass own = some m.cls) (hlink : (Cond.methodLink own index y).before args s = true) (hinst : (Cond.instanceMethod y).before args s = true) (hsel : (Cond.selects C y y).before args s = true)
    (hcode : (Cond.code y bytes maxL ret).before args s = true) (hy : y.cls ≠ "java/lang/invoke/MethodHandle" ∧ y.cls ≠ "java/lang/invoke/VarHandle")
    {W9 : Nat} {Pre : Pt → Array Value → Prop} {Post : Pt → Array Value → Option Value → Pt → Prop} {PostX : Pt → Array Value → Addr → Pt → Prop} (hK : vx_Back l R p e below s args y 3 W9 Pre Post PostX)
    {b : Addr} {cellB : Cell} (hcell : T.heap[b]? = some cellB) (hobj : cellB.vm.isStatics = false) (hcls : s.vm.findClass C = some cellB.cls)
    {g : JFrame} (hg : g.method = m) (hsize : g.locals.size = c.maxLocals) {argsL rest : List Value} (hlen : ∀ sig, parseMethodDescriptor y.desc = some sig → argsL.length = sig.parameters.length)
    (hstack : g.stack = argsL.reverse ++ .ref b :: rest) (hW : 2 * g.monitorRoom + (rest.map fun v => v.category).sum ≤ W9) (hdg : decode c.code g.pc = .ok (.invokevirtual index, 3))
    (hpre : ∀ vm₁, s.WarmedH vm₁ → Pre ⟨T.setVm vm₁, locs, cells, slots⟩ (Value.ref b :: argsL).toArray) :
    (∃ (v : Option Value) (vm₁ : Vm) (B : Pt), s.WarmedH vm₁ ∧ Stand p l e R s m args below meth c B.U B.locs B.cells B.slots ∧ Post ⟨T.setVm vm₁, locs, cells, slots⟩ (Value.ref b :: argsL).toArray v B ∧
      ∀ target, Steps p.tables e below (B.U.setTop { g with pc := g.pc + 3, stack := v.toList ++ rest }) target → Steps p.tables e below (T.setTop g) target) ∨
    (∃ (q : Addr) (vm₁ : Vm) (B : Pt), s.WarmedH vm₁ ∧ Stand p l e R s m args below meth c B.U B.locs B.cells B.slots ∧ PostX ⟨T.setVm vm₁, locs, cells, slots⟩ (Value.ref b :: argsL).toArray q B ∧
      Steps p.tables e below (T.setTop g) ((B.U.setTop { g with stack := rest }).pushFrame (.throwing q))) := by
  obtain ⟨mk, methM, hnamed, hmethM, hstM, habM⟩ := Cond.instanceMethod_spec hinst
  obtain ⟨methM', cM, hmethM', -, -, -, -, -, -, hsigM⟩ := Cond.code_spec hnamed hcode
  cases hmethM.symm.trans hmethM'
  obtain ⟨c2, r2, m2, q1, q2, q3, q4, kP, hkP, hkPi⟩ := Cond.selects_spec hsel
  cases hcls.symm.trans q1
  cases (State.methodFound?_of_named hnamed hy).symm.trans q2
  cases hnamed.symm.trans q3
  have hselP : selectMethod e.platform s.vm cellB.cls mk = .method mk := by rw [Launch.admits_selectMethod X.admits]; exact q4
  obtain ⟨vm₁, X₁, hstep₁⟩ := X.invokevirtual hexec hown hlink hnamed hmethM hstM hkP hkPi hy (a := b) (cell := cellB) hcell
    (fun z h => by rw [h] at hobj; cases hobj) hselP hmethM habM hkP hkPi (g := g) hg (argsL := argsL) (rest := rest) (hlen _ hsigM) hstack hdg
  rcases hK m meth c ⟨T.setVm vm₁, locs, cells, slots⟩ { g with stack := rest } (.invokevirtual index) mk (Value.ref b :: argsL).toArray X₁ hg hsize hdg hW (X₁.named hnamed) (hpre vm₁ X₁.warmed) with ⟨v, B, X', hpost, hsteps⟩ | ⟨q, B, X', hpost, hsteps⟩
  · exact Or.inl ⟨v, vm₁, B, X₁.warmed, X', hpost, fun target h => hstep₁ _ fun acts => by rw [doInvoke_state]; exact hsteps.trans h⟩
  · exact Or.inr ⟨q, vm₁, B, X₁.warmed, X', hpost, hstep₁ _ fun acts => by rw [doInvoke_state]; exact hsteps⟩
theorem vx_callS (X : Stand p l e R s m args below meth c T locs cells slots) (hexec : p.tables.exec = Jvm.exec) {own : String} {index : Nat} {y : MethodName} {bytes : ByteArray} {maxL : Nat} {ret : Option FieldType}
    (hown : s.vm.findClass own = some m.cls) (hlink : (Cond.methodLink own index y).before args s = true) (hstat : (Cond.static y).before args s = true) (hinit : (Cond.initialized y.cls).before args s = true)
    (hcode : (Cond.code y bytes maxL ret).before args s = true) (hy : y.cls ≠ "java/lang/invoke/MethodHandle" ∧ y.cls ≠ "java/lang/invoke/VarHandle")
    {W9 : Nat} {Pre : Pt → Array Value → Prop} {Post : Pt → Array Value → Option Value → Pt → Prop} {PostX : Pt → Array Value → Addr → Pt → Prop} (hK : vx_Back l R p e below s args y 3 W9 Pre Post PostX)
    {g : JFrame} (hg : g.method = m) (hsize : g.locals.size = c.maxLocals) {argsL rest : List Value} (hlen : ∀ sig, parseMethodDescriptor y.desc = some sig → argsL.length = sig.parameters.length)
    (hstack : g.stack = argsL.reverse ++ rest) (hW : 2 * g.monitorRoom + (rest.map fun v => v.category).sum ≤ W9) (hdg : decode c.code g.pc = .ok (.invokestatic index, 3))
    (hpre : ∀ vm₁, s.WarmedH vm₁ → Pre ⟨T.setVm vm₁, locs, cells, slots⟩ argsL.toArray) :
    (∃ (v : Option Value) (vm₁ : Vm) (B : Pt), s.WarmedH vm₁ ∧ Stand p l e R s m args below meth c B.U B.locs B.cells B.slots ∧ Post ⟨T.setVm vm₁, locs, cells, slots⟩ argsL.toArray v B ∧
      ∀ target, Steps p.tables e below (B.U.setTop { g with pc := g.pc + 3, stack := v.toList ++ rest }) target → Steps p.tables e below (T.setTop g) target) ∨
    (∃ (q : Addr) (vm₁ : Vm) (B : Pt), s.WarmedH vm₁ ∧ Stand p l e R s m args below meth c B.U B.locs B.cells B.slots ∧ PostX ⟨T.setVm vm₁, locs, cells, slots⟩ argsL.toArray q B ∧
      Steps p.tables e below (T.setTop g) ((B.U.setTop { g with stack := rest }).pushFrame (.throwing q))) := by
  obtain ⟨mk, hnamed⟩ := Cond.code_named hcode
  obtain ⟨methM, cM, hmethM, -, -, -, -, -, -, hsigM⟩ := Cond.code_spec hnamed hcode
  have hstatic : methM.isStatic = true := Cond.static_spec hnamed hmethM hstat
  obtain ⟨kP, hkP, -⟩ := className_of_methodNamed hnamed
  have hinitP : kP.init = .initialized := Cond.initialized_spec (findClass_of_methodNamed hnamed) hkP hinit
  obtain ⟨vm₁, X₁, hstep₁⟩ := X.invokestatic hexec hown hlink hnamed hmethM hstatic hkP hinitP hy (g := g) hg (argsL := argsL) (rest := rest) (hlen _ hsigM) hstack hdg
  rcases hK m meth c ⟨T.setVm vm₁, locs, cells, slots⟩ { g with stack := rest } (.invokestatic index) mk argsL.toArray X₁ hg hsize hdg hW (X₁.named hnamed) (hpre vm₁ X₁.warmed) with ⟨v, B, X', hpost, hsteps⟩ | ⟨q, B, X', hpost, hsteps⟩
  · exact Or.inl ⟨v, vm₁, B, X₁.warmed, X', hpost, fun target h => hstep₁ _ fun acts => by rw [doInvoke_state]; exact hsteps.trans h⟩
  · exact Or.inr ⟨q, vm₁, B, X₁.warmed, X', hpost, hstep₁ _ fun acts => by rw [doInvoke_state]; exact hsteps⟩
end Calls
theorem vx_cls {s : State} {T : State} {vm₁ : Vm} {E : String} {k : ClassId} (hW : s.WarmedH vm₁) (h : (T.setVm vm₁).vm.findClass E = some k) : s.vm.findClass E = some k := by
  have h1 : vm₁.findClass E = some k := h
  rw [hW.alike.findClass] at h1
  exact h1
/-- the method's frame g, with q thrown over it -/
def vx_W (p : Program) (l : Launch) (e : Env) (R : Room) (s : State) (m : MethodId) (args : Array Value) (below : List Frame) (meth : Method) (c : Code) (H : Heap) (locs : List Loc) (cells slots : Nat) (Q : State → Prop) (g : JFrame) (q : Addr) : Prop :=
  ∀ T : State, T.heap = H → Stand p l e R s m args below meth c T locs cells slots → ∃ t, Steps p.tables e below ((T.setTop g).pushFrame (.throwing q)) t ∧ Q t
def vx_Run (p : Program) (l : Launch) (e : Env) (R : Room) (s : State) (m : MethodId) (args : Array Value) (below : List Frame) (meth : Method) (c : Code) (H : Heap) (locs : List Loc) (cells slots mc ms : Nat) (g : JFrame) (rest : List Value) (Qa : State → Outcome → State → Prop) (XC : String → State → State → Prop) (free : Addr → Prop) : Prop :=
  ∀ T : State, T.heap = H → Stand p l e R s m args below meth c T locs cells slots →
    (∃ (v : Option Value) (st₀ t T' : State) (L : List Loc), st₀.heap = H ∧ Stand p l e R s m args below meth c T' (locs ++ L) (cells + mc) (slots + ms) ∧ (∀ q ∈ L, free q.base) ∧ T'.heap = t.heap ∧ T'.vm = t.vm ∧ Qa st₀ (.returned v) t ∧
      Goes p e below T g T' { g with pc := g.pc + 3, stack := v.toList ++ rest }) ∨
    (∃ (q : Addr) (st₀ t T' : State) (L : List Loc) (E : String) (ce : Cell), st₀.heap = H ∧ Stand p l e R s m args below meth c T' (locs ++ L) (cells + mc) (slots + ms) ∧ (∀ z ∈ L, free z.base) ∧ T'.heap = t.heap ∧ T'.vm = t.vm ∧ XC E st₀ t ∧ t.heap[q]? = some ce ∧ ce.vm = .none ∧ s.vm.findClass E = some ce.cls ∧
      Steps p.tables e below (T.setTop g) ((T'.setTop { g with stack := rest }).pushFrame (.throwing q)))
def vx_X {S : Type} (px : S → Prop) (B : String → S → State → Prop) (A : Nat → Prop) : String → State → State → Prop := fun E st t => ∃ u : S, px u ∧ B E u t ∧ va_F A st t
section Runs
variable {p : Program} {l : Launch} {e : Env} {R : Room} {s : State} {m : MethodId} {args : Array Value} {below : List Frame} {meth : Method} {c : Code} {H : Heap} {locs : List Loc} {cells slots : Nat}
variable {y : MethodName} {bytes cc : ByteArray} {maxL nL mc ms n index : Nat} {ret : Option FieldType} {ws : List Cond} {rm : Room} {Pc : Array Value → State → Prop} {Qc : Array Value → State → Outcome → State → Prop} {XC : String → State → State → Prop} {free : Addr → Prop} {Ts : List Cond} {own C : String} {b : Addr} {As rest : List Value} {g : JFrame}
theorem vx_callBack (cb : CallB R s args own index y bytes maxL ret ws rm mc ms n) (hM : vx_Met l y ws rm Pc Qc XC mc ms free) (hbl : FrameBlind Pc) : vx_Back l R p e below s args y 3 8 (PreOf R mc ms Pc) (PostOf Qc mc ms free) (vx_Post XC mc ms free) := by
  obtain ⟨hrc, hrs, hfr, hlo, hws, hcw, -, hini, -⟩ := cb
  exact vx_back (bytes := bytes) (maxL := maxL) (ret := ret) hM hbl hrc hrs hfr hlo hws hcw (fun a' U hW => word_at hW (Or.inl (by first | rfl | simp [Cond.onTables, Cond.keeps, Cond.steady])) hini)
theorem vx_runV (S : CallFix p m c cc nL s args Ts own) (hM : vx_Met l y ws rm Pc Qc XC mc ms free) (cw : CallW R s args own C index y bytes maxL ret ws rm mc ms n) (hp : PreV s H C b Pc As)
    (hg : g.method = m) (hn : As.length = n) (hsize : g.locals.size = nL) (hstack : g.stack = As.reverse ++ .ref b :: rest) (hW : 2 * g.monitorRoom + (rest.map fun v => v.category).sum ≤ 8) (hdg : decode cc g.pc = .ok (.invokevirtual index, 3)) (hf : cells + mc ≤ R.cells ∧ slots + ms ≤ R.slots) :
    vx_Run p l e R s m args below meth c H locs cells slots mc ms g rest (Qc (Value.ref b :: As).toArray) XC free := by
  have hK : vx_Back l R p e below s args y 3 8 (PreOf R mc ms Pc) (PostOf Qc mc ms free) (vx_Post XC mc ms free) := vx_callBack cw.1 hM hp.1
  obtain ⟨⟨-, -, -, -, -, -, hcode, -, hy, hlen, hl⟩, hin, hse⟩ := cw
  obtain ⟨hx, hb, hml, ho, -⟩ := S
  obtain ⟨-, ⟨cellB, hcB, hoB, hclB⟩, hPc⟩ := hp
  intro T hT X
  rcases vx_callV X hx (C := C) (bytes := bytes) (maxL := maxL) (ret := ret) ho hl hin hse hcode hy hK (by rw [hT]; exact hcB) hoB hclB hg (hsize.trans hml.symm) (argsL := As) (rest := rest) (fun sig h => hn.trans (hlen sig h)) hstack hW (by rw [hb]; exact hdg)
    (fun vm₁ hW₁ => ⟨hf.1, hf.2, hPc (T.setVm vm₁) hT hW₁⟩) with ⟨v, vm₁, ⟨U', l2, c2, s2⟩, hW₁, X', ⟨g', mk, t, L, e1, e2, hq, h1, hL, h2, h3⟩, st⟩ | ⟨q, vm₁, ⟨U', l2, c2, s2⟩, hW₁, X', ⟨g', mk, t, L, E, ce, e1, e2, hq, hce, hcv, hcl, h1, hL, h2, h3⟩, st⟩
  · dsimp only [Pt.U, Pt.locs, Pt.cells, Pt.slots] at X' e1 e2 h1 h2 h3 st
    subst h1; subst h2; subst h3
    exact Or.inl ⟨v, (T.setVm vm₁).calling g' mk (Value.ref b :: As).toArray, t, U', L, hT, X', hL, e1, e2, hq, st⟩
  · dsimp only [Pt.U, Pt.locs, Pt.cells, Pt.slots] at X' e1 e2 h1 h2 h3 st hcl
    subst h1; subst h2; subst h3
    exact Or.inr ⟨q, (T.setVm vm₁).calling g' mk (Value.ref b :: As).toArray, t, U', L, E, ce, hT, X', hL, e1, e2, hq, hce, hcv, vx_cls hW₁ hcl, st⟩
theorem vx_runS (S : CallFix p m c cc nL s args Ts own) (hM : vx_Met l y ws rm Pc Qc XC mc ms free) (cw : CallB R s args own index y bytes maxL ret ws rm mc ms n ∧ (Cond.static y).before args s = true) (hp : PreS s H Pc As)
    (hg : g.method = m) (hn : As.length = n) (hsize : g.locals.size = nL) (hstack : g.stack = As.reverse ++ rest) (hW : 2 * g.monitorRoom + (rest.map fun v => v.category).sum ≤ 8) (hdg : decode cc g.pc = .ok (.invokestatic index, 3)) (hf : cells + mc ≤ R.cells ∧ slots + ms ≤ R.slots) :
    vx_Run p l e R s m args below meth c H locs cells slots mc ms g rest (Qc As.toArray) XC free := by
  have hK : vx_Back l R p e below s args y 3 8 (PreOf R mc ms Pc) (PostOf Qc mc ms free) (vx_Post XC mc ms free) := vx_callBack cw.1 hM hp.1
  obtain ⟨⟨-, -, -, -, -, -, hcode, hini, hy, hlen, hl⟩, hstt⟩ := cw
  obtain ⟨hx, hb, hml, ho, -⟩ := S
  intro T hT X
  rcases vx_callS X hx (bytes := bytes) (maxL := maxL) (ret := ret) ho hl hstt hini hcode hy hK hg (hsize.trans hml.symm) (argsL := As) (rest := rest) (fun sig h => hn.trans (hlen sig h)) hstack hW (by rw [hb]; exact hdg)
    (fun vm₁ hW₁ => ⟨hf.1, hf.2, hp.2 (T.setVm vm₁) hT hW₁⟩) with ⟨v, vm₁, ⟨U', l2, c2, s2⟩, hW₁, X', ⟨g', mk, t, L, e1, e2, hq, h1, hL, h2, h3⟩, st⟩ | ⟨q, vm₁, ⟨U', l2, c2, s2⟩, hW₁, X', ⟨g', mk, t, L, E, ce, e1, e2, hq, hce, hcv, hcl, h1, hL, h2, h3⟩, st⟩
  · dsimp only [Pt.U, Pt.locs, Pt.cells, Pt.slots] at X' e1 e2 h1 h2 h3 st
    subst h1; subst h2; subst h3
    exact Or.inl ⟨v, (T.setVm vm₁).calling g' mk As.toArray, t, U', L, hT, X', hL, e1, e2, hq, st⟩
  · dsimp only [Pt.U, Pt.locs, Pt.cells, Pt.slots] at X' e1 e2 h1 h2 h3 st hcl
    subst h1; subst h2; subst h3
    exact Or.inr ⟨q, (T.setVm vm₁).calling g' mk As.toArray, t, U', L, E, ce, hT, X', hL, e1, e2, hq, hce, hcv, vx_cls hW₁ hcl, st⟩
end Runs
section Rows
variable {p : Program} {l : Launch} {e : Env} {R : Room} {s : State} {m : MethodId} {args : Array Value} {below : List Frame} {meth : Method} {c : Code} {H : Heap} {locs : List Loc} {cells slots : Nat} {Q : State → Prop}
variable {mc ms : Nat} {free : Addr → Prop} {A0 A1 : Nat → Prop} {H0 : Heap} {a : Array Value} {pc : Nat} {ls : Array Slot} {st0 rest : List Value}
theorem vx_keep {st₀ t T' : State} {L : List Loc} (h0 : st₀.heap = H) (e1 : T'.heap = t.heap) (hS : va_S A0 H0 H locs) (hA : ∀ q, q < H.size → A1 q → A0 q) (hf : ∀ q, free q → A0 q) (hL : ∀ q ∈ L, free q.base) (hF : va_F A1 st₀ t) :
    H.size ≤ T'.heap.size ∧ (∀ q : Nat, q < H.size → ¬ A1 q → T'.heap[q]? = H[q]?) ∧ va_S A0 H0 T'.heap (locs ++ L) := by
  obtain ⟨hz, hk⟩ := hF
  rw [h0] at hz hk
  exact ⟨by rw [e1]; exact hz, fun q h1 h2 => by rw [e1]; exact hk q h1 h2,
    ⟨Nat.le_trans hS.1 (by rw [e1]; exact hz), fun q h1 h2 => by rw [e1, hk q (Nat.lt_of_lt_of_le h1 hS.1) (fun z => h2 (hA q (Nat.lt_of_lt_of_le h1 hS.1) z))]; exact hS.2.1 q h1 h2, fun q hq => by
      rcases List.mem_append.mp hq with h | h
      · exact hS.2.2 q h
      · exact hf _ (hL q h)⟩⟩
theorem vx_calli {S SX : Type} {post : Int32 → S → Prop} {px : SX → Prop} {B : S → State → Prop} {BX : String → SX → State → Prop} {AX : Nat → Prop} (hr : vx_Run p l e R s m args below meth c H locs cells slots mc ms (F0 m pc ls st0) rest (va_Qi post B A1 a) (vx_X px BX AX) free) (hS : va_S A0 H0 H locs) (hA : ∀ q, q < H.size → A1 q → A0 q) (hf : ∀ q, free q → A0 q) (hAX : ∀ q, q < H.size → AX q → A0 q)
    (kx : ∀ (E : String) (ce : Cell) (q9 : Addr) (u : SX) (t : State) (H1 : Heap) (locs1 : List Loc), t.heap = H1 → s.vm.Alike t.vm → px u → BX E u t → H.size ≤ H1.size → (∀ q : Nat, q < H.size → ¬ AX q → H1[q]? = H[q]?) → va_S A0 H0 H1 locs1 → H1[q9]? = some ce → ce.vm = .none → s.vm.findClass E = some ce.cls → vx_W p l e R s m args below meth c H1 locs1 (cells + mc) (slots + ms) Q (F0 m pc ls rest) q9)
    (kk : ∀ (r : Int32) (u : S) (t : State) (H1 : Heap) (locs1 : List Loc), t.heap = H1 → s.vm.Alike t.vm → post r u → B u t → H.size ≤ H1.size → (∀ q : Nat, q < H.size → ¬ A1 q → H1[q]? = H[q]?) → va_S A0 H0 H1 locs1 → W p l e R s m args below meth c H1 locs1 (cells + mc) (slots + ms) Q (F0 m (pc + 3) ls (.int r :: rest))) : W p l e R s m args below meth c H locs cells slots Q (F0 m pc ls st0) := by
  intro T hT X
  rcases hr T hT X with ⟨v, st₀, t, T', L, h0, X', hL, e1, e2, ⟨⟨r, u, hv, hp, hb⟩, hF⟩, st⟩ | ⟨q, st₀, t, T', L, E, ce, h0, X', hL, e1, e2, ⟨u, hp, hb, hF⟩, hce, hcv, hcl, st⟩
  · cases hv
    obtain ⟨k1, k2, k3⟩ := vx_keep h0 e1 hS hA hf hL hF
    obtain ⟨t2, a1, b1⟩ := kk r u t T'.heap (locs ++ L) e1.symm (by rw [← e2]; exact X'.warmed.alike) hp hb k1 k2 k3 T' rfl X'
    exact ⟨t2, st t2 a1, b1⟩
  · obtain ⟨k1, k2, k3⟩ := vx_keep h0 e1 hS hAX hf hL hF
    obtain ⟨t2, a1, b1⟩ := kx E ce q u t T'.heap (locs ++ L) e1.symm (by rw [← e2]; exact X'.warmed.alike) hp hb k1 k2 k3 (by rw [e1]; exact hce) hcv hcl T' rfl X'
    exact ⟨t2, st.trans a1, b1⟩
theorem vx_calll {S SX : Type} {post : Int64 → S → Prop} {px : SX → Prop} {B : S → State → Prop} {BX : String → SX → State → Prop} {AX : Nat → Prop} (hr : vx_Run p l e R s m args below meth c H locs cells slots mc ms (F0 m pc ls st0) rest (va_Ql post B A1 a) (vx_X px BX AX) free) (hS : va_S A0 H0 H locs) (hA : ∀ q, q < H.size → A1 q → A0 q) (hf : ∀ q, free q → A0 q) (hAX : ∀ q, q < H.size → AX q → A0 q)
    (kx : ∀ (E : String) (ce : Cell) (q9 : Addr) (u : SX) (t : State) (H1 : Heap) (locs1 : List Loc), t.heap = H1 → s.vm.Alike t.vm → px u → BX E u t → H.size ≤ H1.size → (∀ q : Nat, q < H.size → ¬ AX q → H1[q]? = H[q]?) → va_S A0 H0 H1 locs1 → H1[q9]? = some ce → ce.vm = .none → s.vm.findClass E = some ce.cls → vx_W p l e R s m args below meth c H1 locs1 (cells + mc) (slots + ms) Q (F0 m pc ls rest) q9)
    (kk : ∀ (r : Int64) (u : S) (t : State) (H1 : Heap) (locs1 : List Loc), t.heap = H1 → s.vm.Alike t.vm → post r u → B u t → H.size ≤ H1.size → (∀ q : Nat, q < H.size → ¬ A1 q → H1[q]? = H[q]?) → va_S A0 H0 H1 locs1 → W p l e R s m args below meth c H1 locs1 (cells + mc) (slots + ms) Q (F0 m (pc + 3) ls (.long r :: rest))) : W p l e R s m args below meth c H locs cells slots Q (F0 m pc ls st0) := by
  intro T hT X
  rcases hr T hT X with ⟨v, st₀, t, T', L, h0, X', hL, e1, e2, ⟨⟨r, u, hv, hp, hb⟩, hF⟩, st⟩ | ⟨q, st₀, t, T', L, E, ce, h0, X', hL, e1, e2, ⟨u, hp, hb, hF⟩, hce, hcv, hcl, st⟩
  · cases hv
    obtain ⟨k1, k2, k3⟩ := vx_keep h0 e1 hS hA hf hL hF
    obtain ⟨t2, a1, b1⟩ := kk r u t T'.heap (locs ++ L) e1.symm (by rw [← e2]; exact X'.warmed.alike) hp hb k1 k2 k3 T' rfl X'
    exact ⟨t2, st t2 a1, b1⟩
  · obtain ⟨k1, k2, k3⟩ := vx_keep h0 e1 hS hAX hf hL hF
    obtain ⟨t2, a1, b1⟩ := kx E ce q u t T'.heap (locs ++ L) e1.symm (by rw [← e2]; exact X'.warmed.alike) hp hb k1 k2 k3 (by rw [e1]; exact hce) hcv hcl T' rfl X'
    exact ⟨t2, st.trans a1, b1⟩
theorem vx_callf {S SX : Type} {post : UInt32 → S → Prop} {px : SX → Prop} {B : S → State → Prop} {BX : String → SX → State → Prop} {AX : Nat → Prop} (hr : vx_Run p l e R s m args below meth c H locs cells slots mc ms (F0 m pc ls st0) rest (va_Qf post B A1 a) (vx_X px BX AX) free) (hS : va_S A0 H0 H locs) (hA : ∀ q, q < H.size → A1 q → A0 q) (hf : ∀ q, free q → A0 q) (hAX : ∀ q, q < H.size → AX q → A0 q)
    (kx : ∀ (E : String) (ce : Cell) (q9 : Addr) (u : SX) (t : State) (H1 : Heap) (locs1 : List Loc), t.heap = H1 → s.vm.Alike t.vm → px u → BX E u t → H.size ≤ H1.size → (∀ q : Nat, q < H.size → ¬ AX q → H1[q]? = H[q]?) → va_S A0 H0 H1 locs1 → H1[q9]? = some ce → ce.vm = .none → s.vm.findClass E = some ce.cls → vx_W p l e R s m args below meth c H1 locs1 (cells + mc) (slots + ms) Q (F0 m pc ls rest) q9)
    (kk : ∀ (r : UInt32) (u : S) (t : State) (H1 : Heap) (locs1 : List Loc), t.heap = H1 → s.vm.Alike t.vm → post r u → B u t → H.size ≤ H1.size → (∀ q : Nat, q < H.size → ¬ A1 q → H1[q]? = H[q]?) → va_S A0 H0 H1 locs1 → W p l e R s m args below meth c H1 locs1 (cells + mc) (slots + ms) Q (F0 m (pc + 3) ls (.float r :: rest))) : W p l e R s m args below meth c H locs cells slots Q (F0 m pc ls st0) := by
  intro T hT X
  rcases hr T hT X with ⟨v, st₀, t, T', L, h0, X', hL, e1, e2, ⟨⟨r, u, hv, hp, hb⟩, hF⟩, st⟩ | ⟨q, st₀, t, T', L, E, ce, h0, X', hL, e1, e2, ⟨u, hp, hb, hF⟩, hce, hcv, hcl, st⟩
  · cases hv
    obtain ⟨k1, k2, k3⟩ := vx_keep h0 e1 hS hA hf hL hF
    obtain ⟨t2, a1, b1⟩ := kk r u t T'.heap (locs ++ L) e1.symm (by rw [← e2]; exact X'.warmed.alike) hp hb k1 k2 k3 T' rfl X'
    exact ⟨t2, st t2 a1, b1⟩
  · obtain ⟨k1, k2, k3⟩ := vx_keep h0 e1 hS hAX hf hL hF
    obtain ⟨t2, a1, b1⟩ := kx E ce q u t T'.heap (locs ++ L) e1.symm (by rw [← e2]; exact X'.warmed.alike) hp hb k1 k2 k3 (by rw [e1]; exact hce) hcv hcl T' rfl X'
    exact ⟨t2, st.trans a1, b1⟩
theorem vx_calld {S SX : Type} {post : UInt64 → S → Prop} {px : SX → Prop} {B : S → State → Prop} {BX : String → SX → State → Prop} {AX : Nat → Prop} (hr : vx_Run p l e R s m args below meth c H locs cells slots mc ms (F0 m pc ls st0) rest (va_Qd post B A1 a) (vx_X px BX AX) free) (hS : va_S A0 H0 H locs) (hA : ∀ q, q < H.size → A1 q → A0 q) (hf : ∀ q, free q → A0 q) (hAX : ∀ q, q < H.size → AX q → A0 q)
    (kx : ∀ (E : String) (ce : Cell) (q9 : Addr) (u : SX) (t : State) (H1 : Heap) (locs1 : List Loc), t.heap = H1 → s.vm.Alike t.vm → px u → BX E u t → H.size ≤ H1.size → (∀ q : Nat, q < H.size → ¬ AX q → H1[q]? = H[q]?) → va_S A0 H0 H1 locs1 → H1[q9]? = some ce → ce.vm = .none → s.vm.findClass E = some ce.cls → vx_W p l e R s m args below meth c H1 locs1 (cells + mc) (slots + ms) Q (F0 m pc ls rest) q9)
    (kk : ∀ (r : UInt64) (u : S) (t : State) (H1 : Heap) (locs1 : List Loc), t.heap = H1 → s.vm.Alike t.vm → post r u → B u t → H.size ≤ H1.size → (∀ q : Nat, q < H.size → ¬ A1 q → H1[q]? = H[q]?) → va_S A0 H0 H1 locs1 → W p l e R s m args below meth c H1 locs1 (cells + mc) (slots + ms) Q (F0 m (pc + 3) ls (.double r :: rest))) : W p l e R s m args below meth c H locs cells slots Q (F0 m pc ls st0) := by
  intro T hT X
  rcases hr T hT X with ⟨v, st₀, t, T', L, h0, X', hL, e1, e2, ⟨⟨r, u, hv, hp, hb⟩, hF⟩, st⟩ | ⟨q, st₀, t, T', L, E, ce, h0, X', hL, e1, e2, ⟨u, hp, hb, hF⟩, hce, hcv, hcl, st⟩
  · cases hv
    obtain ⟨k1, k2, k3⟩ := vx_keep h0 e1 hS hA hf hL hF
    obtain ⟨t2, a1, b1⟩ := kk r u t T'.heap (locs ++ L) e1.symm (by rw [← e2]; exact X'.warmed.alike) hp hb k1 k2 k3 T' rfl X'
    exact ⟨t2, st t2 a1, b1⟩
  · obtain ⟨k1, k2, k3⟩ := vx_keep h0 e1 hS hAX hf hL hF
    obtain ⟨t2, a1, b1⟩ := kx E ce q u t T'.heap (locs ++ L) e1.symm (by rw [← e2]; exact X'.warmed.alike) hp hb k1 k2 k3 (by rw [e1]; exact hce) hcv hcl T' rfl X'
    exact ⟨t2, st.trans a1, b1⟩
theorem vx_callv {S SX : Type} {post : S → Prop} {px : SX → Prop} {B : S → State → Prop} {BX : String → SX → State → Prop} {AX : Nat → Prop} (hr : vx_Run p l e R s m args below meth c H locs cells slots mc ms (F0 m pc ls st0) rest (va_Qv post B A1 a) (vx_X px BX AX) free) (hS : va_S A0 H0 H locs) (hA : ∀ q, q < H.size → A1 q → A0 q) (hf : ∀ q, free q → A0 q) (hAX : ∀ q, q < H.size → AX q → A0 q)
    (kx : ∀ (E : String) (ce : Cell) (q9 : Addr) (u : SX) (t : State) (H1 : Heap) (locs1 : List Loc), t.heap = H1 → s.vm.Alike t.vm → px u → BX E u t → H.size ≤ H1.size → (∀ q : Nat, q < H.size → ¬ AX q → H1[q]? = H[q]?) → va_S A0 H0 H1 locs1 → H1[q9]? = some ce → ce.vm = .none → s.vm.findClass E = some ce.cls → vx_W p l e R s m args below meth c H1 locs1 (cells + mc) (slots + ms) Q (F0 m pc ls rest) q9)
    (kk : ∀ (u : S) (t : State) (H1 : Heap) (locs1 : List Loc), t.heap = H1 → s.vm.Alike t.vm → post u → B u t → H.size ≤ H1.size → (∀ q : Nat, q < H.size → ¬ A1 q → H1[q]? = H[q]?) → va_S A0 H0 H1 locs1 → W p l e R s m args below meth c H1 locs1 (cells + mc) (slots + ms) Q (F0 m (pc + 3) ls (rest))) : W p l e R s m args below meth c H locs cells slots Q (F0 m pc ls st0) := by
  intro T hT X
  rcases hr T hT X with ⟨v, st₀, t, T', L, h0, X', hL, e1, e2, ⟨⟨u, hv, hp, hb⟩, hF⟩, st⟩ | ⟨q, st₀, t, T', L, E, ce, h0, X', hL, e1, e2, ⟨u, hp, hb, hF⟩, hce, hcv, hcl, st⟩
  · cases hv
    obtain ⟨k1, k2, k3⟩ := vx_keep h0 e1 hS hA hf hL hF
    obtain ⟨t2, a1, b1⟩ := kk u t T'.heap (locs ++ L) e1.symm (by rw [← e2]; exact X'.warmed.alike) hp hb k1 k2 k3 T' rfl X'
    exact ⟨t2, st t2 a1, b1⟩
  · obtain ⟨k1, k2, k3⟩ := vx_keep h0 e1 hS hAX hf hL hF
    obtain ⟨t2, a1, b1⟩ := kx E ce q u t T'.heap (locs ++ L) e1.symm (by rw [← e2]; exact X'.warmed.alike) hp hb k1 k2 k3 (by rw [e1]; exact hce) hcv hcl T' rfl X'
    exact ⟨t2, st.trans a1, b1⟩
end Rows
section Ends
variable {p : Program} {l : Launch} {e : Env} {R : Room} {s : State} {m : MethodId} {args : Array Value} {below : List Frame} {meth : Method} {c : Code} {H : Heap} {locs : List Loc} {cells slots : Nat} {Q : State → Prop}
variable {mc ms : Nat} {free : Addr → Prop} {A0 A1 : Nat → Prop} {H0 : Heap} {a : Array Value} {ls : Array Slot} {st0 rest : List Value}
variable {Qc : Array Value → State → Outcome → State → Prop} {XC : String → State → State → Prop}
/-- what a body that may throw owes at its end -/
def vx_MQ (below : List Frame) (Qc : Array Value → State → Outcome → State → Prop) (XC : String → State → State → Prop) (a : Array Value) (s : State) (mc ms : Nat) (free : Addr → Prop) : State → Prop := fun t =>
  ∃ o, t.status = .running ∧ Ended t below o ∧ vx_Q Qc XC mc ms free a s o t
theorem vx_ret {g : JFrame} {mc ms : Nat} (k : W p l e R s m args below meth c H locs cells slots (MQ below Qc args s mc ms free) g) : W p l e R s m args below meth c H locs cells slots (vx_MQ below Qc XC args s mc ms free) g := by
  intro T hT X
  obtain ⟨t, a1, o, b1, b2, b3, b4⟩ := k T hT X
  exact ⟨t, a1, o, b1, b2, Or.inl ⟨b3, b4⟩⟩
/-- not caught here: it goes on to the caller -/
theorem vx_widen {g : JFrame} {q : Addr} {k n : Nat} (h1 : cells ≤ k) (h2 : slots ≤ n) (kk : vx_W p l e R s m args below meth c H locs k n Q g q) : vx_W p l e R s m args below meth c H locs cells slots Q g q := fun T hT X => kk T hT (stand_widen X h1 h2)
theorem vx_out {pc : Nat} {E : String} {ce : Cell} {q : Addr} {mc ms : Nat} (hout : ∀ x ∈ c.exceptionTable.toList, covers x pc = false) (hlocks : meth.locks = false) (hcell : H[q]? = some ce) (hv : ce.vm = .none) (hcl : s.vm.findClass E = some ce.cls)
    (hx : ∀ t : State, t.heap = H → s.vm.Alike t.vm → XC E s t) (hf : ∀ z ∈ locs, free z.base) (hc : cells ≤ mc) (hs : slots ≤ ms) :
    vx_W p l e R s m args below meth c H locs cells slots (vx_MQ below Qc XC args s mc ms free) (F0 m pc ls rest) q := by
  intro T hT X
  obtain ⟨st1, hrun, hend, hW, hsm⟩ := X.leaveThrown q (g := F0 m pc ls rest) rfl rfl rfl hout hlocks
  have hcell9 : (T.setFrames (.throwing q :: below)).heap[q]? = some ce := by
    show T.heap[q]? = some ce
    rw [hT]; exact hcell
  exact ⟨_, st1, .threw q, hrun, hend, Or.inr ⟨q, rfl, E, ce, locs, hx _ hT hW.alike, hcell9, hv, hcl, hW, hsm.mono hc hs, hf⟩⟩
theorem vx_frame {U : State} {k n : Nat} (h : s.sameButNew ({ U with vm := s.vm } : State) locs k n) : s.heap.size ≤ U.heap.size ∧ ∀ q : Nat, q < s.heap.size → (∀ z ∈ locs, z.base ≠ q) → U.heap[q]? = s.heap[q]? := by
  obtain ⟨-, h2, -, -, -, h6⟩ := h
  refine ⟨h2, fun q hq hz => ?_⟩
  obtain ⟨c9, e1, e2, e3, e4⟩ := h6 q _ (Array.getElem?_eq_getElem hq)
  have hs : c9.slots = (s.heap[q]).slots := Array.ext_getElem? fun i => e4 i fun hm => hz _ hm rfl
  have h9 : c9 = s.heap[q] := by
    rw [hs] at e2
    exact e2
  have e5 : U.heap[q]? = some c9 := e1
  rw [e5, h9, Array.getElem?_eq_getElem hq]
/-- the words of a throw but the four that speak of the heap -/
def vx_no (w : Cond) : Bool := decide (w ≠ .isRef (.static Bundle.tN "UNASSIGNED_STACK" Bundle.steD)) && decide (w ≠ .isRef (.static Bundle.tN "SUPPRESSED_SENTINEL" Bundle.listD)) && decide (w ≠ .laysStatic Bundle.tN "UNASSIGNED_STACK" Bundle.steD) && decide (w ≠ .laysStatic Bundle.tN "SUPPRESSED_SENTINEL" Bundle.listD)
def vx_at0 (own : String) (ic : Nat) (X : String) (names : List String) : List Cond := (Bundle.ownAtoms0 own ic X names).filter vx_no
def vx_atS (own : String) (ic : Nat) (X : String) (names : List String) : List Cond := (Bundle.ownAtoms own ic X names).filter vx_no
/-- a word that the tables alone decide, or a good one -/
def vx_ot (w : Cond) : Bool := w.onTables || goodWord w
theorem vx_ot_at {args a' : Array Value} {s U : State} {w : Cond} (hW : s.WarmedH U.vm) (hvm : s.vm = U.vm) (hg : vx_ot w = true) (h : w.before args s = true) : w.before a' U = true := by
  simp only [vx_ot, Bool.or_eq_true] at hg
  rcases hg with hg | hg
  · exact va_tabs hg hvm h
  · exact word_at hW (good_of_word hg) h
/-- a list's words: the good ones out of the method's own list, the others by premises of their own -/
theorem vx_hat {args : Array Value} {s : State} {L B : List Cond} (h1 : ∀ w ∈ L.filter goodWord, w.before args s = true) (h2 : ∀ w ∈ L.filter (fun w => !goodWord w), w ∈ B) (h3 : ∀ w ∈ B, w.before args s = true) : ∀ w ∈ L, w.before args s = true := by
  intro w hw
  by_cases g : goodWord w = true
  · exact h1 w (List.mem_filter.mpr ⟨hw, g⟩)
  · refine h3 w (h2 w (List.mem_filter.mpr ⟨hw, ?_⟩))
    show (!goodWord w) = true
    cases hgw : goodWord w
    · rfl
    · exact absurd hgw g
theorem vx_c {args : Array Value} {s : State} {w : Cond} {B : List Cond} (h : w.before args s = true) (t : ∀ w ∈ B, w.before args s = true) : ∀ w' ∈ w :: B, w'.before args s = true := fun w' h' => (List.mem_cons.mp h').elim (fun e => by rw [e]; exact h) (t w')
theorem vx_n {args : Array Value} {s : State} : ∀ w ∈ ([] : List Cond), w.before args s = true := fun _ h => nomatch h
theorem vx_own {args : Array Value} {s : State} {L : List Cond} (h1 : ∀ w ∈ L.filter vx_no, w.before args s = true)
    (hU : (Cond.isRef (.static Bundle.tN "UNASSIGNED_STACK" Bundle.steD)).before args s = true) (hN : (Cond.isRef (.static Bundle.tN "SUPPRESSED_SENTINEL" Bundle.listD)).before args s = true)
    (lU : (Cond.laysStatic Bundle.tN "UNASSIGNED_STACK" Bundle.steD).before args s = true) (lN : (Cond.laysStatic Bundle.tN "SUPPRESSED_SENTINEL" Bundle.listD).before args s = true) : ∀ w ∈ L, w.before args s = true := by
  intro w hw
  by_cases e1 : w = .isRef (.static Bundle.tN "UNASSIGNED_STACK" Bundle.steD)
  · rw [e1]; exact hU
  · by_cases e2 : w = .isRef (.static Bundle.tN "SUPPRESSED_SENTINEL" Bundle.listD)
    · rw [e2]; exact hN
    · by_cases e3 : w = .laysStatic Bundle.tN "UNASSIGNED_STACK" Bundle.steD
      · rw [e3]; exact lU
      · by_cases e4 : w = .laysStatic Bundle.tN "SUPPRESSED_SENTINEL" Bundle.listD
        · rw [e4]; exact lN
        · exact h1 w (List.mem_filter.mpr ⟨hw, by unfold vx_no; rw [decide_eq_true e1, decide_eq_true e2, decide_eq_true e3, decide_eq_true e4]; rfl⟩)
/-- where a static field lies, its class's statics cell in H -/
def vx_L (C n d : String) (A : Nat → Prop) (U : State) (H : Heap) : Prop := ∃ (c : ClassId) (k : Class) (i : Nat) (f : Field) (a : Nat) (cell : Cell), U.vm.findClass C = some c ∧ U.fieldFound? C n d = some (c, k, i, f) ∧ f.isStatic = true ∧ k.statics = some a ∧ H[a]? = some cell ∧ cell.vm.isStatics = true ∧ cell.cls = c ∧ f.slot < cell.slots.size ∧ k.staticTypes[f.slot]? = some f.type ∧ ¬ A a
theorem vx_L.moved {C n d : String} {A : Nat → Prop} {u U : State} {H : Heap} (hvm : u.vm.Alike U.vm) (h : vx_L C n d A u H) : vx_L C n d A U H := by
  obtain ⟨c, k, i, f, a, cell, h1, h2, h3, h4, h5, h6, h7, h8, h9, h10⟩ := h
  obtain ⟨k', hi', he⟩ := State.fieldFound?_setVm hvm h2
  exact ⟨c, k', i, f, a, cell, by rw [hvm.findClass]; exact h1, hi', h3, by rw [he]; exact h4, h5, h6, h7, h8, by rw [he]; exact h9, h10⟩
theorem vx_L.kept {C n d : String} {A : Nat → Prop} {U : State} {H H1 : Heap} (h : vx_L C n d A U H) (hq : ∀ a : Nat, a < H.size → ¬ A a → H1[a]? = H[a]?) : vx_L C n d A U H1 := by
  obtain ⟨c, k, i, f, a, cell, h1, h2, h3, h4, h5, h6, h7, h8, h9, h10⟩ := h
  exact ⟨c, k, i, f, a, cell, h1, h2, h3, h4, by rw [hq a (Array.getElem?_eq_some_iff.mp h5).1 h10]; exact h5, h6, h7, h8, h9, h10⟩
theorem vx_L.narrow {C n d : String} {A B : Nat → Prop} {U : State} {H : Heap} (h : vx_L C n d A U H) (hAB : ∀ q, B q → A q) : vx_L C n d B U H := by
  obtain ⟨c, k, i, f, a, cell, h1, h2, h3, h4, h5, h6, h7, h8, h9, h10⟩ := h
  exact ⟨c, k, i, f, a, cell, h1, h2, h3, h4, h5, h6, h7, h8, h9, fun z => h10 (hAB _ z)⟩
theorem vx_L.word {C n d : String} {A : Nat → Prop} {s : State} {args : Array Value} (h : vx_L C n d A s s.heap) : (Cond.laysStatic C n d).before args s = true := by
  obtain ⟨c, k, i, f, a, cell, h1, h2, h3, h4, h5, h6, h7, h8, h9, -⟩ := h
  show (Cond.laysStatic C n d).holds args s none s [] = true
  exact Cond.laysStatic_of h1 h2 h3 h4 h5 h6 h7 h8 h9
/-- .. and what it holds: null or some reference -/
def vx_Zq (C n d : String) (A : Nat → Prop) (U : State) (H : Heap) : Prop := va_Zq C n d A U H ∧ vx_L C n d A U H
theorem vx_Zq.moved {C n d : String} {A : Nat → Prop} {u U : State} {H : Heap} (hvm : u.vm.Alike U.vm) (h : vx_Zq C n d A u H) : vx_Zq C n d A U H := ⟨va_Zq.moved hvm h.1, vx_L.moved hvm h.2⟩
theorem vx_Zq.kept {C n d : String} {A : Nat → Prop} {U : State} {H H1 : Heap} (h : vx_Zq C n d A U H) (hq : ∀ a : Nat, a < H.size → ¬ A a → H1[a]? = H[a]?) : vx_Zq C n d A U H1 := ⟨va_Zq.kept h.1 hq, vx_L.kept h.2 hq⟩
theorem vx_Zq.narrow {C n d : String} {A B : Nat → Prop} {U : State} {H : Heap} (h : vx_Zq C n d A U H) (hAB : ∀ q, B q → A q) : vx_Zq C n d B U H := ⟨va_Zq.narrow h.1 hAB, vx_L.narrow h.2 hAB⟩
theorem vx_Zqof {args : Array Value} {s : State} {C n d : String} {A : Nat → Prop} (hl : (Cond.laysStatic C n d).before args s = true) (hini : (Cond.initialized C).before args s = true) (h : (Cond.isRef (.static C n d)).before args s = true) (hA : ∀ a : Nat, a < s.heap.size → ¬ A a) : vx_Zq C n d A s s.heap := by
  refine ⟨va_Zqof hl hini h hA, ?_⟩
  obtain ⟨c, k, i, f, a, cell, h1, h2, h3, h4, h5, h6, h7, h8, h9⟩ := Cond.laysStatic_spec hl
  exact ⟨c, k, i, f, a, cell, h1, h2, h3, h4, h5, h6, h7, h8, h9, hA a (Array.getElem?_eq_some_iff.mp h5).1⟩
theorem vx_isRef {C n d : String} {v : Value} {A : Nat → Prop} {s : State} {args : Array Value} (h : va_Z C n d v A s s.heap) (hv : v.isRef = true) : (Cond.isRef (.static C n d)).before args s = true := by
  obtain ⟨cf, kf, fi, f, a, cell, h1, h2, h3, h4, h5, h6, h7, -⟩ := h
  have he : (Term.static C n d).eval args s none [] s = some v := by
    simp [Term.eval, State.fieldNamed?, h1, h2, h4, h5, h6, h7]
  simp only [Cond.before, Cond.holds, Cond.value, he]
  cases v <;> simp_all [Value.isRef]
theorem vx_isRefq {C n d : String} {A : Nat → Prop} {s : State} {args : Array Value} (h : va_Zq C n d A s s.heap) : (Cond.isRef (.static C n d)).before args s = true := by
  rcases h with h | ⟨t, h⟩
  · exact vx_isRef h rfl
  · exact vx_isRef h rfl
/-- the same frame, seen from here: as if the method were called anew in this heap -/
theorem vx_rebase {T : State} (X : Stand p l e R s m args below meth c T locs cells slots) {R' : Room} (hf : R'.frames ≤ R.frames) (hl : R'.locals ≤ R.locals) (hc : cells + R'.cells ≤ R.cells) (hs : slots + R'.slots ≤ R.slots) :
    Stand p l e R' ((T.setVm s.vm).setFrames (.invoking m args :: below)) m args below meth c T [] 0 0 := by
  have htop : (T.setVm s.vm).topJava?.isSome := X.here.top
  have hF : ((T.setVm s.vm).setFrames (.invoking m args :: below)).frames = .invoking m args :: below := State.frames_setFrames _ (State.cur_lt_of_top htop)
  obtain ⟨g₀, hg0⟩ := Option.isSome_iff_exists.mp htop
  obtain ⟨r, hr⟩ := State.topJava?_eq_some.mp hg0
  have hl9 : e.platform.stackLimits (T.setVm s.vm).me = e.platform.stackLimits s.me := X.limits
  have hb9 : (T.setVm s.vm).me.stackBytes = s.me.stackBytes := X.bytes
  refine ⟨X.admits, X.cas, X.clock, hF, ?_, X.hears, X.method, X.code, X.here, X.tail, X.warmed, ?_, ?_, ?_⟩
  · have h := X.room
    have hU : ((T.setVm s.vm).setFrames (.invoking m args :: below)).localsInUse = s.localsInUse := by
      rw [State.localsInUse_invoking hF (meth := meth) (c := c) X.method X.code, State.localsInUse_invoking X.frames X.method X.code]
    simp only [State.hasRoom, Bool.and_eq_true, decide_eq_true_eq] at h ⊢
    obtain ⟨⟨⟨⟨h1, h2, h3, h4, h5, h6⟩, h7⟩, h8⟩, h9⟩ := h
    rw [X.frames, List.length_cons] at h2 h3
    have q1 := X.heapSize
    have q2 := X.used
    simp only [hF, hU, List.length_cons, State.stackLimits_setFrames, State.stackBytes_setFrames, hl9, hb9]
    refine ⟨⟨⟨⟨by omega, by omega, by omega, by omega, by omega, h6⟩, ?_⟩, ?_⟩, X.book⟩
    · show T.heap.size + R'.cells ≤ e.platform.maxCells
      omega
    · show T.slotsUsed + R'.slots ≤ e.platform.maxSlots
      omega
  · rw [State.stackLimits_setFrames]; rfl
  · rw [State.stackBytes_setFrames]; rfl
  · refine ⟨?_, Nat.le_refl _, Nat.le_refl _, ?_, ?_, fun a c9 h9 => ⟨c9, h9, rfl, rfl, fun _ _ => rfl⟩⟩
    · obtain ⟨t, ht, -⟩ := State.frames_cons hr
      show T.setVm s.vm = { ((T.setVm s.vm).setFrames (.invoking m args :: below)).setFrames (T.setVm s.vm).frames with heap := T.heap, slotsUsed := T.slotsUsed }
      rw [State.setFrames_setFrames, State.setFrames_self ht]
      rfl
    · show T.slotsUsed = T.slotsUsed + ((T.heap.toList.drop T.heap.size).map (·.slots.size)).sum
      rw [List.drop_eq_nil_of_le (Nat.le_of_eq Array.length_toList)]
      rfl
    · show ((T.heap.toList.drop T.heap.size).map (·.slots.size)).sum ≤ 0
      rw [List.drop_eq_nil_of_le (Nat.le_of_eq Array.length_toList)]
      exact Nat.le_refl _
/-- 'throw new E()': new; dup; invokespecial; athrow -/
theorem vx_throw0 {cc : ByteArray} {pc : Nat} (hexec : p.tables.exec = Jvm.exec) (hb : c.code = cc) (hl : l.stackTraces = false) {own cls : String} {names : List String} {ik ic mc ms : Nat} {A : Nat → Prop}
    (hown : s.vm.findClass own = some m.cls) (hcls : Bundle.fit cls = true) (hnames : ∀ n ∈ names, Bundle.fit n = true)
    (hk : (Cond.classLink own ik cls).before args s = true) (hini : (Cond.initialized cls).before args s = true) (hat : ∀ w ∈ vx_at0 own ic cls names, w.before args s = true)
    (hgood : ∀ w ∈ Cond.classLink own ik cls :: Cond.initialized cls :: vx_at0 own ic cls names, vx_ot w = true)
    (hU : vx_Zq Bundle.tN "UNASSIGNED_STACK" Bundle.steD A s s.heap) (hN : vx_Zq Bundle.tN "SUPPRESSED_SENTINEL" Bundle.listD A s s.heap) (hS : va_S A s.heap H locs) (hsize : ls.size = c.maxLocals)
    (d0 : decode cc pc = .ok (.new ik, 3)) (d3 : decode cc (pc + 3) = .ok (.dup, 1)) (d4 : decode cc (pc + 4) = .ok (.invokespecial ic, 3)) (d7 : decode cc (pc + 7) = .ok (.athrow, 1))
    (hout : ∀ x ∈ c.exceptionTable.toList, covers x (pc + 7) = false)
    (hRframes : names.length + 3 < R.frames) (hRlocals : (rest.map fun v => v.category).sum + (13 * (names.length + 1) + 42) ≤ R.locals) (hRcells : cells + 1 ≤ R.cells) (hRslots : slots + 6 ≤ R.slots) (hlocks : meth.locks = false)
    (hx : ∀ t : State, s.vm.Alike t.vm → H.size ≤ t.heap.size → (∀ q : Nat, q < H.size → t.heap[q]? = H[q]?) → XC cls s t)
    (hf : ∀ z ∈ locs, free z.base) (hc : cells + 1 ≤ mc) (hs : slots + 6 ≤ ms) :
    W p l e R s m args below meth c H locs cells slots (vx_MQ below Qc XC args s mc ms free) (F0 m pc ls rest) := by
  intro T hT X
  have htr : e.platform.stackTraces = false := (show e.platform.stackTraces = l.stackTraces by rw [X.admits.platform]).trans hl
  have Y := vx_rebase X (R' := { frames := R.frames, locals := R.locals, cells := 1, slots := 6 }) (Nat.le_refl _) (Nat.le_refl _) hRcells hRslots
  obtain ⟨s', hA⟩ : ∃ z, z = (T.setVm s.vm).setFrames (.invoking m args :: below) := ⟨_, rfl⟩
  rw [← hA] at Y
  have hvm : s'.vm = s.vm := by rw [hA]; rfl
  have hhp : s'.heap = H := by rw [hA]; exact hT
  have hW0 : s.WarmedH s'.vm := by rw [hvm]; exact State.WarmedH.refl s
  have hat' : ∀ w ∈ vx_at0 own ic cls names, w.before args s' = true := fun w hw => vx_ot_at hW0 hvm.symm (hgood w (List.mem_cons_of_mem _ (List.mem_cons_of_mem _ hw))) (hat w hw)
  have hk' : (Cond.classLink own ik cls).before args s' = true := vx_ot_at hW0 hvm.symm (hgood _ List.mem_cons_self) hk
  have hini' : (Cond.initialized cls).before args s' = true := vx_ot_at hW0 hvm.symm (hgood _ (List.mem_cons_of_mem _ List.mem_cons_self)) hini
  have hU' : vx_Zq Bundle.tN "UNASSIGNED_STACK" Bundle.steD A s' s'.heap := by rw [hhp]; exact vx_Zq.moved hW0.alike (hU.kept hS.2.1)
  have hN' : vx_Zq Bundle.tN "SUPPRESSED_SENTINEL" Bundle.listD A s' s'.heap := by rw [hhp]; exact vx_Zq.moved hW0.alike (hN.kept hS.2.1)
  have h : ∀ w ∈ Bundle.ownAtoms0 own ic cls names, w.before args s' = true := vx_own hat' (vx_isRefq hU'.1) (vx_isRefq hN'.1) hU'.2.word hN'.2.word
  have hown' : s'.vm.findClass own = some m.cls := by rw [hvm]; exact hown
  have hins : (Cond.instantiable cls 6).before args s' = true := h _ (by simp [Bundle.ownAtoms0])
  obtain ⟨vm₁, cX, kX, hfX, hkX, -, -, X₁, st1⟩ := Y.newCold hexec (own := own) (C := cls) (index := ik) (n := 6) hown' hk' hins hini'
    (g := F0 m pc ls rest) rfl (by rw [hb]; exact d0) (Nat.le_refl _) (Nat.le_refl _)
  generalize hT1 : (T.setVm vm₁).pushCell { cls := cX, slots := kX.instanceTypes.map defaultValue, vm := .none } = T1 at X₁ st1
  have hcat : (Value.ref T.heap.size).category = 1 := rfl
  have hcellA : T1.heap[T.heap.size]? = some (freshCell cX kX) := by rw [← hT1]; exact State.heap_pushCell_size _ _
  have d3' : decode c.code (pc + 3) = .ok (.dup, 1) := by rw [hb]; exact d3
  obtain ⟨U, hsteps, hrun, hend, hW, hsame, ce, hce, hO⟩ := X₁.ctorThrow0 hexec htr (own := own) (cls := cls) (names := names) (ic := ic) hown' hcls hnames h (fun x hx => nomatch hx) hfX hkX hcellA (by rw [hhp, hT]; exact Nat.le_refl _)
    (g := { method := m, pc := pc + 4, locals := ls, stack := .ref T.heap.size :: .ref T.heap.size :: rest, locked := none }) rfl hsize rfl rfl (rest := rest) rfl
    (by rw [hb]; exact d4) (by rw [hb]; exact d7) hout hRframes (by simp only [List.map_cons, List.sum_cons, hcat]; omega) hlocks
  obtain ⟨f1, f2⟩ := vx_frame hsame
  rw [hhp] at f1 f2
  have hWs : s.WarmedH U.vm := State.WarmedH.trans hW0 hW
  have hcl : s.vm.findClass cls = some ce.cls := by
    have h9 := hO.cls
    rw [hvm] at h9
    exact h9
  have hall : s.sameButNew ({ U with vm := s.vm } : State) locs mc ms := by
    subst hA
    obtain ⟨e1, e2⟩ := hsame
    rw [State.setFrames_setFrames] at e1
    have h2 : (T.setVm s.vm).sameButNew ({ U with vm := s.vm } : State) [] (0 + 1) (0 + 6) := ⟨e1, e2⟩
    have h3 := X.same.trans h2
    rw [List.append_nil] at h3
    exact h3.mono hc hs
  refine ⟨U, ?_, .threw T.heap.size, hrun, hend, Or.inr ⟨T.heap.size, rfl, cls, ce, locs, hx U hWs.alike f1 (fun q hq => f2 q hq (fun z hz => nomatch hz)), hce, hO.vm, hcl, hWs, hall, hf⟩⟩
  refine st1 _ ?_
  show Steps p.tables e below (T1.setTop { method := m, pc := pc + 3, locals := ls, stack := .ref T.heap.size :: rest, locked := none }) _
  jvm_step X₁.here [X₁.here.top, hexec, d3', Value.category]
  exact hsteps
/-- 'throw new E("text")': new; dup; ldc; invokespecial; athrow -/
theorem vx_throwS {cc : ByteArray} {pc : Nat} (hexec : p.tables.exec = Jvm.exec) (hb : c.code = cc) (hl : l.stackTraces = false) {own cls text : String} {names : List String} {ik is ic mc ms sa : Nat} {A : Nat → Prop}
    (hown : s.vm.findClass own = some m.cls) (hcls : Bundle.fit cls = true) (hnames : ∀ n ∈ names, Bundle.fit n = true)
    (hk : (Cond.classLink own ik cls).before args s = true) (hini : (Cond.initialized cls).before args s = true) (hstr : vk_R own is text sa s) (hat : ∀ w ∈ vx_atS own ic cls names, w.before args s = true)
    (hgood : ∀ w ∈ Cond.classLink own ik cls :: Cond.initialized cls :: vx_atS own ic cls names, vx_ot w = true)
    (hU : vx_Zq Bundle.tN "UNASSIGNED_STACK" Bundle.steD A s s.heap) (hN : vx_Zq Bundle.tN "SUPPRESSED_SENTINEL" Bundle.listD A s s.heap) (hS : va_S A s.heap H locs) (hsize : ls.size = c.maxLocals)
    (d0 : decode cc pc = .ok (.new ik, 3)) (d3 : decode cc (pc + 3) = .ok (.dup, 1)) (d4 : decode cc (pc + 4) = .ok (.ldc is, 2)) (d6 : decode cc (pc + 6) = .ok (.invokespecial ic, 3)) (d9 : decode cc (pc + 9) = .ok (.athrow, 1))
    (hout : ∀ x ∈ c.exceptionTable.toList, covers x (pc + 9) = false)
    (hRframes : names.length + 3 < R.frames) (hRlocals : (rest.map fun v => v.category).sum + (13 * (names.length + 1) + 43) ≤ R.locals) (hRcells : cells + 1 ≤ R.cells) (hRslots : slots + 6 ≤ R.slots) (hlocks : meth.locks = false)
    (hx : ∀ t : State, s.vm.Alike t.vm → H.size ≤ t.heap.size → (∀ q : Nat, q < H.size → t.heap[q]? = H[q]?) → XC cls s t)
    (hf : ∀ z ∈ locs, free z.base) (hc : cells + 1 ≤ mc) (hs : slots + 6 ≤ ms) :
    W p l e R s m args below meth c H locs cells slots (vx_MQ below Qc XC args s mc ms free) (F0 m pc ls rest) := by
  intro T hT X
  have htr : e.platform.stackTraces = false := (show e.platform.stackTraces = l.stackTraces by rw [X.admits.platform]).trans hl
  have Y := vx_rebase X (R' := { frames := R.frames, locals := R.locals, cells := 1, slots := 6 }) (Nat.le_refl _) (Nat.le_refl _) hRcells hRslots
  obtain ⟨s', hA⟩ : ∃ z, z = (T.setVm s.vm).setFrames (.invoking m args :: below) := ⟨_, rfl⟩
  rw [← hA] at Y
  have hvm : s'.vm = s.vm := by rw [hA]; rfl
  have hhp : s'.heap = H := by rw [hA]; exact hT
  have hW0 : s.WarmedH s'.vm := by rw [hvm]; exact State.WarmedH.refl s
  have hat' : ∀ w ∈ vx_atS own ic cls names, w.before args s' = true := fun w hw => vx_ot_at hW0 hvm.symm (hgood w (List.mem_cons_of_mem _ (List.mem_cons_of_mem _ hw))) (hat w hw)
  have hk' : (Cond.classLink own ik cls).before args s' = true := vx_ot_at hW0 hvm.symm (hgood _ List.mem_cons_self) hk
  have hini' : (Cond.initialized cls).before args s' = true := vx_ot_at hW0 hvm.symm (hgood _ (List.mem_cons_of_mem _ List.mem_cons_self)) hini
  have hU' : vx_Zq Bundle.tN "UNASSIGNED_STACK" Bundle.steD A s' s'.heap := by rw [hhp]; exact vx_Zq.moved hW0.alike (hU.kept hS.2.1)
  have hN' : vx_Zq Bundle.tN "SUPPRESSED_SENTINEL" Bundle.listD A s' s'.heap := by rw [hhp]; exact vx_Zq.moved hW0.alike (hN.kept hS.2.1)
  have h : ∀ w ∈ Bundle.ownAtoms own ic cls names, w.before args s' = true := vx_own hat' (vx_isRefq hU'.1) (vx_isRefq hN'.1) hU'.2.word hN'.2.word
  have hown' : s'.vm.findClass own = some m.cls := by rw [hvm]; exact hown
  have hins : (Cond.instantiable cls 6).before args s' = true := h _ (by simp [Bundle.ownAtoms])
  obtain ⟨vm₁, cX, kX, hfX, hkX, -, -, X₁, st1⟩ := Y.newCold hexec (own := own) (C := cls) (index := ik) (n := 6) hown' hk' hins hini'
    (g := F0 m pc ls rest) rfl (by rw [hb]; exact d0) (Nat.le_refl _) (Nat.le_refl _)
  generalize hT1 : (T.setVm vm₁).pushCell { cls := cX, slots := kX.instanceTypes.map defaultValue, vm := .none } = T1 at X₁ st1
  have hcat : (Value.ref T.heap.size).category = 1 := rfl
  have hcellA : T1.heap[T.heap.size]? = some (freshCell cX kX) := by rw [← hT1]; exact State.heap_pushCell_size _ _
  have d3' : decode c.code (pc + 3) = .ok (.dup, 1) := by rw [hb]; exact d3
  have d4' : decode c.code (pc + 4) = .ok (.ldc is, 2) := by rw [hb]; exact d4
  have hstr' : vk_R own is text sa s' := vk_R.warm hW0 hstr
  obtain ⟨U, hsteps, hrun, hend, hW, hsame, ce, hce, hO⟩ := X₁.ctorThrowS hexec htr (own := own) (cls := cls) (names := names) (ic := ic) hown' hcls hnames h (fun x hx => nomatch hx) hfX hkX hcellA (by rw [hhp, hT]; exact Nat.le_refl _) (msg := .ref sa) rfl
    (g := { method := m, pc := pc + 6, locals := ls, stack := .ref sa :: .ref T.heap.size :: .ref T.heap.size :: rest, locked := none }) rfl hsize rfl rfl (rest := rest) rfl
    (by rw [hb]; exact d6) (by rw [hb]; exact d9) hout hRframes (by simp only [List.map_cons, List.sum_cons, hcat]; omega) hlocks
  obtain ⟨f1, f2⟩ := vx_frame hsame
  rw [hhp] at f1 f2
  have hWs : s.WarmedH U.vm := State.WarmedH.trans hW0 hW
  have hcl : s.vm.findClass cls = some ce.cls := by
    have h9 := hO.cls
    rw [hvm] at h9
    exact h9
  have hall : s.sameButNew ({ U with vm := s.vm } : State) locs mc ms := by
    subst hA
    obtain ⟨e1, e2⟩ := hsame
    rw [State.setFrames_setFrames] at e1
    have h2 : (T.setVm s.vm).sameButNew ({ U with vm := s.vm } : State) [] (0 + 1) (0 + 6) := ⟨e1, e2⟩
    have h3 := X.same.trans h2
    rw [List.append_nil] at h3
    exact h3.mono hc hs
  refine ⟨U, ?_, .threw T.heap.size, hrun, hend, Or.inr ⟨T.heap.size, rfl, cls, ce, locs, hx U hWs.alike f1 (fun q hq => f2 q hq (fun z hz => nomatch hz)), hce, hO.vm, hcl, hWs, hall, hf⟩⟩
  refine st1 _ ?_
  show Steps p.tables e below (T1.setTop { method := m, pc := pc + 3, locals := ls, stack := .ref T.heap.size :: rest, locked := none }) _
  jvm_step X₁.here [X₁.here.top, hexec, d3', Value.category]
  exact X₁.ldcString hexec (own := own) (text := text) (index := is) (a := sa) hown' hstr'.1 hstr'.2
    (g := { method := m, pc := pc + 4, locals := ls, stack := .ref T.heap.size :: .ref T.heap.size :: rest, locked := none }) rfl d4' _ hsteps
/-- 'throw new E("text")', the text by a wide index -/
theorem vx_throwSW {cc : ByteArray} {pc : Nat} (hexec : p.tables.exec = Jvm.exec) (hb : c.code = cc) (hl : l.stackTraces = false) {own cls text : String} {names : List String} {ik is ic mc ms sa : Nat} {A : Nat → Prop}
    (hown : s.vm.findClass own = some m.cls) (hcls : Bundle.fit cls = true) (hnames : ∀ n ∈ names, Bundle.fit n = true)
    (hk : (Cond.classLink own ik cls).before args s = true) (hini : (Cond.initialized cls).before args s = true) (hstr : vk_R own is text sa s) (hat : ∀ w ∈ vx_atS own ic cls names, w.before args s = true)
    (hgood : ∀ w ∈ Cond.classLink own ik cls :: Cond.initialized cls :: vx_atS own ic cls names, vx_ot w = true)
    (hU : vx_Zq Bundle.tN "UNASSIGNED_STACK" Bundle.steD A s s.heap) (hN : vx_Zq Bundle.tN "SUPPRESSED_SENTINEL" Bundle.listD A s s.heap) (hS : va_S A s.heap H locs) (hsize : ls.size = c.maxLocals)
    (d0 : decode cc pc = .ok (.new ik, 3)) (d3 : decode cc (pc + 3) = .ok (.dup, 1)) (d4 : decode cc (pc + 4) = .ok (.ldc_w is, 3)) (d7 : decode cc (pc + 7) = .ok (.invokespecial ic, 3)) (d10 : decode cc (pc + 10) = .ok (.athrow, 1))
    (hout : ∀ x ∈ c.exceptionTable.toList, covers x (pc + 10) = false)
    (hRframes : names.length + 3 < R.frames) (hRlocals : (rest.map fun v => v.category).sum + (13 * (names.length + 1) + 43) ≤ R.locals) (hRcells : cells + 1 ≤ R.cells) (hRslots : slots + 6 ≤ R.slots) (hlocks : meth.locks = false)
    (hx : ∀ t : State, s.vm.Alike t.vm → H.size ≤ t.heap.size → (∀ q : Nat, q < H.size → t.heap[q]? = H[q]?) → XC cls s t)
    (hf : ∀ z ∈ locs, free z.base) (hc : cells + 1 ≤ mc) (hs : slots + 6 ≤ ms) :
    W p l e R s m args below meth c H locs cells slots (vx_MQ below Qc XC args s mc ms free) (F0 m pc ls rest) := by
  intro T hT X
  have htr : e.platform.stackTraces = false := (show e.platform.stackTraces = l.stackTraces by rw [X.admits.platform]).trans hl
  have Y := vx_rebase X (R' := { frames := R.frames, locals := R.locals, cells := 1, slots := 6 }) (Nat.le_refl _) (Nat.le_refl _) hRcells hRslots
  obtain ⟨s', hA⟩ : ∃ z, z = (T.setVm s.vm).setFrames (.invoking m args :: below) := ⟨_, rfl⟩
  rw [← hA] at Y
  have hvm : s'.vm = s.vm := by rw [hA]; rfl
  have hhp : s'.heap = H := by rw [hA]; exact hT
  have hW0 : s.WarmedH s'.vm := by rw [hvm]; exact State.WarmedH.refl s
  have hat' : ∀ w ∈ vx_atS own ic cls names, w.before args s' = true := fun w hw => vx_ot_at hW0 hvm.symm (hgood w (List.mem_cons_of_mem _ (List.mem_cons_of_mem _ hw))) (hat w hw)
  have hk' : (Cond.classLink own ik cls).before args s' = true := vx_ot_at hW0 hvm.symm (hgood _ List.mem_cons_self) hk
  have hini' : (Cond.initialized cls).before args s' = true := vx_ot_at hW0 hvm.symm (hgood _ (List.mem_cons_of_mem _ List.mem_cons_self)) hini
  have hU' : vx_Zq Bundle.tN "UNASSIGNED_STACK" Bundle.steD A s' s'.heap := by rw [hhp]; exact vx_Zq.moved hW0.alike (hU.kept hS.2.1)
  have hN' : vx_Zq Bundle.tN "SUPPRESSED_SENTINEL" Bundle.listD A s' s'.heap := by rw [hhp]; exact vx_Zq.moved hW0.alike (hN.kept hS.2.1)
  have h : ∀ w ∈ Bundle.ownAtoms own ic cls names, w.before args s' = true := vx_own hat' (vx_isRefq hU'.1) (vx_isRefq hN'.1) hU'.2.word hN'.2.word
  have hown' : s'.vm.findClass own = some m.cls := by rw [hvm]; exact hown
  have hins : (Cond.instantiable cls 6).before args s' = true := h _ (by simp [Bundle.ownAtoms])
  obtain ⟨vm₁, cX, kX, hfX, hkX, -, -, X₁, st1⟩ := Y.newCold hexec (own := own) (C := cls) (index := ik) (n := 6) hown' hk' hins hini'
    (g := F0 m pc ls rest) rfl (by rw [hb]; exact d0) (Nat.le_refl _) (Nat.le_refl _)
  generalize hT1 : (T.setVm vm₁).pushCell { cls := cX, slots := kX.instanceTypes.map defaultValue, vm := .none } = T1 at X₁ st1
  have hcat : (Value.ref T.heap.size).category = 1 := rfl
  have hcellA : T1.heap[T.heap.size]? = some (freshCell cX kX) := by rw [← hT1]; exact State.heap_pushCell_size _ _
  have d3' : decode c.code (pc + 3) = .ok (.dup, 1) := by rw [hb]; exact d3
  have d4' : decode c.code (pc + 4) = .ok (.ldc_w is, 3) := by rw [hb]; exact d4
  have hstr' : vk_R own is text sa s' := vk_R.warm hW0 hstr
  obtain ⟨U, hsteps, hrun, hend, hW, hsame, ce, hce, hO⟩ := X₁.ctorThrowS hexec htr (own := own) (cls := cls) (names := names) (ic := ic) hown' hcls hnames h (fun x hx => nomatch hx) hfX hkX hcellA (by rw [hhp, hT]; exact Nat.le_refl _) (msg := .ref sa) rfl
    (g := { method := m, pc := pc + 7, locals := ls, stack := .ref sa :: .ref T.heap.size :: .ref T.heap.size :: rest, locked := none }) rfl hsize rfl rfl (rest := rest) rfl
    (by rw [hb]; exact d7) (by rw [hb]; exact d10) hout hRframes (by simp only [List.map_cons, List.sum_cons, hcat]; omega) hlocks
  obtain ⟨f1, f2⟩ := vx_frame hsame
  rw [hhp] at f1 f2
  have hWs : s.WarmedH U.vm := State.WarmedH.trans hW0 hW
  have hcl : s.vm.findClass cls = some ce.cls := by
    have h9 := hO.cls
    rw [hvm] at h9
    exact h9
  have hall : s.sameButNew ({ U with vm := s.vm } : State) locs mc ms := by
    subst hA
    obtain ⟨e1, e2⟩ := hsame
    rw [State.setFrames_setFrames] at e1
    have h2 : (T.setVm s.vm).sameButNew ({ U with vm := s.vm } : State) [] (0 + 1) (0 + 6) := ⟨e1, e2⟩
    have h3 := X.same.trans h2
    rw [List.append_nil] at h3
    exact h3.mono hc hs
  refine ⟨U, ?_, .threw T.heap.size, hrun, hend, Or.inr ⟨T.heap.size, rfl, cls, ce, locs, hx U hWs.alike f1 (fun q hq => f2 q hq (fun z hz => nomatch hz)), hce, hO.vm, hcl, hWs, hall, hf⟩⟩
  refine st1 _ ?_
  show Steps p.tables e below (T1.setTop { method := m, pc := pc + 3, locals := ls, stack := .ref T.heap.size :: rest, locked := none }) _
  jvm_step X₁.here [X₁.here.top, hexec, d3', Value.category]
  exact X₁.ldcStringW hexec (own := own) (text := text) (index := is) (a := sa) hown' hstr'.1 hstr'.2
    (g := { method := m, pc := pc + 4, locals := ls, stack := .ref T.heap.size :: .ref T.heap.size :: rest, locked := none }) rfl d4' _ hsteps
end Ends
section Bodies
variable {l : Launch}
theorem vx_ofW {y : MethodName} {ws ws' : List Cond} {rm : Room} {Pc : Array Value → State → Prop} {Qc : Array Value → State → Outcome → State → Prop} {XC : String → State → State → Prop} {mc ms : Nat} {free : Addr → Prop} {cc : ByteArray} {maxL : Nat} {ret : Option FieldType}
    (hy : plainName y.cls = true) (hw : ws = Cond.code y cc maxL ret :: ws')
    (body : ∀ p e s m args below meth c s₁, BodyLoose p l y (headSpec ws rm) cc maxL ret e s m args below meth c s₁ → c.maxLocals = maxL → (∀ x ∈ c.exceptionTable.toList, False) → Pc args s →
      W p l e (headSpec ws rm).room s m args below meth c s.heap [] 0 0 (vx_MQ below Qc XC args s mc ms free) (entryFrame m args maxL)) : vx_Met l y ws rm Pc Qc XC mc ms free := by
  refine MetFree.of_bodyS (code := cc) (maxLocals := maxL) (ret := ret) hy ?_ ?_
  · intro args s m h hn
    obtain ⟨meth, c, h1, h2, h3, h4, h5, h6, -, -⟩ := Cond.code_spec hn (atoms_spec (ws := ws) h _ (by rw [hw]; exact List.mem_cons_self))
    exact ⟨meth, c, h1, h2, h3, h4, h5, h6⟩
  · intro p e s m args below meth c s₁ B hml hP _
    have hh0 : s₁.heap = s.heap := by rw [B.state]; rfl
    have ht : ∀ x ∈ c.exceptionTable.toList, False := by
      obtain ⟨meth9, c9, h1, h2, -, -, -, -, h7, -⟩ := Cond.code_spec B.named (atoms_spec (ws := ws) B.pre _ (by rw [hw]; exact List.mem_cons_self))
      cases Option.some.inj (h1.symm.trans B.method)
      cases Option.some.inj (h2.symm.trans (Stand.of_body B).code)
      intro x hx
      rw [Array.isEmpty_iff.mp h7] at hx
      cases hx
    obtain ⟨t, a1, o, b1, b2, b3⟩ := body p e s m args below meth c s₁ B hml ht hP s₁ hh0 (Stand.of_body B)
    exact ⟨t, o, a1, b1, b2, b3⟩
/-- the table of a body with handlers -/
theorem vx_table {p : Program} {x y : MethodName} {S : Spec} {cc bytes : ByteArray} {maxL maxL' : Nat} {ret ret' : Option FieldType} {e : Env} {s s₁ : State} {m : MethodId} {args : Array Value} {below : List Frame} {meth : Method} {c : Code} {hh : List (Nat × Nat × Nat × Nat)}
    (B : BodyLoose p l y S cc maxL ret e s m args below meth c s₁) (h : (Cond.codeWith y bytes maxL' ret' hh).before args s = true) : c.exceptionTable.toList = tableOf hh := by
  obtain ⟨m9, meth9, c9, hn9, h1, h2, -, -, h6, -⟩ := Cond.codeWith_spec h
  cases Option.some.inj (hn9.symm.trans B.named)
  cases Option.some.inj (h1.symm.trans B.method)
  cases Option.some.inj (h2.symm.trans (Stand.of_body B).code)
  rw [← h6, table_eq]
end Bodies
end VXA
/-! ===== END ===== -/
/-! ===== BEGIN a static call of a method with an exception table ===== -/
section VXS
variable {p : Program} {l : Launch} {e : Env} {R : Room} {s : State} {m : MethodId} {args : Array Value} {below : List Frame} {meth : Method} {c : Code} {T : State} {H : Heap} {locs : List Loc} {cells slots : Nat}
abbrev vx_CSW (R : Room) (s : State) (args : Array Value) (own : String) (index : Nat) (y : MethodName) (bytes : ByteArray) (maxL : Nat) (ret : Option FieldType) (hh : List (Nat × Nat × Nat × Nat)) (ws : List Cond) (rm : Room) (mc ms n : Nat) : Prop :=
  (rm.cells = mc ∧ rm.slots = ms ∧ rm.frames + 1 ≤ R.frames ∧ 8 + (maxL + 11) + rm.locals ≤ R.locals ∧ (∀ w ∈ ws, ∀ (a' : Array Value) (U : State), s.WarmedH U.vm → w.before a' U = true) ∧ Cond.codeWith y bytes maxL ret hh ∈ ws) ∧
  (Cond.codeWith y bytes maxL ret hh).before args s = true ∧ (Cond.initialized y.cls).before args s = true ∧ (y.cls ≠ "java/lang/invoke/MethodHandle" ∧ y.cls ≠ "java/lang/invoke/VarHandle") ∧
  (∀ sig, parseMethodDescriptor y.desc = some sig → n = sig.parameters.length) ∧ (Cond.methodLink own index y).before args s = true ∧ (Cond.static y).before args s = true
theorem vx_cwSW {own : String} {index maxL mc ms : Nat} {y : MethodName} {bytes : ByteArray} {ret : Option FieldType} {hh : List (Nat × Nat × Nat × Nat)} {Ts ws ws' : List Cond} {rm : Room} (n : Nat) (ht : ∀ w ∈ Ts, w.before args s = true) (hT : GoodIn Ts (va_wsS own index y ws)) (hw : ws = Cond.codeWith y bytes maxL ret hh :: ws') (hrc : rm.cells = mc) (hrs : rm.slots = ms)
    (hd : y.cls ≠ "java/lang/invoke/MethodHandle" ∧ y.cls ≠ "java/lang/invoke/VarHandle" ∧ (parseMethodDescriptor y.desc).map (fun d => d.parameters.length) = some n) (hR : rm.frames + 1 ≤ R.frames ∧ 8 + (maxL + 11) + rm.locals ≤ R.locals) :
    vx_CSW R s args own index y bytes maxL ret hh ws rm mc ms n := by
  have ok : ∀ w ∈ va_wsS own index y ws, w.before args s = true := fun w h => ht w (hT w h).1
  have hG : GoodIn Ts ws := fun w h => hT w (by unfold va_wsS; exact List.mem_append_right _ h)
  have hc : Cond.codeWith y bytes maxL ret hh ∈ ws := by rw [hw]; exact List.mem_cons_self
  refine ⟨⟨hrc, hrs, hR.1, hR.2, pay_in ht hG, hc⟩, ht _ (hG _ hc).1, ok _ (by simp [va_wsS]), ⟨hd.1, hd.2.1⟩, fun sig h => ?_, ok _ (by simp [va_wsS]), ok _ (by simp [va_wsS])⟩
  have h2 := hd.2.2
  rw [h] at h2
  exact (Option.some.inj h2).symm
theorem vx_callSW (X : Stand p l e R s m args below meth c T locs cells slots) (hexec : p.tables.exec = Jvm.exec) {own : String} {index : Nat} {y : MethodName} {bytes : ByteArray} {maxL : Nat} {ret : Option FieldType} {hh : List (Nat × Nat × Nat × Nat)}
    (hown : s.vm.findClass own = some m.cls) (hlink : (Cond.methodLink own index y).before args s = true) (hstat : (Cond.static y).before args s = true) (hinit : (Cond.initialized y.cls).before args s = true)
    (hcode : (Cond.codeWith y bytes maxL ret hh).before args s = true) (hy : y.cls ≠ "java/lang/invoke/MethodHandle" ∧ y.cls ≠ "java/lang/invoke/VarHandle")
    {W9 : Nat} {Pre : Pt → Array Value → Prop} {Post : Pt → Array Value → Option Value → Pt → Prop} (hK : Back l R p e below s args y 3 W9 Pre Post)
    {g : JFrame} (hg : g.method = m) (hsize : g.locals.size = c.maxLocals) {argsL rest : List Value} (hlen : ∀ sig, parseMethodDescriptor y.desc = some sig → argsL.length = sig.parameters.length)
    (hstack : g.stack = argsL.reverse ++ rest) (hW : 2 * g.monitorRoom + (rest.map fun v => v.category).sum ≤ W9) (hdg : decode c.code g.pc = .ok (.invokestatic index, 3))
    (hpre : ∀ vm₁, s.WarmedH vm₁ → Pre ⟨T.setVm vm₁, locs, cells, slots⟩ argsL.toArray) :
    ∃ (v : Option Value) (vm₁ : Vm) (B : Pt), s.WarmedH vm₁ ∧ Stand p l e R s m args below meth c B.U B.locs B.cells B.slots ∧ Post ⟨T.setVm vm₁, locs, cells, slots⟩ argsL.toArray v B ∧
      ∀ target, Steps p.tables e below (B.U.setTop { g with pc := g.pc + 3, stack := v.toList ++ rest }) target → Steps p.tables e below (T.setTop g) target := by
  obtain ⟨mk, methM, cM, hnamed, hmethM, -, -, -, -, -, -, hsigM⟩ := Cond.codeWith_spec hcode
  have hstatic : methM.isStatic = true := Cond.static_spec hnamed hmethM hstat
  obtain ⟨kP, hkP, -⟩ := className_of_methodNamed hnamed
  have hinitP : kP.init = .initialized := Cond.initialized_spec (findClass_of_methodNamed hnamed) hkP hinit
  obtain ⟨vm₁, X₁, hstep₁⟩ := X.invokestatic hexec hown hlink hnamed hmethM hstatic hkP hinitP hy (g := g) hg (argsL := argsL) (rest := rest) (hlen _ hsigM) hstack hdg
  obtain ⟨v, B, X', hpost, hsteps⟩ := hK m meth c ⟨T.setVm vm₁, locs, cells, slots⟩ { g with stack := rest } (.invokestatic index) mk argsL.toArray X₁ hg hsize hdg hW (X₁.named hnamed) (hpre vm₁ X₁.warmed)
  exact ⟨v, vm₁, B, X₁.warmed, X', hpost, fun target h => hstep₁ _ fun acts => by rw [doInvoke_state]; exact hsteps.trans h⟩
theorem vx_runSW {y : MethodName} {bytes cc : ByteArray} {maxL nL mc ms n index : Nat} {ret : Option FieldType} {hh : List (Nat × Nat × Nat × Nat)} {ws : List Cond} {rm : Room} {Pc : Array Value → State → Prop} {Qc : Array Value → State → Outcome → State → Prop} {free : Addr → Prop} {Ts : List Cond} {own : String} {As rest : List Value} {g : JFrame}
    (S : CallFix p m c cc nL s args Ts own) (hM : Met l y ws rm Pc Qc mc ms free) (cw : vx_CSW R s args own index y bytes maxL ret hh ws rm mc ms n) (hp : PreS s H Pc As)
    (hg : g.method = m) (hn : As.length = n) (hsize : g.locals.size = nL) (hstack : g.stack = As.reverse ++ rest) (hW : 2 * g.monitorRoom + (rest.map fun v => v.category).sum ≤ 8) (hdg : decode cc g.pc = .ok (.invokestatic index, 3)) (hf : cells + mc ≤ R.cells ∧ slots + ms ≤ R.slots) :
    va_Run p l e R s m args below meth c H locs cells slots mc ms g rest (Qc As.toArray) (free) := by
  obtain ⟨⟨hrc, hrs, hfr, hlo, hws, hcw⟩, hcode, hini, hy, hlen, hl, hstt⟩ := cw
  have hK : Back l R p e below s args y 3 8 (PreOf R mc ms Pc) (PostOf Qc mc ms free) := va_backW (hh := hh) (bytes := bytes) (maxL := maxL) (ret := ret) hM hp.1 hrc hrs hfr hlo hws hcw (fun a' U hW => word_at hW (Or.inl (by first | rfl | simp [Cond.onTables, Cond.keeps, Cond.steady])) hini)
  obtain ⟨hx, hb, hml, ho, -⟩ := S
  intro T hT X
  obtain ⟨v, vm₁, ⟨U', l2, c2, s2⟩, hW₁, X', ⟨g', mk, t, L, e1, e2, hq, h1, hL, h2, h3⟩, st⟩ := vx_callSW X hx (hh := hh) (bytes := bytes) (maxL := maxL) (ret := ret) ho hl hstt hini hcode hy hK hg (hsize.trans hml.symm) (argsL := As) (rest := rest) (fun sig h => hn.trans (hlen sig h)) hstack hW (by rw [hb]; exact hdg)
    (fun vm₁ hW₁ => ⟨hf.1, hf.2, hp.2 (T.setVm vm₁) hT hW₁⟩)
  dsimp only [Pt.U, Pt.locs, Pt.cells, Pt.slots] at X' e1 e2 h1 h2 h3 st
  subst h1; subst h2; subst h3
  exact ⟨v, (T.setVm vm₁).calling g' mk As.toArray, t, U', L, hT, X', hL, e1, e2, hq, st⟩
/-- a thing of a world lies in the heap -/
theorem vx_lt {D : va_G} {cl : List vw_C} {ws : va_W} {H1 : Heap} (h : va_P D cl ws H1) {k : Nat} {q : Nat × va_E} (hk : ws[k]? = some q) : q.1 < H1.size := (h k q hk).lt
end VXS
/-! ===== END ===== -/
/-! ===== BEGIN methods with a table of their own: called by a name, returning or throwing ===== -/
section VXH
/-! vx_backW, vx_callVX, vx_callSX, vx_callVW, vx_runVW, vx_runVX, vx_runSX, vx_ofWH follow the same proofs as their sisters above (Free/Laws.lean, Shelf42/LK1.lean); vx_outP calls Shelf42/NT130.lean (outThrough). -/
section
variable {l : Launch} {R : Room} {p : Program} {e : Env} {below : List Frame} {s : State} {sargs : Array Value} {y : MethodName} {len W9 : Nat}
theorem vx_backW {ws : List Cond} {rm : Room} {Pc : Array Value → State → Prop} {Qc : Array Value → State → Outcome → State → Prop} {XC : String → State → State → Prop} {mc ms : Nat} {free : Addr → Prop} {bytes : ByteArray} {maxL : Nat} {ret : Option FieldType} {hh : List (Nat × Nat × Nat × Nat)}
    (hM : vx_Met l y ws rm Pc Qc XC mc ms free) (hblind : FrameBlind Pc) (hrc : rm.cells = mc) (hrs : rm.slots = ms)
    (hframes : rm.frames + 1 ≤ R.frames) (hlocals : W9 + (maxL + 11) + rm.locals ≤ R.locals)
    (hws : ∀ w ∈ ws, ∀ a' U, s.WarmedH U.vm → w.before a' U = true) (hcode : Cond.codeWith y bytes maxL ret hh ∈ ws) (hinit : ∀ a' U, s.WarmedH U.vm → (Cond.initialized y.cls).before a' U = true) :
    vx_Back l R p e below s sargs y len W9 (PreOf R mc ms Pc) (PostOf Qc mc ms free) (vx_Post XC mc ms free) := by
  intro m meth c A g ig mk a X hg hsize hdg hW hn hp
  have h1 : (headSpec ws rm).pre.before a A.U = true := atoms_intro fun w hw => hws w hw _ _ X.warmed
  have h2 : (Cond.codeWith y bytes maxL ret hh).before a A.U = true := hws _ hcode _ _ X.warmed
  have h3 : (Cond.initialized y.cls).before a A.U = true := hinit _ _ X.warmed
  have h4 : A.cells + (headSpec ws rm).room.cells ≤ R.cells := by rw [show (headSpec ws rm).room.cells = mc from hrc]; exact hp.1
  have h5 : A.slots + (headSpec ws rm).room.slots ≤ R.slots := by rw [show (headSpec ws rm).room.slots = ms from hrs]; exact hp.2.1
  have hPc : Pc a (A.U.calling g mk a) := hblind _ _ _ _ hp.2.2
  obtain ⟨U, Ls, c0, s0⟩ := A
  dsimp only [Pt.U, Pt.locs, Pt.cells, Pt.slots] at h1 h2 h3 h4 h5 X hn hPc ⊢
  obtain ⟨m9, methY, cY, hn9, hmY, hcY, -, hlY, -⟩ := Cond.codeWith_spec h2
  cases Option.some.inj (hn9.symm.trans hn)
  obtain ⟨kY, hkY, -⟩ := className_of_methodNamed hn
  have hinitY : kY.init = .initialized := Cond.initialized_spec (findClass_of_methodNamed hn) hkY h3
  have h : At U g.method c below := by rw [hg]; exact X.here
  have hlocals9 : W9 + (maxL + 11) + (headSpec ws rm).room.locals ≤ R.locals := hlocals
  have happ : (headSpec ws rm).appliesLoose y e.platform (U.calling g mk a) = true :=
    Spec.appliesLoose_calling (g := g) h hdg hn hkY hinitY
      (X.room_calling (g := g) (R' := (headSpec ws rm).room) hsize hmY hcY hframes (by rw [hlY]; omega) h4 h5) h1
  obtain ⟨mid, hmid⟩ := h.above
  have hfr : (U.setTop g).frames = (.java g :: mid) ++ below := by rw [State.frames_setTop' g h.top, hmid]; rfl
  obtain ⟨o, s₂, hsteps, -, hend, hq⟩ := Steps.callFree hM p X.admits X.cas X.clock (acts := []) hfr happ hPc trivial
  have hq' : vx_Q Qc XC mc ms free a (U.calling g mk a) o s₂ := hq
  rw [State.frames_setTop' g h.top] at hend
  obtain ⟨g₀, hg0⟩ := Option.isSome_iff_exists.mp h.top
  obtain ⟨r, hr⟩ := State.topJava?_eq_some.mp hg0
  have hr' : (({ U with heap := s₂.heap, slotsUsed := s₂.slotsUsed } : State).setVm s₂.vm).frames = .java g₀ :: r := hr
  rcases hq' with ⟨hqc, L, hfe, hL⟩ | ⟨q, rfl, E, ce, L, hx, hce, hcv, hcl, hW₂, hsm, hL⟩
  · obtain ⟨⟨v, rfl⟩, hW₂, e2, q2, q3, q4, q5, q6⟩ := id hfe
    have e3 : s₂ = ({ (U.calling g mk a).setFrames s₂.frames with heap := s₂.heap, slotsUsed := s₂.slotsUsed } : State).setVm s₂.vm := by
      have : s₂ = ({ s₂ with vm := (U.calling g mk a).vm } : State).setVm s₂.vm := rfl
      rw [e2] at this
      exact this
    obtain ⟨c₂, i₂, len₂, hc₂, hd₂, hf₂⟩ := hend
    have hW' : U.WarmedH s₂.vm := hW₂
    have hcc : c₂ = c := by
      have h1 : s₂.code? g.method = U.code? g.method := by
        rw [State.code?_eq, State.code?_eq, hW'.alike.method?]
      exact Option.some.inj (hc₂.symm.trans (h1.trans h.code))
    subst hcc
    have hlen : len₂ = len := by rw [hdg] at hd₂; cases hd₂; rfl
    subst hlen
    have hs₂ : s₂ = (({ U with heap := s₂.heap, slotsUsed := s₂.slotsUsed } : State).setVm s₂.vm).setTop { g with pc := g.pc + len₂, stack := v.toList ++ g.stack } := by
      refine e3.trans ?_
      rw [hf₂, State.calling_eq h.top, State.setFrames_setFrames, State.setTop_of_frames _ hr', hr]
      rfl
    have hsame : U.sameButNew ({ U with heap := s₂.heap, slotsUsed := s₂.slotsUsed } : State) L mc ms := by
      refine ⟨?_, q2, q3, q4, q5, q6⟩
      obtain ⟨t, ht, -⟩ := State.frames_cons hr
      show ({ U with heap := s₂.heap, slotsUsed := s₂.slotsUsed } : State) = { U.setFrames U.frames with heap := s₂.heap, slotsUsed := s₂.slotsUsed }
      rw [State.setFrames_self ht]
    subst hg
    refine Or.inl ⟨v, ⟨(({ U with heap := s₂.heap, slotsUsed := s₂.slotsUsed } : State).setVm s₂.vm), Ls ++ L, c0 + mc, s0 + ms⟩,
      ⟨X.admits, X.cas, X.clock, X.frames, X.room, X.hears, X.method, X.code, (X.here.setHeapUsed s₂.heap s₂.slotsUsed).setVm hW'.alike, X.tail, State.WarmedH.trans X.warmed hW', X.limits, X.bytes, X.same.trans (hsame.setVm s.vm)⟩,
      ⟨g, mk, s₂, L, rfl, rfl, hqc, rfl, hL, rfl, rfl⟩, ?_⟩
    show Steps p.tables e below _ ((({ U with heap := s₂.heap, slotsUsed := s₂.slotsUsed } : State).setVm s₂.vm).setTop { g with pc := g.pc + len₂, stack := v.toList ++ g.stack })
    rw [← hs₂]
    exact hsteps
  · obtain ⟨e2, q2, q3, q4, q5, q6⟩ := id hsm
    have e3 : s₂ = ({ (U.calling g mk a).setFrames s₂.frames with heap := s₂.heap, slotsUsed := s₂.slotsUsed } : State).setVm s₂.vm := by
      have : s₂ = ({ s₂ with vm := (U.calling g mk a).vm } : State).setVm s₂.vm := rfl
      rw [e2] at this
      exact this
    have hf₂ : s₂.frames = .throwing q :: .java g :: U.frames.tail := hend
    have hW' : U.WarmedH s₂.vm := hW₂
    have hs₂ : s₂ = ((({ U with heap := s₂.heap, slotsUsed := s₂.slotsUsed } : State).setVm s₂.vm).setTop g).pushFrame (.throwing q) := by
      refine e3.trans ?_
      rw [hf₂, State.calling_eq h.top, State.setFrames_setFrames, State.pushFrame, State.frames_setTop _ hr', State.setTop_of_frames _ hr', State.setFrames_setFrames, hr]
      rfl
    have hsame : U.sameButNew ({ U with heap := s₂.heap, slotsUsed := s₂.slotsUsed } : State) L mc ms := by
      refine ⟨?_, q2, q3, q4, q5, q6⟩
      obtain ⟨t, ht, -⟩ := State.frames_cons hr
      show ({ U with heap := s₂.heap, slotsUsed := s₂.slotsUsed } : State) = { U.setFrames U.frames with heap := s₂.heap, slotsUsed := s₂.slotsUsed }
      rw [State.setFrames_self ht]
    subst hg
    refine Or.inr ⟨q, ⟨(({ U with heap := s₂.heap, slotsUsed := s₂.slotsUsed } : State).setVm s₂.vm), Ls ++ L, c0 + mc, s0 + ms⟩,
      ⟨X.admits, X.cas, X.clock, X.frames, X.room, X.hears, X.method, X.code, (X.here.setHeapUsed s₂.heap s₂.slotsUsed).setVm hW'.alike, X.tail, State.WarmedH.trans X.warmed hW', X.limits, X.bytes, X.same.trans (hsame.setVm s.vm)⟩,
      ⟨g, mk, s₂, L, E, ce, rfl, rfl, hx, hce, hcv, hcl, rfl, hL, rfl, rfl⟩, ?_⟩
    show Steps p.tables e below _ (((({ U with heap := s₂.heap, slotsUsed := s₂.slotsUsed } : State).setVm s₂.vm).setTop g).pushFrame (.throwing q))
    rw [← hs₂]
    exact hsteps
end
variable {p : Program} {l : Launch} {e : Env} {R : Room} {s : State} {m : MethodId} {args : Array Value} {below : List Frame} {meth : Method} {c : Code} {T : State} {H : Heap} {locs : List Loc} {cells slots : Nat}
theorem vx_callVX (X : Stand p l e R s m args below meth c T locs cells slots) (hexec : p.tables.exec = Jvm.exec) {own C : String} {index : Nat} {y : MethodName} {bytes : ByteArray} {maxL : Nat} {ret : Option FieldType} {hh : List (Nat × Nat × Nat × Nat)}
    (hown : s.vm.findClass own = some m.cls) (hlink : (Cond.methodLink own index y).before args s = true) (hinst : (Cond.instanceMethod y).before args s = true) (hsel : (Cond.selects C y y).before args s = true)
    (hcode : (Cond.codeWith y bytes maxL ret hh).before args s = true) (hy : y.cls ≠ "java/lang/invoke/MethodHandle" ∧ y.cls ≠ "java/lang/invoke/VarHandle")
    {W9 : Nat} {Pre : Pt → Array Value → Prop} {Post : Pt → Array Value → Option Value → Pt → Prop} {PostX : Pt → Array Value → Addr → Pt → Prop} (hK : vx_Back l R p e below s args y 3 W9 Pre Post PostX)
    {b : Addr} {cellB : Cell} (hcell : T.heap[b]? = some cellB) (hobj : cellB.vm.isStatics = false) (hcls : s.vm.findClass C = some cellB.cls)
    {g : JFrame} (hg : g.method = m) (hsize : g.locals.size = c.maxLocals) {argsL rest : List Value} (hlen : ∀ sig, parseMethodDescriptor y.desc = some sig → argsL.length = sig.parameters.length)
    (hstack : g.stack = argsL.reverse ++ .ref b :: rest) (hW : 2 * g.monitorRoom + (rest.map fun v => v.category).sum ≤ W9) (hdg : decode c.code g.pc = .ok (.invokevirtual index, 3))
    (hpre : ∀ vm₁, s.WarmedH vm₁ → Pre ⟨T.setVm vm₁, locs, cells, slots⟩ (Value.ref b :: argsL).toArray) :
    (∃ (v : Option Value) (vm₁ : Vm) (B : Pt), s.WarmedH vm₁ ∧ Stand p l e R s m args below meth c B.U B.locs B.cells B.slots ∧ Post ⟨T.setVm vm₁, locs, cells, slots⟩ (Value.ref b :: argsL).toArray v B ∧
      ∀ target, Steps p.tables e below (B.U.setTop { g with pc := g.pc + 3, stack := v.toList ++ rest }) target → Steps p.tables e below (T.setTop g) target) ∨
    (∃ (q : Addr) (vm₁ : Vm) (B : Pt), s.WarmedH vm₁ ∧ Stand p l e R s m args below meth c B.U B.locs B.cells B.slots ∧ PostX ⟨T.setVm vm₁, locs, cells, slots⟩ (Value.ref b :: argsL).toArray q B ∧
      Steps p.tables e below (T.setTop g) ((B.U.setTop { g with stack := rest }).pushFrame (.throwing q))) := by
  obtain ⟨mk, methM, hnamed, hmethM, hstM, habM⟩ := Cond.instanceMethod_spec hinst
  obtain ⟨m8, methM', cM, hn8, hmethM', -, -, -, -, -, -, hsigM⟩ := Cond.codeWith_spec hcode
  cases Option.some.inj (hn8.symm.trans hnamed)
  cases hmethM.symm.trans hmethM'
  obtain ⟨c2, r2, m2, q1, q2, q3, q4, kP, hkP, hkPi⟩ := Cond.selects_spec hsel
  cases hcls.symm.trans q1
  cases (State.methodFound?_of_named hnamed hy).symm.trans q2
  cases hnamed.symm.trans q3
  have hselP : selectMethod e.platform s.vm cellB.cls mk = .method mk := by rw [Launch.admits_selectMethod X.admits]; exact q4
  obtain ⟨vm₁, X₁, hstep₁⟩ := X.invokevirtual hexec hown hlink hnamed hmethM hstM hkP hkPi hy (a := b) (cell := cellB) hcell
    (fun z h => by rw [h] at hobj; cases hobj) hselP hmethM habM hkP hkPi (g := g) hg (argsL := argsL) (rest := rest) (hlen _ hsigM) hstack hdg
  rcases hK m meth c ⟨T.setVm vm₁, locs, cells, slots⟩ { g with stack := rest } (.invokevirtual index) mk (Value.ref b :: argsL).toArray X₁ hg hsize hdg hW (X₁.named hnamed) (hpre vm₁ X₁.warmed) with ⟨v, B, X', hpost, hsteps⟩ | ⟨q, B, X', hpost, hsteps⟩
  · exact Or.inl ⟨v, vm₁, B, X₁.warmed, X', hpost, fun target h => hstep₁ _ fun acts => by rw [doInvoke_state]; exact hsteps.trans h⟩
  · exact Or.inr ⟨q, vm₁, B, X₁.warmed, X', hpost, hstep₁ _ fun acts => by rw [doInvoke_state]; exact hsteps⟩
theorem vx_callSX (X : Stand p l e R s m args below meth c T locs cells slots) (hexec : p.tables.exec = Jvm.exec) {own : String} {index : Nat} {y : MethodName} {bytes : ByteArray} {maxL : Nat} {ret : Option FieldType} {hh : List (Nat × Nat × Nat × Nat)}
    (hown : s.vm.findClass own = some m.cls) (hlink : (Cond.methodLink own index y).before args s = true) (hstat : (Cond.static y).before args s = true) (hinit : (Cond.initialized y.cls).before args s = true)
    (hcode : (Cond.codeWith y bytes maxL ret hh).before args s = true) (hy : y.cls ≠ "java/lang/invoke/MethodHandle" ∧ y.cls ≠ "java/lang/invoke/VarHandle")
    {W9 : Nat} {Pre : Pt → Array Value → Prop} {Post : Pt → Array Value → Option Value → Pt → Prop} {PostX : Pt → Array Value → Addr → Pt → Prop} (hK : vx_Back l R p e below s args y 3 W9 Pre Post PostX)
    {g : JFrame} (hg : g.method = m) (hsize : g.locals.size = c.maxLocals) {argsL rest : List Value} (hlen : ∀ sig, parseMethodDescriptor y.desc = some sig → argsL.length = sig.parameters.length)
    (hstack : g.stack = argsL.reverse ++ rest) (hW : 2 * g.monitorRoom + (rest.map fun v => v.category).sum ≤ W9) (hdg : decode c.code g.pc = .ok (.invokestatic index, 3))
    (hpre : ∀ vm₁, s.WarmedH vm₁ → Pre ⟨T.setVm vm₁, locs, cells, slots⟩ argsL.toArray) :
    (∃ (v : Option Value) (vm₁ : Vm) (B : Pt), s.WarmedH vm₁ ∧ Stand p l e R s m args below meth c B.U B.locs B.cells B.slots ∧ Post ⟨T.setVm vm₁, locs, cells, slots⟩ argsL.toArray v B ∧
      ∀ target, Steps p.tables e below (B.U.setTop { g with pc := g.pc + 3, stack := v.toList ++ rest }) target → Steps p.tables e below (T.setTop g) target) ∨
    (∃ (q : Addr) (vm₁ : Vm) (B : Pt), s.WarmedH vm₁ ∧ Stand p l e R s m args below meth c B.U B.locs B.cells B.slots ∧ PostX ⟨T.setVm vm₁, locs, cells, slots⟩ argsL.toArray q B ∧
      Steps p.tables e below (T.setTop g) ((B.U.setTop { g with stack := rest }).pushFrame (.throwing q))) := by
  obtain ⟨mk, methM, cM, hnamed, hmethM, -, -, -, -, -, -, hsigM⟩ := Cond.codeWith_spec hcode
  have hstatic : methM.isStatic = true := Cond.static_spec hnamed hmethM hstat
  obtain ⟨kP, hkP, -⟩ := className_of_methodNamed hnamed
  have hinitP : kP.init = .initialized := Cond.initialized_spec (findClass_of_methodNamed hnamed) hkP hinit
  obtain ⟨vm₁, X₁, hstep₁⟩ := X.invokestatic hexec hown hlink hnamed hmethM hstatic hkP hinitP hy (g := g) hg (argsL := argsL) (rest := rest) (hlen _ hsigM) hstack hdg
  rcases hK m meth c ⟨T.setVm vm₁, locs, cells, slots⟩ { g with stack := rest } (.invokestatic index) mk argsL.toArray X₁ hg hsize hdg hW (X₁.named hnamed) (hpre vm₁ X₁.warmed) with ⟨v, B, X', hpost, hsteps⟩ | ⟨q, B, X', hpost, hsteps⟩
  · exact Or.inl ⟨v, vm₁, B, X₁.warmed, X', hpost, fun target h => hstep₁ _ fun acts => by rw [doInvoke_state]; exact hsteps.trans h⟩
  · exact Or.inr ⟨q, vm₁, B, X₁.warmed, X', hpost, hstep₁ _ fun acts => by rw [doInvoke_state]; exact hsteps⟩
theorem vx_callVW (X : Stand p l e R s m args below meth c T locs cells slots) (hexec : p.tables.exec = Jvm.exec) {own C : String} {index : Nat} {y : MethodName} {bytes : ByteArray} {maxL : Nat} {ret : Option FieldType} {hh : List (Nat × Nat × Nat × Nat)}
    (hown : s.vm.findClass own = some m.cls) (hlink : (Cond.methodLink own index y).before args s = true) (hinst : (Cond.instanceMethod y).before args s = true) (hsel : (Cond.selects C y y).before args s = true)
    (hcode : (Cond.codeWith y bytes maxL ret hh).before args s = true) (hy : y.cls ≠ "java/lang/invoke/MethodHandle" ∧ y.cls ≠ "java/lang/invoke/VarHandle")
    {W9 : Nat} {Pre : Pt → Array Value → Prop} {Post : Pt → Array Value → Option Value → Pt → Prop} (hK : Back l R p e below s args y 3 W9 Pre Post)
    {b : Addr} {cellB : Cell} (hcell : T.heap[b]? = some cellB) (hobj : cellB.vm.isStatics = false) (hcls : s.vm.findClass C = some cellB.cls)
    {g : JFrame} (hg : g.method = m) (hsize : g.locals.size = c.maxLocals) {argsL rest : List Value} (hlen : ∀ sig, parseMethodDescriptor y.desc = some sig → argsL.length = sig.parameters.length)
    (hstack : g.stack = argsL.reverse ++ .ref b :: rest) (hW : 2 * g.monitorRoom + (rest.map fun v => v.category).sum ≤ W9) (hdg : decode c.code g.pc = .ok (.invokevirtual index, 3))
    (hpre : ∀ vm₁, s.WarmedH vm₁ → Pre ⟨T.setVm vm₁, locs, cells, slots⟩ (Value.ref b :: argsL).toArray) :
    ∃ (v : Option Value) (vm₁ : Vm) (B : Pt), s.WarmedH vm₁ ∧ Stand p l e R s m args below meth c B.U B.locs B.cells B.slots ∧ Post ⟨T.setVm vm₁, locs, cells, slots⟩ (Value.ref b :: argsL).toArray v B ∧
      ∀ target, Steps p.tables e below (B.U.setTop { g with pc := g.pc + 3, stack := v.toList ++ rest }) target → Steps p.tables e below (T.setTop g) target := by
  obtain ⟨mk, methM, hnamed, hmethM, hstM, habM⟩ := Cond.instanceMethod_spec hinst
  obtain ⟨m8, methM', cM, hn8, hmethM', -, -, -, -, -, -, hsigM⟩ := Cond.codeWith_spec hcode
  cases Option.some.inj (hn8.symm.trans hnamed)
  cases hmethM.symm.trans hmethM'
  obtain ⟨c2, r2, m2, q1, q2, q3, q4, kP, hkP, hkPi⟩ := Cond.selects_spec hsel
  cases hcls.symm.trans q1
  cases (State.methodFound?_of_named hnamed hy).symm.trans q2
  cases hnamed.symm.trans q3
  have hselP : selectMethod e.platform s.vm cellB.cls mk = .method mk := by rw [Launch.admits_selectMethod X.admits]; exact q4
  obtain ⟨vm₁, X₁, hstep₁⟩ := X.invokevirtual hexec hown hlink hnamed hmethM hstM hkP hkPi hy (a := b) (cell := cellB) hcell
    (fun z h => by rw [h] at hobj; cases hobj) hselP hmethM habM hkP hkPi (g := g) hg (argsL := argsL) (rest := rest) (hlen _ hsigM) hstack hdg
  obtain ⟨v, B, X', hpost, hsteps⟩ := hK m meth c ⟨T.setVm vm₁, locs, cells, slots⟩ { g with stack := rest } (.invokevirtual index) mk (Value.ref b :: argsL).toArray X₁ hg hsize hdg hW (X₁.named hnamed) (hpre vm₁ X₁.warmed)
  exact ⟨v, vm₁, B, X₁.warmed, X', hpost, fun target h => hstep₁ _ fun acts => by rw [doInvoke_state]; exact hsteps.trans h⟩
abbrev vx_CVW (R : Room) (s : State) (args : Array Value) (own C : String) (index : Nat) (y : MethodName) (bytes : ByteArray) (maxL : Nat) (ret : Option FieldType) (hh : List (Nat × Nat × Nat × Nat)) (ws : List Cond) (rm : Room) (mc ms n : Nat) : Prop :=
  (rm.cells = mc ∧ rm.slots = ms ∧ rm.frames + 1 ≤ R.frames ∧ 8 + (maxL + 11) + rm.locals ≤ R.locals ∧ (∀ w ∈ ws, ∀ (a' : Array Value) (U : State), s.WarmedH U.vm → w.before a' U = true) ∧ Cond.codeWith y bytes maxL ret hh ∈ ws) ∧
  (Cond.codeWith y bytes maxL ret hh).before args s = true ∧ (Cond.initialized y.cls).before args s = true ∧ (y.cls ≠ "java/lang/invoke/MethodHandle" ∧ y.cls ≠ "java/lang/invoke/VarHandle") ∧
  (∀ sig, parseMethodDescriptor y.desc = some sig → n = sig.parameters.length) ∧ (Cond.methodLink own index y).before args s = true ∧ (Cond.instanceMethod y).before args s = true ∧ (Cond.selects C y y).before args s = true
theorem vx_cwVW {own C : String} {index maxL mc ms : Nat} {y : MethodName} {bytes : ByteArray} {ret : Option FieldType} {hh : List (Nat × Nat × Nat × Nat)} {Ts ws ws' : List Cond} {rm : Room} (n : Nat) (ht : ∀ w ∈ Ts, w.before args s = true) (hT : GoodIn Ts (wsV own index C y ws)) (hw : ws = Cond.codeWith y bytes maxL ret hh :: ws') (hrc : rm.cells = mc) (hrs : rm.slots = ms)
    (hd : y.cls = C ∧ y.cls ≠ "java/lang/invoke/MethodHandle" ∧ y.cls ≠ "java/lang/invoke/VarHandle" ∧ (parseMethodDescriptor y.desc).map (fun d => d.parameters.length) = some n) (hR : rm.frames + 1 ≤ R.frames ∧ 8 + (maxL + 11) + rm.locals ≤ R.locals) :
    vx_CVW R s args own C index y bytes maxL ret hh ws rm mc ms n := by
  obtain ⟨hC, hd⟩ := hd
  subst hC
  have ok : ∀ w ∈ wsV own index y.cls y ws, w.before args s = true := fun w h => ht w (hT w h).1
  have hG : GoodIn Ts ws := fun w h => hT w (by unfold wsV; exact List.mem_append_right _ h)
  have hc : Cond.codeWith y bytes maxL ret hh ∈ ws := by rw [hw]; exact List.mem_cons_self
  refine ⟨⟨hrc, hrs, hR.1, hR.2, pay_in ht hG, hc⟩, ht _ (hG _ hc).1, ok _ (by simp [wsV]), ⟨hd.1, hd.2.1⟩, fun sig h => ?_, ok _ (by simp [wsV]), ok _ (by simp [wsV]), ok _ (by simp [wsV])⟩
  have h2 := hd.2.2
  rw [h] at h2
  exact (Option.some.inj h2).symm
theorem vx_runVW {y : MethodName} {bytes cc : ByteArray} {maxL nL mc ms n index : Nat} {ret : Option FieldType} {hh : List (Nat × Nat × Nat × Nat)} {ws : List Cond} {rm : Room} {Pc : Array Value → State → Prop} {Qc : Array Value → State → Outcome → State → Prop} {free : Addr → Prop} {Ts : List Cond} {own C : String} {b : Addr} {As rest : List Value} {g : JFrame}
    (S : CallFix p m c cc nL s args Ts own) (hM : Met l y ws rm Pc Qc mc ms free) (cw : vx_CVW R s args own C index y bytes maxL ret hh ws rm mc ms n) (hp : PreV s H C b Pc As)
    (hg : g.method = m) (hn : As.length = n) (hsize : g.locals.size = nL) (hstack : g.stack = As.reverse ++ .ref b :: rest) (hW : 2 * g.monitorRoom + (rest.map fun v => v.category).sum ≤ 8) (hdg : decode cc g.pc = .ok (.invokevirtual index, 3)) (hf : cells + mc ≤ R.cells ∧ slots + ms ≤ R.slots) :
    va_Run p l e R s m args below meth c H locs cells slots mc ms g rest (Qc (Value.ref b :: As).toArray) free := by
  obtain ⟨⟨hrc, hrs, hfr, hlo, hws, hcw⟩, hcode, hini, hy, hlen, hl, hin, hse⟩ := cw
  have hK : Back l R p e below s args y 3 8 (PreOf R mc ms Pc) (PostOf Qc mc ms free) := va_backW (hh := hh) (bytes := bytes) (maxL := maxL) (ret := ret) hM hp.1 hrc hrs hfr hlo hws hcw (fun a' U hW => word_at hW (Or.inl (by first | rfl | simp [Cond.onTables, Cond.keeps, Cond.steady])) hini)
  obtain ⟨hx, hb, hml, ho, -⟩ := S
  obtain ⟨-, ⟨cellB, hcB, hoB, hclB⟩, hPc⟩ := hp
  intro T hT X
  obtain ⟨v, vm₁, ⟨U', l2, c2, s2⟩, hW₁, X', ⟨g', mk, t, L, e1, e2, hq, h1, hL, h2, h3⟩, st⟩ := vx_callVW X hx (C := C) (hh := hh) (bytes := bytes) (maxL := maxL) (ret := ret) ho hl hin hse hcode hy hK (by rw [hT]; exact hcB) hoB hclB hg (hsize.trans hml.symm) (argsL := As) (rest := rest) (fun sig h => hn.trans (hlen sig h)) hstack hW (by rw [hb]; exact hdg)
    (fun vm₁ hW₁ => ⟨hf.1, hf.2, hPc (T.setVm vm₁) hT hW₁⟩)
  dsimp only [Pt.U, Pt.locs, Pt.cells, Pt.slots] at X' e1 e2 h1 h2 h3 st
  subst h1; subst h2; subst h3
  exact ⟨v, (T.setVm vm₁).calling g' mk (Value.ref b :: As).toArray, t, U', L, hT, X', hL, e1, e2, hq, st⟩
section
variable {y : MethodName} {bytes cc : ByteArray} {maxL nL mc ms n index : Nat} {ret : Option FieldType} {ws : List Cond} {rm : Room} {Pc : Array Value → State → Prop} {Qc : Array Value → State → Outcome → State → Prop} {XC : String → State → State → Prop} {free : Addr → Prop} {Ts : List Cond} {own C : String} {b : Addr} {As rest : List Value} {g : JFrame}
theorem vx_runVX {hh : List (Nat × Nat × Nat × Nat)} (S : CallFix p m c cc nL s args Ts own) (hM : vx_Met l y ws rm Pc Qc XC mc ms free) (cw : vx_CVW R s args own C index y bytes maxL ret hh ws rm mc ms n) (hp : PreV s H C b Pc As)
    (hg : g.method = m) (hn : As.length = n) (hsize : g.locals.size = nL) (hstack : g.stack = As.reverse ++ .ref b :: rest) (hW : 2 * g.monitorRoom + (rest.map fun v => v.category).sum ≤ 8) (hdg : decode cc g.pc = .ok (.invokevirtual index, 3)) (hf : cells + mc ≤ R.cells ∧ slots + ms ≤ R.slots) :
    vx_Run p l e R s m args below meth c H locs cells slots mc ms g rest (Qc (Value.ref b :: As).toArray) XC free := by
  obtain ⟨⟨hrc, hrs, hfr, hlo, hws, hcw⟩, hcode, hini, hy, hlen, hl, hin, hse⟩ := cw
  have hK : vx_Back l R p e below s args y 3 8 (PreOf R mc ms Pc) (PostOf Qc mc ms free) (vx_Post XC mc ms free) := vx_backW (hh := hh) (bytes := bytes) (maxL := maxL) (ret := ret) hM hp.1 hrc hrs hfr hlo hws hcw (fun a' U hW => word_at hW (Or.inl (by first | rfl | simp [Cond.onTables, Cond.keeps, Cond.steady])) hini)
  obtain ⟨hx, hb, hml, ho, -⟩ := S
  obtain ⟨-, ⟨cellB, hcB, hoB, hclB⟩, hPc⟩ := hp
  intro T hT X
  rcases vx_callVX X hx (C := C) (hh := hh) (bytes := bytes) (maxL := maxL) (ret := ret) ho hl hin hse hcode hy hK (by rw [hT]; exact hcB) hoB hclB hg (hsize.trans hml.symm) (argsL := As) (rest := rest) (fun sig h => hn.trans (hlen sig h)) hstack hW (by rw [hb]; exact hdg)
    (fun vm₁ hW₁ => ⟨hf.1, hf.2, hPc (T.setVm vm₁) hT hW₁⟩) with ⟨v, vm₁, ⟨U', l2, c2, s2⟩, hW₁, X', ⟨g', mk, t, L, e1, e2, hq, h1, hL, h2, h3⟩, st⟩ | ⟨q, vm₁, ⟨U', l2, c2, s2⟩, hW₁, X', ⟨g', mk, t, L, E, ce, e1, e2, hq, hce, hcv, hcl, h1, hL, h2, h3⟩, st⟩
  · dsimp only [Pt.U, Pt.locs, Pt.cells, Pt.slots] at X' e1 e2 h1 h2 h3 st
    subst h1; subst h2; subst h3
    exact Or.inl ⟨v, (T.setVm vm₁).calling g' mk (Value.ref b :: As).toArray, t, U', L, hT, X', hL, e1, e2, hq, st⟩
  · dsimp only [Pt.U, Pt.locs, Pt.cells, Pt.slots] at X' e1 e2 h1 h2 h3 st hcl
    subst h1; subst h2; subst h3
    exact Or.inr ⟨q, (T.setVm vm₁).calling g' mk (Value.ref b :: As).toArray, t, U', L, E, ce, hT, X', hL, e1, e2, hq, hce, hcv, vx_cls hW₁ hcl, st⟩
theorem vx_runSX {hh : List (Nat × Nat × Nat × Nat)} (S : CallFix p m c cc nL s args Ts own) (hM : vx_Met l y ws rm Pc Qc XC mc ms free) (cw : vx_CSW R s args own index y bytes maxL ret hh ws rm mc ms n) (hp : PreS s H Pc As)
    (hg : g.method = m) (hn : As.length = n) (hsize : g.locals.size = nL) (hstack : g.stack = As.reverse ++ rest) (hW : 2 * g.monitorRoom + (rest.map fun v => v.category).sum ≤ 8) (hdg : decode cc g.pc = .ok (.invokestatic index, 3)) (hf : cells + mc ≤ R.cells ∧ slots + ms ≤ R.slots) :
    vx_Run p l e R s m args below meth c H locs cells slots mc ms g rest (Qc As.toArray) XC free := by
  obtain ⟨⟨hrc, hrs, hfr, hlo, hws, hcw⟩, hcode, hini, hy, hlen, hl, hstt⟩ := cw
  have hK : vx_Back l R p e below s args y 3 8 (PreOf R mc ms Pc) (PostOf Qc mc ms free) (vx_Post XC mc ms free) := vx_backW (hh := hh) (bytes := bytes) (maxL := maxL) (ret := ret) hM hp.1 hrc hrs hfr hlo hws hcw (fun a' U hW => word_at hW (Or.inl (by first | rfl | simp [Cond.onTables, Cond.keeps, Cond.steady])) hini)
  obtain ⟨hx, hb, hml, ho, -⟩ := S
  intro T hT X
  rcases vx_callSX X hx (hh := hh) (bytes := bytes) (maxL := maxL) (ret := ret) ho hl hstt hini hcode hy hK hg (hsize.trans hml.symm) (argsL := As) (rest := rest) (fun sig h => hn.trans (hlen sig h)) hstack hW (by rw [hb]; exact hdg)
    (fun vm₁ hW₁ => ⟨hf.1, hf.2, hp.2 (T.setVm vm₁) hT hW₁⟩) with ⟨v, vm₁, ⟨U', l2, c2, s2⟩, hW₁, X', ⟨g', mk, t, L, e1, e2, hq, h1, hL, h2, h3⟩, st⟩ | ⟨q, vm₁, ⟨U', l2, c2, s2⟩, hW₁, X', ⟨g', mk, t, L, E, ce, e1, e2, hq, hce, hcv, hcl, h1, hL, h2, h3⟩, st⟩
  · dsimp only [Pt.U, Pt.locs, Pt.cells, Pt.slots] at X' e1 e2 h1 h2 h3 st
    subst h1; subst h2; subst h3
    exact Or.inl ⟨v, (T.setVm vm₁).calling g' mk As.toArray, t, U', L, hT, X', hL, e1, e2, hq, st⟩
  · dsimp only [Pt.U, Pt.locs, Pt.cells, Pt.slots] at X' e1 e2 h1 h2 h3 st hcl
    subst h1; subst h2; subst h3
    exact Or.inr ⟨q, (T.setVm vm₁).calling g' mk As.toArray, t, U', L, E, ce, hT, X', hL, e1, e2, hq, hce, hcv, vx_cls hW₁ hcl, st⟩
end
end VXH
theorem vx_ofWH {l : Launch} {y : MethodName} {ws ws' : List Cond} {rm : Room} {Pc : Array Value → State → Prop} {Qc : Array Value → State → Outcome → State → Prop} {XC : String → State → State → Prop} {mc ms : Nat} {free : Addr → Prop} {cc : ByteArray} {maxL : Nat} {ret : Option FieldType} {hh : List (Nat × Nat × Nat × Nat)}
    (hy : plainName y.cls = true) (hw : ws = Cond.codeWith y cc maxL ret hh :: ws')
    (body : ∀ p e s m args below meth c s₁, BodyLoose p l y (headSpec ws rm) cc maxL ret e s m args below meth c s₁ → c.maxLocals = maxL → Pc args s →
      W p l e (headSpec ws rm).room s m args below meth c s.heap [] 0 0 (vx_MQ below Qc XC args s mc ms free) (entryFrame m args maxL)) : vx_Met l y ws rm Pc Qc XC mc ms free := by
  refine MetFree.of_bodyS (code := cc) (maxLocals := maxL) (ret := ret) hy ?_ ?_
  · intro args s m h hn
    obtain ⟨m9, meth, c, hn9, h1, h2, h3, h4, -, h5, h6, -⟩ := Cond.codeWith_spec (atoms_spec (ws := ws) h _ (by rw [hw]; exact List.mem_cons_self))
    cases hn.symm.trans hn9
    exact ⟨meth, c, h1, h2, h3, h4, h5, h6⟩
  · intro p e s m args below meth c s₁ B hml hP _
    have hh0 : s₁.heap = s.heap := by rw [B.state]; rfl
    obtain ⟨t, a1, o, b1, b2, b3⟩ := body p e s m args below meth c s₁ B hml hP s₁ hh0 (Stand.of_body B)
    exact ⟨t, o, a1, b1, b2, b3⟩
/-! ===== END ===== -/
end
section
def RX0 : String := "TunnelWatch$Device"
def TX0 : u_T := fun k => match k with
  | 0 => ("TunnelWatch$Device", "command", "I", false)
  | 1 => ("TunnelWatch$Device", "actual", "I", false)
  | 2 => ("TunnelWatch$Device", "sentTick", "I", false)
  | 3 => ("TunnelWatch$Device", "lagTicks", "I", false)
  | 4 => ("TunnelWatch$Device", "failed", "Z", false)
  | _ => ("TunnelWatch$Device", "out", "Z", false)
def tyX0 : Nat → FieldType := fun k => match k with
  | 0 => .int
  | 1 => .int
  | 2 => .int
  | 3 => .int
  | 4 => .boolean
  | _ => .boolean
abbrev wsX00 : List Cond := u_ws RX0 TX0 6
theorem nmX0 : ∀ a, a < 6 → ∀ b, b < 6 → a ≠ b → (TX0 a).2.1 ≠ (TX0 b).2.1 := by decide +kernel
theorem tyX0_ok : ∀ k, k < 6 → parseFieldDescriptor (TX0 k).2.2.1 = some (tyX0 k) := by decide +kernel
abbrev cX0_init : ByteArray := prog_2_method_1_code
def yX0_init : MethodName := ⟨RX0, "<init>", "()V"⟩
abbrev cX0_send : ByteArray := prog_2_method_2_code
def yX0_send : MethodName := ⟨RX0, "send", "(II)V"⟩
abbrev cX0_act : ByteArray := prog_2_method_3_code
def yX0_act : MethodName := ⟨RX0, "act", "(I)V"⟩
abbrev cX0_repair : ByteArray := prog_2_method_4_code
def yX0_repair : MethodName := ⟨RX0, "repair", "()Z"⟩
def RX1 : String := "TunnelWatch$Fan"
def TX1 : u_T := fun k => match k with
  | 0 => ("TunnelWatch$Device", "command", "I", false)
  | 1 => ("TunnelWatch$Device", "actual", "I", false)
  | 2 => ("TunnelWatch$Device", "sentTick", "I", false)
  | 3 => ("TunnelWatch$Device", "lagTicks", "I", false)
  | 4 => ("TunnelWatch$Device", "failed", "Z", false)
  | 5 => ("TunnelWatch$Device", "out", "Z", false)
  | 6 => ("TunnelWatch$Fan", "kw", "I", false)
  | 7 => ("TunnelWatch$Fan", "runTicks", "I", false)
  | _ => ("TunnelWatch$Fan", "lastDirection", "I", false)
def tyX1 : Nat → FieldType := fun k => match k with
  | 0 => .int
  | 1 => .int
  | 2 => .int
  | 3 => .int
  | 4 => .boolean
  | 5 => .boolean
  | 6 => .int
  | 7 => .int
  | _ => .int
abbrev wsX10 : List Cond := u_ws RX1 TX1 9
theorem nmX1 : ∀ a, a < 9 → ∀ b, b < 9 → a ≠ b → (TX1 a).2.1 ≠ (TX1 b).2.1 := by decide +kernel
theorem tyX1_ok : ∀ k, k < 9 → parseFieldDescriptor (TX1 k).2.2.1 = some (tyX1 k) := by decide +kernel
abbrev cX1_init : ByteArray := prog_3_method_1_code
def yX1_init : MethodName := ⟨RX1, "<init>", "()V"⟩
abbrev cX1_blow : ByteArray := prog_3_method_2_code
def yX1_blow : MethodName := ⟨RX1, "blow", "(II)V"⟩
abbrev cX1_stand : ByteArray := prog_3_method_3_code
def yX1_stand : MethodName := ⟨RX1, "stand", "(I)V"⟩
abbrev cX1_judgeOut : ByteArray := prog_3_method_4_code
def yX1_judgeOut : MethodName := ⟨RX1, "judgeOut", "(I)V"⟩
abbrev cX1_drawnKw : ByteArray := prog_3_method_5_code
def yX1_drawnKw : MethodName := ⟨RX1, "drawnKw", "(I)I"⟩
abbrev cX1_restLeft : ByteArray := prog_3_method_6_code
def yX1_restLeft : MethodName := ⟨RX1, "restLeft", "(II)I"⟩
abbrev cX1_hasRested : ByteArray := prog_3_method_7_code
def yX1_hasRested : MethodName := ⟨RX1, "hasRested", "(III)Z"⟩
def RX2 : String := "TunnelWatch$Section"
def TX2 : u_T := fun k => match k with
  | 0 => ("TunnelWatch$Section", "value", "I", false)
  | 1 => ("TunnelWatch$Section", "deaf", "Z", false)
  | 2 => ("TunnelWatch$Section", "pulled", "Z", false)
  | 3 => ("TunnelWatch$Section", "rank", "I", false)
  | 4 => ("TunnelWatch$Section", "ownDirection", "I", false)
  | 5 => ("TunnelWatch$Section", "ownFans", "I", false)
  | 6 => ("TunnelWatch$Section", "otherDirection", "I", false)
  | _ => ("TunnelWatch$Section", "otherFans", "I", false)
def tyX2 : Nat → FieldType := fun k => match k with
  | 0 => .int
  | 1 => .boolean
  | 2 => .boolean
  | 3 => .int
  | 4 => .int
  | 5 => .int
  | 6 => .int
  | _ => .int
abbrev wsX20 : List Cond := u_ws RX2 TX2 8
theorem nmX2 : ∀ a, a < 8 → ∀ b, b < 8 → a ≠ b → (TX2 a).2.1 ≠ (TX2 b).2.1 := by decide +kernel
theorem tyX2_ok : ∀ k, k < 8 → parseFieldDescriptor (TX2 k).2.2.1 = some (tyX2 k) := by decide +kernel
abbrev cX2_init : ByteArray := prog_4_method_1_code
def yX2_init : MethodName := ⟨RX2, "<init>", "()V"⟩
abbrev cX2_isOn : ByteArray := prog_4_method_2_code
def yX2_isOn : MethodName := ⟨RX2, "isOn", "()Z"⟩
def RX3 : String := "TunnelWatch$Tube"
def TX3 : u_T := fun k => match k with
  | 0 => ("TunnelWatch$Tube", "sections", "[LTunnelWatch$Section;", true)
  | 1 => ("TunnelWatch$Tube", "signals", "LTunnelWatch$Device;", true)
  | 2 => ("TunnelWatch$Tube", "barrier", "LTunnelWatch$Device;", true)
  | 3 => ("TunnelWatch$Tube", "fans", "[LTunnelWatch$Fan;", true)
  | 4 => ("TunnelWatch$Tube", "fanCount", "I", false)
  | 5 => ("TunnelWatch$Tube", "stopOrdered", "Z", false)
  | 6 => ("TunnelWatch$Tube", "wishedDirection", "I", false)
  | 7 => ("TunnelWatch$Tube", "wishedFans", "I", false)
  | 8 => ("TunnelWatch$Tube", "wantedDirection", "I", false)
  | 9 => ("TunnelWatch$Tube", "wantedFans", "I", false)
  | 10 => ("TunnelWatch$Tube", "status", "I", false)
  | _ => ("TunnelWatch$Tube", "fireSection", "I", false)
def tyX3 : Nat → FieldType := fun k => match k with
  | 0 => .array (.object "TunnelWatch$Section")
  | 1 => .object "TunnelWatch$Device"
  | 2 => .object "TunnelWatch$Device"
  | 3 => .array (.object "TunnelWatch$Fan")
  | 4 => .int
  | 5 => .boolean
  | 6 => .int
  | 7 => .int
  | 8 => .int
  | 9 => .int
  | 10 => .int
  | _ => .int
abbrev wsX30 : List Cond := u_ws RX3 TX3 12
theorem nmX3 : ∀ a, a < 12 → ∀ b, b < 12 → a ≠ b → (TX3 a).2.1 ≠ (TX3 b).2.1 := by decide +kernel
theorem tyX3_ok : ∀ k, k < 12 → parseFieldDescriptor (TX3 k).2.2.1 = some (tyX3 k) := by decide +kernel
abbrev cX3_init : ByteArray := prog_5_method_1_code
def yX3_init : MethodName := ⟨RX3, "<init>", "(I)V"⟩
abbrev cX3_addFan : ByteArray := prog_5_method_2_code
def yX3_addFan : MethodName := ⟨RX3, "addFan", "(I)I"⟩
abbrev cX3_deviceAt : ByteArray := prog_5_method_3_code
def yX3_deviceAt : MethodName := ⟨RX3, "deviceAt", "(I)LTunnelWatch$Device;"⟩
abbrev cX3_judgeFire : ByteArray := prog_5_method_4_code
def yX3_judgeFire : MethodName := ⟨RX3, "judgeFire", "()V"⟩
abbrev cX3_judgeSuspicion : ByteArray := prog_5_method_5_code
def yX3_judgeSuspicion : MethodName := ⟨RX3, "judgeSuspicion", "()V"⟩
abbrev cX3_bestCandidate : ByteArray := prog_5_method_6_code
def yX3_bestCandidate : MethodName := ⟨RX3, "bestCandidate", "()I"⟩
abbrev cX3_leastOfPair : ByteArray := prog_5_method_7_code
def yX3_leastOfPair : MethodName := ⟨RX3, "leastOfPair", "()I"⟩
abbrev cX3_isOnCloseAbove : ByteArray := prog_5_method_8_code
def yX3_isOnCloseAbove : MethodName := ⟨RX3, "isOnCloseAbove", "(I)Z"⟩
abbrev cX3_leastOn : ByteArray := prog_5_method_9_code
def yX3_leastOn : MethodName := ⟨RX3, "leastOn", "()I"⟩
abbrev cX3_fireRank : ByteArray := prog_5_method_10_code
def yX3_fireRank : MethodName := ⟨RX3, "fireRank", "()I"⟩
abbrev cX3_pullWhereSuspected : ByteArray := prog_5_method_11_code
def yX3_pullWhereSuspected : MethodName := ⟨RX3, "pullWhereSuspected", "()Z"⟩
abbrev cX3_endFire : ByteArray := prog_5_method_12_code
def yX3_endFire : MethodName := ⟨RX3, "endFire", "()Z"⟩
abbrev cX3_want : ByteArray := prog_5_method_13_code
def yX3_want : MethodName := ⟨RX3, "want", "(II)V"⟩
abbrev cX3_settleDevices : ByteArray := prog_5_method_14_code
def yX3_settleDevices : MethodName := ⟨RX3, "settleDevices", "(I)V"⟩
abbrev cX3_commandTraffic : ByteArray := prog_5_method_15_code
def yX3_commandTraffic : MethodName := ⟨RX3, "commandTraffic", "(ZI)V"⟩
abbrev cX3_isHalted : ByteArray := prog_5_method_16_code
def yX3_isHalted : MethodName := ⟨RX3, "isHalted", "(I)Z"⟩
abbrev cX3_isUnsafe : ByteArray := prog_5_method_17_code
def yX3_isUnsafe : MethodName := ⟨RX3, "isUnsafe", "(I)Z"⟩
abbrev cX3_countBlowing : ByteArray := prog_5_method_18_code
def yX3_countBlowing : MethodName := ⟨RX3, "countBlowing", "(I)I"⟩
abbrev cX3_drawnKw : ByteArray := prog_5_method_19_code
def yX3_drawnKw : MethodName := ⟨RX3, "drawnKw", "(I)I"⟩
abbrev cX3_stopFans : ByteArray := prog_5_method_20_code
def yX3_stopFans : MethodName := ⟨RX3, "stopFans", "(ZI)V"⟩
abbrev cX3_stopBlowingAgainst : ByteArray := prog_5_method_21_code
def yX3_stopBlowingAgainst : MethodName := ⟨RX3, "stopBlowingAgainst", "(I)V"⟩
abbrev cX3_stopLongestRun : ByteArray := prog_5_method_22_code
def yX3_stopLongestRun : MethodName := ⟨RX3, "stopLongestRun", "(I)Z"⟩
abbrev cX3_stopAt : ByteArray := prog_5_method_23_code
def yX3_stopAt : MethodName := ⟨RX3, "stopAt", "(II)V"⟩
abbrev cX3_longestRun : ByteArray := prog_5_method_24_code
def yX3_longestRun : MethodName := ⟨RX3, "longestRun", "(Z)I"⟩
abbrev cX3_leastRunReady : ByteArray := prog_5_method_25_code
def yX3_leastRunReady : MethodName := ⟨RX3, "leastRunReady", "(II)I"⟩
abbrev cX3_isReady : ByteArray := prog_5_method_26_code
def yX3_isReady : MethodName := ⟨RX3, "isReady", "(LTunnelWatch$Fan;II)Z"⟩
abbrev cX3_countRun : ByteArray := prog_5_method_27_code
def yX3_countRun : MethodName := ⟨RX3, "countRun", "()V"⟩
def RX4 : String := "TunnelWatch"
def TX4 : u_T := fun k => match k with
  | 0 => ("TunnelWatch", "sectionCount", "I", true)
  | 1 => ("TunnelWatch", "rest", "I", true)
  | 2 => ("TunnelWatch", "first", "LTunnelWatch$Tube;", true)
  | 3 => ("TunnelWatch", "second", "LTunnelWatch$Tube;", true)
  | 4 => ("TunnelWatch", "startCounts", "[I", true)
  | 5 => ("TunnelWatch", "feedLimit", "I", false)
  | 6 => ("TunnelWatch", "time", "I", false)
  | 7 => ("TunnelWatch", "unrestedStart", "Z", false)
  | _ => ("TunnelWatch", "brokenTicks", "I", false)
def tyX4 : Nat → FieldType := fun k => match k with
  | 0 => .int
  | 1 => .int
  | 2 => .object "TunnelWatch$Tube"
  | 3 => .object "TunnelWatch$Tube"
  | 4 => .array .int
  | 5 => .int
  | 6 => .int
  | 7 => .boolean
  | _ => .int
abbrev wsX40 : List Cond := u_ws RX4 TX4 9
theorem nmX4 : ∀ a, a < 9 → ∀ b, b < 9 → a ≠ b → (TX4 a).2.1 ≠ (TX4 b).2.1 := by decide +kernel
theorem tyX4_ok : ∀ k, k < 9 → parseFieldDescriptor (TX4 k).2.2.1 = some (tyX4 k) := by decide +kernel
abbrev cX4_init : ByteArray := prog_1_method_1_code
def yX4_init : MethodName := ⟨RX4, "<init>", "(III)V"⟩
abbrev cX4_fan : ByteArray := prog_1_method_2_code
def yX4_fan : MethodName := ⟨RX4, "fan", "(II)I"⟩
abbrev cX4_lag : ByteArray := prog_1_method_3_code
def yX4_lag : MethodName := ⟨RX4, "lag", "(III)I"⟩
abbrev cX4_plan : ByteArray := prog_1_method_4_code
def yX4_plan : MethodName := ⟨RX4, "plan", "(IIIIII)V"⟩
abbrev cX4_turn : ByteArray := prog_1_method_5_code
def yX4_turn : MethodName := ⟨RX4, "turn", "(III)V"⟩
abbrev cX4_sense : ByteArray := prog_1_method_6_code
def yX4_sense : MethodName := ⟨RX4, "sense", "(III)I"⟩
abbrev cX4_deafen : ByteArray := prog_1_method_7_code
def yX4_deafen : MethodName := ⟨RX4, "deafen", "(IIZ)Z"⟩
abbrev cX4_pull : ByteArray := prog_1_method_8_code
def yX4_pull : MethodName := ⟨RX4, "pull", "(II)Z"⟩
abbrev cX4_confirm : ByteArray := prog_1_method_9_code
def yX4_confirm : MethodName := ⟨RX4, "confirm", "(I)Z"⟩
abbrev cX4_reset : ByteArray := prog_1_method_10_code
def yX4_reset : MethodName := ⟨RX4, "reset", "(I)Z"⟩
abbrev cX4_wish : ByteArray := prog_1_method_11_code
def yX4_wish : MethodName := ⟨RX4, "wish", "(III)V"⟩
abbrev cX4_order : ByteArray := prog_1_method_12_code
def yX4_order : MethodName := ⟨RX4, "order", "(IZ)Z"⟩
abbrev cX4_limit : ByteArray := prog_1_method_13_code
def yX4_limit : MethodName := ⟨RX4, "limit", "(I)I"⟩
abbrev cX4_fail : ByteArray := prog_1_method_14_code
def yX4_fail : MethodName := ⟨RX4, "fail", "(II)Z"⟩
abbrev cX4_mend : ByteArray := prog_1_method_15_code
def yX4_mend : MethodName := ⟨RX4, "mend", "(II)Z"⟩
abbrev cX4_ticks : ByteArray := prog_1_method_16_code
def yX4_ticks : MethodName := ⟨RX4, "ticks", "(I)I"⟩
abbrev cX4_tube : ByteArray := prog_1_method_17_code
def yX4_tube : MethodName := ⟨RX4, "tube", "(II)I"⟩
abbrev cX4_device : ByteArray := prog_1_method_18_code
def yX4_device : MethodName := ⟨RX4, "device", "(III)I"⟩
abbrev cX4_load : ByteArray := prog_1_method_19_code
def yX4_load : MethodName := ⟨RX4, "load", "()I"⟩
abbrev cX4_starts : ByteArray := prog_1_method_20_code
def yX4_starts : MethodName := ⟨RX4, "starts", "()I"⟩
abbrev cX4_broken : ByteArray := prog_1_method_21_code
def yX4_broken : MethodName := ⟨RX4, "broken", "()I"⟩
abbrev cX4_tick : ByteArray := prog_1_method_22_code
def yX4_tick : MethodName := ⟨RX4, "tick", "()V"⟩
abbrev cX4_tubeThatCounts : ByteArray := prog_1_method_23_code
def yX4_tubeThatCounts : MethodName := ⟨RX4, "tubeThatCounts", "()I"⟩
abbrev cX4_wantFans : ByteArray := prog_1_method_24_code
def yX4_wantFans : MethodName := ⟨RX4, "wantFans", "(ZLTunnelWatch$Tube;LTunnelWatch$Tube;)V"⟩
abbrev cX4_shedLoad : ByteArray := prog_1_method_25_code
def yX4_shedLoad : MethodName := ⟨RX4, "shedLoad", "(LTunnelWatch$Tube;LTunnelWatch$Tube;)V"⟩
abbrev cX4_startFans : ByteArray := prog_1_method_26_code
def yX4_startFans : MethodName := ⟨RX4, "startFans", "(LTunnelWatch$Tube;)Z"⟩
abbrev cX4_mayStart : ByteArray := prog_1_method_27_code
def yX4_mayStart : MethodName := ⟨RX4, "mayStart", "(LTunnelWatch$Fan;)Z"⟩
abbrev cX4_startFan : ByteArray := prog_1_method_28_code
def yX4_startFan : MethodName := ⟨RX4, "startFan", "(LTunnelWatch$Fan;I)V"⟩
abbrev cX4_isBroken : ByteArray := prog_1_method_29_code
def yX4_isBroken : MethodName := ⟨RX4, "isBroken", "()Z"⟩
abbrev cX4_tellFan : ByteArray := prog_1_method_30_code
def yX4_tellFan : MethodName := ⟨RX4, "tellFan", "(LTunnelWatch$Fan;I)I"⟩
abbrev cX4_tubeAt : ByteArray := prog_1_method_31_code
def yX4_tubeAt : MethodName := ⟨RX4, "tubeAt", "(I)LTunnelWatch$Tube;"⟩
abbrev cX4_clamp : ByteArray := prog_1_method_32_code
def yX4_clamp : MethodName := ⟨RX4, "clamp", "(III)I"⟩
abbrev cX4_isWithin : ByteArray := prog_1_method_33_code
def yX4_isWithin : MethodName := ⟨RX4, "isWithin", "(III)Z"⟩
abbrev cX4_directionOf : ByteArray := prog_1_method_34_code
def yX4_directionOf : MethodName := ⟨RX4, "directionOf", "(I)I"⟩
abbrev cX4_need : ByteArray := prog_1_method_35_code
def yX4_need : MethodName := ⟨RX4, "need", "(Z)V"⟩
abbrev cX4_needState : ByteArray := prog_1_method_36_code
def yX4_needState : MethodName := ⟨RX4, "needState", "(Z)V"⟩
abbrev cX4_needTube : ByteArray := prog_1_method_37_code
def yX4_needTube : MethodName := ⟨RX4, "needTube", "(I)V"⟩
abbrev cX4_needSection : ByteArray := prog_1_method_38_code
def yX4_needSection : MethodName := ⟨RX4, "needSection", "(II)V"⟩
abbrev cX4_needDevice : ByteArray := prog_1_method_39_code
def yX4_needDevice : MethodName := ⟨RX4, "needDevice", "(II)V"⟩
def RX5 : String := "TunnelWatchModel"
def TX5 : u_T := fun k => match k with
  | 0 => ("TunnelWatchModel", "code", "I", false)
  | 1 => ("TunnelWatchModel", "sections", "I", true)
  | 2 => ("TunnelWatchModel", "rest", "I", true)
  | 3 => ("TunnelWatchModel", "limit", "I", false)
  | 4 => ("TunnelWatchModel", "now", "I", false)
  | 5 => ("TunnelWatchModel", "fans", "[I", true)
  | 6 => ("TunnelWatchModel", "lag", "[I", true)
  | 7 => ("TunnelWatchModel", "command", "[I", true)
  | 8 => ("TunnelWatchModel", "actual", "[I", true)
  | 9 => ("TunnelWatchModel", "sent", "[I", true)
  | 10 => ("TunnelWatchModel", "failed", "[Z", true)
  | 11 => ("TunnelWatchModel", "out", "[Z", true)
  | 12 => ("TunnelWatchModel", "kw", "[I", true)
  | 13 => ("TunnelWatchModel", "run", "[I", true)
  | 14 => ("TunnelWatchModel", "last", "[I", true)
  | 15 => ("TunnelWatchModel", "stopped", "[I", true)
  | 16 => ("TunnelWatchModel", "started", "[I", true)
  | 17 => ("TunnelWatchModel", "value", "[I", true)
  | 18 => ("TunnelWatchModel", "deaf", "[Z", true)
  | 19 => ("TunnelWatchModel", "pulled", "[Z", true)
  | 20 => ("TunnelWatchModel", "rank", "[I", true)
  | 21 => ("TunnelWatchModel", "turnHere", "[I", true)
  | 22 => ("TunnelWatchModel", "fansHere", "[I", true)
  | 23 => ("TunnelWatchModel", "turnThere", "[I", true)
  | 24 => ("TunnelWatchModel", "fansThere", "[I", true)
  | 25 => ("TunnelWatchModel", "fire", "[I", true)
  | 26 => ("TunnelWatchModel", "place", "[I", true)
  | 27 => ("TunnelWatchModel", "ordered", "[Z", true)
  | 28 => ("TunnelWatchModel", "wishTurn", "[I", true)
  | 29 => ("TunnelWatchModel", "wishFans", "[I", true)
  | 30 => ("TunnelWatchModel", "wantTurn", "[I", true)
  | 31 => ("TunnelWatchModel", "wantFans", "[I", true)
  | 32 => ("TunnelWatchModel", "begun", "[I", true)
  | 33 => ("TunnelWatchModel", "broken", "I", false)
  | _ => ("TunnelWatchModel", "wrong", "Z", false)
def tyX5 : Nat → FieldType := fun k => match k with
  | 0 => .int
  | 1 => .int
  | 2 => .int
  | 3 => .int
  | 4 => .int
  | 5 => .array .int
  | 6 => .array .int
  | 7 => .array .int
  | 8 => .array .int
  | 9 => .array .int
  | 10 => .array .boolean
  | 11 => .array .boolean
  | 12 => .array .int
  | 13 => .array .int
  | 14 => .array .int
  | 15 => .array .int
  | 16 => .array .int
  | 17 => .array .int
  | 18 => .array .boolean
  | 19 => .array .boolean
  | 20 => .array .int
  | 21 => .array .int
  | 22 => .array .int
  | 23 => .array .int
  | 24 => .array .int
  | 25 => .array .int
  | 26 => .array .int
  | 27 => .array .boolean
  | 28 => .array .int
  | 29 => .array .int
  | 30 => .array .int
  | 31 => .array .int
  | 32 => .array .int
  | 33 => .int
  | _ => .boolean
abbrev wsX50 : List Cond := u_ws RX5 TX5 35
theorem nmX5 : ∀ a, a < 35 → ∀ b, b < 35 → a ≠ b → (TX5 a).2.1 ≠ (TX5 b).2.1 := by decide +kernel
theorem tyX5_ok : ∀ k, k < 35 → parseFieldDescriptor (TX5 k).2.2.1 = some (tyX5 k) := by decide +kernel
abbrev cX5_init : ByteArray := prog_7_method_1_code
def yX5_init : MethodName := ⟨RX5, "<init>", "(III)V"⟩
abbrev cX5_thrown : ByteArray := prog_7_method_2_code
def yX5_thrown : MethodName := ⟨RX5, "thrown", "()I"⟩
abbrev cX5_goes : ByteArray := prog_7_method_3_code
def yX5_goes : MethodName := ⟨RX5, "goes", "(ZZ)Z"⟩
abbrev cX5_isTube : ByteArray := prog_7_method_4_code
def yX5_isTube : MethodName := ⟨RX5, "isTube", "(I)Z"⟩
abbrev cX5_isSection : ByteArray := prog_7_method_5_code
def yX5_isSection : MethodName := ⟨RX5, "isSection", "(II)Z"⟩
abbrev cX5_isDevice : ByteArray := prog_7_method_6_code
def yX5_isDevice : MethodName := ⟨RX5, "isDevice", "(II)Z"⟩
abbrev cX5_turnOf : ByteArray := prog_7_method_7_code
def yX5_turnOf : MethodName := ⟨RX5, "turnOf", "(I)I"⟩
abbrev cX5_fan : ByteArray := prog_7_method_8_code
def yX5_fan : MethodName := ⟨RX5, "fan", "(II)I"⟩
abbrev cX5_lag : ByteArray := prog_7_method_9_code
def yX5_lag : MethodName := ⟨RX5, "lag", "(III)I"⟩
abbrev cX5_plan : ByteArray := prog_7_method_10_code
def yX5_plan : MethodName := ⟨RX5, "plan", "(IIIIII)V"⟩
abbrev cX5_turn : ByteArray := prog_7_method_11_code
def yX5_turn : MethodName := ⟨RX5, "turn", "(III)V"⟩
abbrev cX5_sense : ByteArray := prog_7_method_12_code
def yX5_sense : MethodName := ⟨RX5, "sense", "(III)I"⟩
abbrev cX5_deafen : ByteArray := prog_7_method_13_code
def yX5_deafen : MethodName := ⟨RX5, "deafen", "(IIZ)Z"⟩
abbrev cX5_pull : ByteArray := prog_7_method_14_code
def yX5_pull : MethodName := ⟨RX5, "pull", "(II)Z"⟩
abbrev cX5_confirm : ByteArray := prog_7_method_15_code
def yX5_confirm : MethodName := ⟨RX5, "confirm", "(I)Z"⟩
abbrev cX5_isOn : ByteArray := prog_7_method_16_code
def yX5_isOn : MethodName := ⟨RX5, "isOn", "(II)Z"⟩
abbrev cX5_leastOn : ByteArray := prog_7_method_17_code
def yX5_leastOn : MethodName := ⟨RX5, "leastOn", "(I)I"⟩
abbrev cX5_reset : ByteArray := prog_7_method_18_code
def yX5_reset : MethodName := ⟨RX5, "reset", "(I)Z"⟩
abbrev cX5_wish : ByteArray := prog_7_method_19_code
def yX5_wish : MethodName := ⟨RX5, "wish", "(III)V"⟩
abbrev cX5_order : ByteArray := prog_7_method_20_code
def yX5_order : MethodName := ⟨RX5, "order", "(IZ)Z"⟩
abbrev cX5_limit : ByteArray := prog_7_method_21_code
def yX5_limit : MethodName := ⟨RX5, "limit", "(I)I"⟩
abbrev cX5_fail : ByteArray := prog_7_method_22_code
def yX5_fail : MethodName := ⟨RX5, "fail", "(II)Z"⟩
abbrev cX5_mend : ByteArray := prog_7_method_23_code
def yX5_mend : MethodName := ⟨RX5, "mend", "(II)Z"⟩
abbrev cX5_send : ByteArray := prog_7_method_24_code
def yX5_send : MethodName := ⟨RX5, "send", "(II)V"⟩
abbrev cX5_stop : ByteArray := prog_7_method_25_code
def yX5_stop : MethodName := ⟨RX5, "stop", "(I)V"⟩
abbrev cX5_isHalted : ByteArray := prog_7_method_26_code
def yX5_isHalted : MethodName := ⟨RX5, "isHalted", "(I)Z"⟩
abbrev cX5_act : ByteArray := prog_7_method_27_code
def yX5_act : MethodName := ⟨RX5, "act", "()V"⟩
abbrev cX5_isCandidate : ByteArray := prog_7_method_28_code
def yX5_isCandidate : MethodName := ⟨RX5, "isCandidate", "(II)Z"⟩
abbrev cX5_judge : ByteArray := prog_7_method_29_code
def yX5_judge : MethodName := ⟨RX5, "judge", "(I)V"⟩
abbrev cX5_burning : ByteArray := prog_7_method_30_code
def yX5_burning : MethodName := ⟨RX5, "burning", "()I"⟩
abbrev cX5_want : ByteArray := prog_7_method_31_code
def yX5_want : MethodName := ⟨RX5, "want", "(I)V"⟩
abbrev cX5_traffic : ByteArray := prog_7_method_32_code
def yX5_traffic : MethodName := ⟨RX5, "traffic", "(Z)V"⟩
abbrev cX5_blowing : ByteArray := prog_7_method_33_code
def yX5_blowing : MethodName := ⟨RX5, "blowing", "(II)I"⟩
abbrev cX5_longest : ByteArray := prog_7_method_34_code
def yX5_longest : MethodName := ⟨RX5, "longest", "(II)I"⟩
abbrev cX5_calm : ByteArray := prog_7_method_35_code
def yX5_calm : MethodName := ⟨RX5, "calm", "(IZ)V"⟩
abbrev cX5_loadOf : ByteArray := prog_7_method_36_code
def yX5_loadOf : MethodName := ⟨RX5, "loadOf", "()I"⟩
abbrev cX5_relieve : ByteArray := prog_7_method_37_code
def yX5_relieve : MethodName := ⟨RX5, "relieve", "(I)V"⟩
abbrev cX5_startsOf : ByteArray := prog_7_method_38_code
def yX5_startsOf : MethodName := ⟨RX5, "startsOf", "()I"⟩
abbrev cX5_hasRested : ByteArray := prog_7_method_39_code
def yX5_hasRested : MethodName := ⟨RX5, "hasRested", "(II)Z"⟩
abbrev cX5_starting : ByteArray := prog_7_method_40_code
def yX5_starting : MethodName := ⟨RX5, "starting", "(I)Z"⟩
abbrev cX5_look : ByteArray := prog_7_method_41_code
def yX5_look : MethodName := ⟨RX5, "look", "()V"⟩
abbrev cX5_tick : ByteArray := prog_7_method_42_code
def yX5_tick : MethodName := ⟨RX5, "tick", "()V"⟩
abbrev cX5_ticks : ByteArray := prog_7_method_43_code
def yX5_ticks : MethodName := ⟨RX5, "ticks", "(I)I"⟩
abbrev cX5_tube : ByteArray := prog_7_method_44_code
def yX5_tube : MethodName := ⟨RX5, "tube", "(II)I"⟩
abbrev cX5_device : ByteArray := prog_7_method_45_code
def yX5_device : MethodName := ⟨RX5, "device", "(III)I"⟩
abbrev cX5_load : ByteArray := prog_7_method_46_code
def yX5_load : MethodName := ⟨RX5, "load", "()I"⟩
abbrev cX5_starts : ByteArray := prog_7_method_47_code
def yX5_starts : MethodName := ⟨RX5, "starts", "()I"⟩
abbrev cX5_broken : ByteArray := prog_7_method_48_code
def yX5_broken : MethodName := ⟨RX5, "broken", "()I"⟩
def RJ9 : String := "java/lang/Math"
def TJ9 : u_T := fun k => match k with
  | _ => ("", "", "", false)
def tyJ9 : Nat → FieldType := fun k => match k with
  | _ => .int
abbrev wsJ90 : List Cond := u_ws RJ9 TJ9 0
theorem nmJ9 : ∀ a, a < 0 → ∀ b, b < 0 → a ≠ b → (TJ9 a).2.1 ≠ (TJ9 b).2.1 := by decide +kernel
theorem tyJ9_ok : ∀ k, k < 0 → parseFieldDescriptor (TJ9 k).2.2.1 = some (tyJ9 k) := by decide +kernel
abbrev cJ9_max_7cf53 : ByteArray := prog_11_method_65_code
def yJ9_max_7cf53 : MethodName := ⟨RJ9, "max", "(II)I"⟩
abbrev cJ9_min_7cf53 : ByteArray := prog_11_method_69_code
def yJ9_min_7cf53 : MethodName := ⟨RJ9, "min", "(II)I"⟩
def RL : String := "TunnelWatchLaw"
abbrev cL_cell : ByteArray := method_2_code
def yL_cell : MethodName := ⟨RL, "cell", "([II)I"⟩
abbrev cL_fan : ByteArray := method_3_code
def yL_fan : MethodName := ⟨RL, "fan", "(LTunnelWatch;II[J)I"⟩
abbrev cL_lag : ByteArray := method_4_code
def yL_lag : MethodName := ⟨RL, "lag", "(LTunnelWatch;III[J)I"⟩
abbrev cL_plan : ByteArray := method_5_code
def yL_plan : MethodName := ⟨RL, "plan", "(LTunnelWatch;IIIIII)I"⟩
abbrev cL_turn : ByteArray := method_6_code
def yL_turn : MethodName := ⟨RL, "turn", "(LTunnelWatch;III)I"⟩
abbrev cL_sense : ByteArray := method_7_code
def yL_sense : MethodName := ⟨RL, "sense", "(LTunnelWatch;III[J)I"⟩
abbrev cL_deafen : ByteArray := method_8_code
def yL_deafen : MethodName := ⟨RL, "deafen", "(LTunnelWatch;IIZ[J)I"⟩
abbrev cL_pull : ByteArray := method_9_code
def yL_pull : MethodName := ⟨RL, "pull", "(LTunnelWatch;II[J)I"⟩
abbrev cL_confirm : ByteArray := method_10_code
def yL_confirm : MethodName := ⟨RL, "confirm", "(LTunnelWatch;I[J)I"⟩
abbrev cL_reset : ByteArray := method_11_code
def yL_reset : MethodName := ⟨RL, "reset", "(LTunnelWatch;I[J)I"⟩
abbrev cL_wish : ByteArray := method_12_code
def yL_wish : MethodName := ⟨RL, "wish", "(LTunnelWatch;III)I"⟩
abbrev cL_order : ByteArray := method_13_code
def yL_order : MethodName := ⟨RL, "order", "(LTunnelWatch;IZ[J)I"⟩
abbrev cL_limit : ByteArray := method_14_code
def yL_limit : MethodName := ⟨RL, "limit", "(LTunnelWatch;I[J)I"⟩
abbrev cL_fail : ByteArray := method_15_code
def yL_fail : MethodName := ⟨RL, "fail", "(LTunnelWatch;II[J)I"⟩
abbrev cL_mend : ByteArray := method_16_code
def yL_mend : MethodName := ⟨RL, "mend", "(LTunnelWatch;II[J)I"⟩
abbrev cL_ticks : ByteArray := method_17_code
def yL_ticks : MethodName := ⟨RL, "ticks", "(LTunnelWatch;I[J)I"⟩
abbrev cL_tube : ByteArray := method_18_code
def yL_tube : MethodName := ⟨RL, "tube", "(LTunnelWatch;II[J)I"⟩
abbrev cL_device : ByteArray := method_19_code
def yL_device : MethodName := ⟨RL, "device", "(LTunnelWatch;III[J)I"⟩
abbrev cL_law : ByteArray := code
def yL_law : MethodName := ⟨RL, "law", "([I)Z"⟩
abbrev vwCl : List vw_C := [(RX0, TX0, 6), (RX1, TX1, 9), (RX2, TX2, 8), (RX3, TX3, 12), (RX4, TX4, 9), (RX5, TX5, 35)]
end
section
/-! the walk of a body against a value: sk says: if the program's own text (K) has the end res, the machine comes from here to Q res -/
def gd {ρ : Type} (c : Prop) [Decidable c] (K : Option ρ) : Option ρ := if c then K else none
theorem gd_some {ρ : Type} {c : Prop} [Decidable c] {K : Option ρ} {res : ρ} (h : gd c K = some res) : c ∧ K = some res := by
  unfold gd at h
  by_cases hc : c
  · rw [if_pos hc] at h; exact ⟨hc, h⟩
  · rw [if_neg hc] at h; cases h
def bd {α σ ρ : Type} (Kc : Option (α × σ)) (K : α → σ → Option ρ) : Option ρ := Kc.bind fun q => K q.1 q.2
theorem bd_some {α σ ρ : Type} {a : α} {b : σ} {K : α → σ → Option ρ} : bd (some (a, b)) K = K a b := rfl
theorem gd_pos {ρ : Type} {c : Prop} [Decidable c] {K : Option ρ} (h : c) : gd c K = K := if_pos h
abbrev inb (i : Int32) (n : Nat) : Prop := ¬ (i < 0 ∨ n ≤ i.toNatClampNeg)
abbrev bo (x : Int32) : Prop := x = 0 ∨ x = 1
abbrev Mem : Type := Nat → Nat → Int32
def up2 (v : Mem) (o k : Nat) (x : Int32) : Mem := fun a => if a = o then upd (v o) k x else v a
/-- a world of numbered things: thing o lies at ad o and looks as sh says of its row -/
def ow (L : List Nat) (ad : Nat → Nat) (sh : Nat → (Nat → Int32) → va_E) (v : Mem) : va_W := L.map (fun o => (ad o, sh o (v o)))
theorem ow_get {L : List Nat} {ad : Nat → Nat} {sh : Nat → (Nat → Int32) → va_E} {v : Mem} {X : va_W} {o : Nat} (h : o ∈ L) : ∃ k : Nat, L[k]? = some o ∧ (ow L ad sh v ++ X)[k]? = some (ad o, sh o (v o)) := by
  obtain ⟨k, hk⟩ := List.getElem?_of_mem h
  refine ⟨k, hk, ?_⟩
  have hlt : k < L.length := (List.getElem?_eq_some_iff.mp hk).1
  rw [List.getElem?_append_left (by simpa [ow] using hlt)]
  simp [ow, hk]
theorem ow_set {L : List Nat} (nd : L.Nodup) {ad : Nat → Nat} {sh : Nat → (Nat → Int32) → va_E} {v : Mem} {X : va_W} {o k j : Nat} {x : Int32} (hk : L[k]? = some o) : (ow L ad sh v ++ X).set k (ad o, sh o (upd (v o) j x)) = ow L ad sh (up2 v o j x) ++ X := by
  have hlt : k < L.length := (List.getElem?_eq_some_iff.mp hk).1
  rw [List.set_append_left _ _ (by simpa [ow] using hlt)]
  congr 1
  apply List.ext_getElem?
  intro i
  by_cases hi : i = k
  · subst hi
    rw [List.getElem?_set_self (by simpa [ow] using hlt)]
    simp [ow, hk, up2]
  · rw [List.getElem?_set_ne (Ne.symm hi)]
    simp only [ow, List.getElem?_map]
    cases hL : L[i]? with
    | none => rfl
    | some a =>
      have hne : a ≠ o := fun e => by
        subst e
        exact hi ((List.getElem?_inj (List.getElem?_eq_some_iff.mp hL).1 nd).mp (hL.trans hk.symm))
      simp [up2, hne]
/-- the fixed part of a world: classes' numbers, array classes, what may change -/
def wo (D : va_G) (A : Nat → Prop) (tys : List (ClassId × FieldType)) (ws : va_W) (t : State) : Prop := va_P D vwCl ws t.heap ∧ va_K D vwCl tys t ∧ va_D A ws
def zz (A : Nat → Prop) (U : State) (H : Heap) : Prop := vx_Zq Bundle.tN "UNASSIGNED_STACK" Bundle.steD A U H ∧ vx_Zq Bundle.tN "SUPPRESSED_SENTINEL" Bundle.listD A U H
def pq (D : va_G) (A : Nat → Prop) (tys : List (ClassId × FieldType)) (as : List Value) (ws : va_W) : Array Value → State → Prop := va_Pc as (fun U => va_P D vwCl ws U.heap ∧ va_K D vwCl tys U ∧ va_D A ws ∧ (∀ q, U.heap.size ≤ q → A q) ∧ zz A U U.heap)
theorem pq_blind {D : va_G} {A : Nat → Prop} {tys : List (ClassId × FieldType)} {as : List Value} {ws : va_W} : FrameBlind (pq D A tys as ws) := by
  intro a U g mk h
  obtain ⟨h0, h1, h2, h3, h4, h5, h6⟩ := h
  exact ⟨h0, h1, va_K.moved (u := U) (U := U.calling g mk a) (Vm.Alike.refl U.vm) h2, h3, h4, vx_Zq.moved (u := U) (U := U.calling g mk a) (Vm.Alike.refl U.vm) h5, vx_Zq.moved (u := U) (U := U.calling g mk a) (Vm.Alike.refl U.vm) h6⟩
abbrev qi {σ : Type} (D : va_G) (A : Nat → Prop) (tys : List (ClassId × FieldType)) (Ws : σ → va_W) (res : Int32 × σ) : Array Value → State → Outcome → State → Prop := va_Qi (fun r v' => (r, v') = res) (fun v' t => wo D A tys (Ws v') t) A
abbrev qv {σ : Type} (D : va_G) (A : Nat → Prop) (tys : List (ClassId × FieldType)) (Ws : σ → va_W) (res : σ) : Array Value → State → Outcome → State → Prop := va_Qv (fun v' => v' = res) (fun v' t => wo D A tys (Ws v') t) A
abbrev qr {σ : Type} (D : va_G) (A : Nat → Prop) (tys : List (ClassId × FieldType)) (ad : Nat → Nat) (Ws : σ → va_W) (res : Nat × σ) : Array Value → State → Outcome → State → Prop := va_Qr (fun u => u = res) (fun u a t => a = ad u.1 ∧ wo D A tys (Ws u.2) t) A
/-- contracts: the machine's method ends as the text K says -/
def CI {σ : Type} (l : Launch) (y : MethodName) (ws : List Cond) (rm : Room) (D : va_G) (A : Nat → Prop) (tys : List (ClassId × FieldType)) (Ws : σ → va_W) (as : List Value) (v : σ) (K : Option (Int32 × σ)) : Prop := ∀ res, K = some res → Met l y ws rm (pq D A tys as (Ws v)) (qi D A tys Ws res) 0 0 A
def CV {σ : Type} (l : Launch) (y : MethodName) (ws : List Cond) (rm : Room) (D : va_G) (A : Nat → Prop) (tys : List (ClassId × FieldType)) (Ws : σ → va_W) (as : List Value) (v : σ) (K : Option σ) : Prop := ∀ res, K = some res → Met l y ws rm (pq D A tys as (Ws v)) (qv D A tys Ws res) 0 0 A
def CR {σ : Type} (l : Launch) (y : MethodName) (ws : List Cond) (rm : Room) (D : va_G) (A : Nat → Prop) (tys : List (ClassId × FieldType)) (ad : Nat → Nat) (Ws : σ → va_W) (as : List Value) (v : σ) (K : Option (Nat × σ)) : Prop := ∀ res, K = some res → Met l y ws rm (pq D A tys as (Ws v)) (qr D A tys ad Ws res) 0 0 A
section SKA
variable {p : Program} {l : Launch} {e : Env} {R : Room} {s : State} {m : MethodId} {args : Array Value} {below : List Frame} {meth : Method} {c : Code} {cc : ByteArray} {nL : Nat} {Ts : List Cond} {own : String} {D : va_G} {tys : List (ClassId × FieldType)} {A : Nat → Prop} {cells slots : Nat} {ρ : Type} {Q : ρ → State → Prop} {ws : va_W} {pc : Nat} {lv : List (Nat × Value)} {st : List Value} {K : Option ρ}
def sk (p : Program) (l : Launch) (e : Env) (R : Room) (s : State) (m : MethodId) (args : Array Value) (below : List Frame) (meth : Method) (c : Code) (D : va_G) (A : Nat → Prop) (nL cells slots : Nat) {ρ : Type} (Q : ρ → State → Prop) (ws : va_W) (pc : Nat) (lv : List (Nat × Value)) (st : List Value) (K : Option ρ) : Prop :=
  ∀ res, K = some res → ∀ (H : Heap) (locs : List Loc) (ls : Array Slot), va_P D vwCl ws H → va_D A ws → va_S A s.heap H locs → lv_has ls nL lv → W p l e R s m args below meth c H locs cells slots (Q res) (F0 m pc ls st)
theorem sk_none : sk p l e R s m args below meth c D A nL cells slots Q ws pc lv st (none : Option ρ) := fun _ h => by cases h
theorem sk_lv {lv' : List (Nat × Value)} (ks : List Nat) (h : lv_pick lv ks = lv') (kk : sk p l e R s m args below meth c D A nL cells slots Q ws pc lv' st K) : sk p l e R s m args below meth c D A nL cells slots Q ws pc lv st K := fun res hK H locs ls hP hD hS hl => kk res hK H locs ls hP hD hS (lv_sub hl ks h)
theorem sk_gd {c0 : Prop} [Decidable c0] (kk : c0 → sk p l e R s m args below meth c D A nL cells slots Q ws pc lv st K) : sk p l e R s m args below meth c D A nL cells slots Q ws pc lv st (gd c0 K) := fun res hK => kk (gd_some hK).1 res (gd_some hK).2
theorem sk_eq {K' : Option ρ} (h : K = K') (kk : sk p l e R s m args below meth c D A nL cells slots Q ws pc lv st K') : sk p l e R s m args below meth c D A nL cells slots Q ws pc lv st K := h ▸ kk
theorem sk_iconst (F : CallFix p m c cc nL s args Ts own) {n : Int} {x : Int32} (hd : decode cc pc = .ok (.iconst n, 1)) (hv : Int32.ofInt n = x) (kk : sk p l e R s m args below meth c D A nL cells slots Q ws (pc + 1) lv (.int x :: st) K) : sk p l e R s m args below meth c D A nL cells slots Q ws pc lv (st) K := fun res hK H locs ls hP hD hS hl => lv_iconst F.1 F.2.1 hd hv (kk res hK H locs ls hP hD hS hl)
theorem sk_bipush (F : CallFix p m c cc nL s args Ts own) {n : Int} {x : Int32} (hd : decode cc pc = .ok (.bipush n, 2)) (hv : (Int8.ofInt n).toInt32 = x) (kk : sk p l e R s m args below meth c D A nL cells slots Q ws (pc + 2) lv (.int x :: st) K) : sk p l e R s m args below meth c D A nL cells slots Q ws pc lv (st) K := fun res hK H locs ls hP hD hS hl => lv_bipush F.1 F.2.1 hd hv (kk res hK H locs ls hP hD hS hl)
theorem sk_sipush (F : CallFix p m c cc nL s args Ts own) {n : Int} {x : Int32} (hd : decode cc pc = .ok (.sipush n, 3)) (hv : (Int16.ofInt n).toInt32 = x) (kk : sk p l e R s m args below meth c D A nL cells slots Q ws (pc + 3) lv (.int x :: st) K) : sk p l e R s m args below meth c D A nL cells slots Q ws pc lv (st) K := fun res hK H locs ls hP hD hS hl => lv_sipush F.1 F.2.1 hd hv (kk res hK H locs ls hP hD hS hl)
theorem sk_ldc (F : CallFix p m c cc nL s args Ts own) {index : Nat} {x : Int32} (hd : decode cc pc = .ok (.ldc index, 2)) (hc : (Jvm.Cond.constant own index x).before args s = true) (kk : sk p l e R s m args below meth c D A nL cells slots Q ws (pc + 2) lv (.int x :: st) K) : sk p l e R s m args below meth c D A nL cells slots Q ws pc lv (st) K := fun res hK H locs ls hP hD hS hl => lv_ldc F.1 F.2.1 F.2.2.2.1 hc hd (kk res hK H locs ls hP hD hS hl)
theorem sk_lconst (F : CallFix p m c cc nL s args Ts own) {n : Fin 2} {x : Int64} (hd : decode cc pc = .ok (.lconst n, 1)) (hv : Int64.ofNat (n : Nat) = x) (kk : sk p l e R s m args below meth c D A nL cells slots Q ws (pc + 1) lv (.long x :: st) K) : sk p l e R s m args below meth c D A nL cells slots Q ws pc lv (st) K := fun res hK H locs ls hP hD hS hl => lv_lconst F.1 F.2.1 hd hv (kk res hK H locs ls hP hD hS hl)
theorem sk_iload_n (F : CallFix p m c cc nL s args Ts own) {k : Fin 4} {i : Nat} {x : Int32} (hd : decode cc pc = .ok (.iload_n k, 1)) (hi : (k : Nat) = i) (j : Nat) (hj : lv[j]? = some (i, .int x)) (kk : sk p l e R s m args below meth c D A nL cells slots Q ws (pc + 1) lv (.int x :: st) K) : sk p l e R s m args below meth c D A nL cells slots Q ws pc lv st K := fun res hK H locs ls hP hD hS hl => lv_iload_n F.1 F.2.1 hd hi (lv_at hl j hj) (kk res hK H locs ls hP hD hS hl)
theorem sk_iload (F : CallFix p m c cc nL s args Ts own) {i : Nat} {x : Int32} (hd : decode cc pc = .ok (.iload i, 2)) (j : Nat) (hj : lv[j]? = some (i, .int x)) (kk : sk p l e R s m args below meth c D A nL cells slots Q ws (pc + 2) lv (.int x :: st) K) : sk p l e R s m args below meth c D A nL cells slots Q ws pc lv st K := fun res hK H locs ls hP hD hS hl => lv_iload F.1 F.2.1 hd (lv_at hl j hj) (kk res hK H locs ls hP hD hS hl)
theorem sk_aload_n (F : CallFix p m c cc nL s args Ts own) {k : Fin 4} {i : Nat} {x : Nat} (hd : decode cc pc = .ok (.aload_n k, 1)) (hi : (k : Nat) = i) (j : Nat) (hj : lv[j]? = some (i, .ref x)) (kk : sk p l e R s m args below meth c D A nL cells slots Q ws (pc + 1) lv (.ref x :: st) K) : sk p l e R s m args below meth c D A nL cells slots Q ws pc lv st K := fun res hK H locs ls hP hD hS hl => lv_aload_n F.1 F.2.1 hd hi (lv_at hl j hj) (kk res hK H locs ls hP hD hS hl)
theorem sk_aload (F : CallFix p m c cc nL s args Ts own) {i : Nat} {x : Nat} (hd : decode cc pc = .ok (.aload i, 2)) (j : Nat) (hj : lv[j]? = some (i, .ref x)) (kk : sk p l e R s m args below meth c D A nL cells slots Q ws (pc + 2) lv (.ref x :: st) K) : sk p l e R s m args below meth c D A nL cells slots Q ws pc lv st K := fun res hK H locs ls hP hD hS hl => lv_aload F.1 F.2.1 hd (lv_at hl j hj) (kk res hK H locs ls hP hD hS hl)
theorem sk_istore_n (F : CallFix p m c cc nL s args Ts own) {k : Fin 4} {i : Nat} {x : Int32} {lv' : List (Nat × Value)} (hd : decode cc pc = .ok (.istore_n k, 1)) (hi : (k : Nat) = i) (hn : i < nL) (hv : (i, Value.int x) :: lv.filter (fun q => !(q.1 == i) && !(q.1 + 1 == i && q.2.category == 2)) = lv') (kk : sk p l e R s m args below meth c D A nL cells slots Q ws (pc + 1) lv' st K) : sk p l e R s m args below meth c D A nL cells slots Q ws pc lv (.int x :: st) K := fun res hK H locs ls hP hD hS hl => lv_istore_n F.1 F.2.1 hd hi hl hn hv (fun ls hl => kk res hK H locs ls hP hD hS hl)
theorem sk_istore (F : CallFix p m c cc nL s args Ts own) {i : Nat} {x : Int32} {lv' : List (Nat × Value)} (hd : decode cc pc = .ok (.istore i, 2)) (hn : i < nL) (hv : (i, Value.int x) :: lv.filter (fun q => !(q.1 == i) && !(q.1 + 1 == i && q.2.category == 2)) = lv') (kk : sk p l e R s m args below meth c D A nL cells slots Q ws (pc + 2) lv' st K) : sk p l e R s m args below meth c D A nL cells slots Q ws pc lv (.int x :: st) K := fun res hK H locs ls hP hD hS hl => lv_istore F.1 F.2.1 hd hl hn hv (fun ls hl => kk res hK H locs ls hP hD hS hl)
theorem sk_astore_n (F : CallFix p m c cc nL s args Ts own) {k : Fin 4} {i : Nat} {x : Nat} {lv' : List (Nat × Value)} (hd : decode cc pc = .ok (.astore_n k, 1)) (hi : (k : Nat) = i) (hn : i < nL) (hv : (i, Value.ref x) :: lv.filter (fun q => !(q.1 == i) && !(q.1 + 1 == i && q.2.category == 2)) = lv') (kk : sk p l e R s m args below meth c D A nL cells slots Q ws (pc + 1) lv' st K) : sk p l e R s m args below meth c D A nL cells slots Q ws pc lv (.ref x :: st) K := fun res hK H locs ls hP hD hS hl => lv_astore_n F.1 F.2.1 hd hi hl hn hv (fun ls hl => kk res hK H locs ls hP hD hS hl)
theorem sk_astore (F : CallFix p m c cc nL s args Ts own) {i : Nat} {x : Nat} {lv' : List (Nat × Value)} (hd : decode cc pc = .ok (.astore i, 2)) (hn : i < nL) (hv : (i, Value.ref x) :: lv.filter (fun q => !(q.1 == i) && !(q.1 + 1 == i && q.2.category == 2)) = lv') (kk : sk p l e R s m args below meth c D A nL cells slots Q ws (pc + 2) lv' st K) : sk p l e R s m args below meth c D A nL cells slots Q ws pc lv (.ref x :: st) K := fun res hK H locs ls hP hD hS hl => lv_astore F.1 F.2.1 hd hl hn hv (fun ls hl => kk res hK H locs ls hP hD hS hl)
theorem sk_iinc (F : CallFix p m c cc nL s args Ts own) {i : Nat} {n : Int} {x y : Int32} {lv' : List (Nat × Value)} (hd : decode cc pc = .ok (.iinc i n, 3)) (k : Nat) (hk : lv[k]? = some (i, .int x)) (hy : x + Int32.ofInt n = y) (hn : i < nL) (hv : (i, Value.int y) :: lv.filter (fun q => !(q.1 == i) && !(q.1 + 1 == i && q.2.category == 2)) = lv') (kk : sk p l e R s m args below meth c D A nL cells slots Q ws (pc + 3) lv' st K) : sk p l e R s m args below meth c D A nL cells slots Q ws pc lv st K := fun res hK H locs ls hP hD hS hl => lv_iinc F.1 F.2.1 hd hl hk hy hn hv (fun ls hl => kk res hK H locs ls hP hD hS hl)
theorem sk_iadd (F : CallFix p m c cc nL s args Ts own) {x y : Int32} (hd : decode cc pc = .ok (.iadd, 1))  (kk : sk p l e R s m args below meth c D A nL cells slots Q ws (pc + 1) lv (.int (x + y) :: st) K) : sk p l e R s m args below meth c D A nL cells slots Q ws pc lv (.int y :: .int x :: st) K := fun res hK H locs ls hP hD hS hl => lv_iadd F.1 F.2.1 hd (kk res hK H locs ls hP hD hS hl)
theorem sk_isub (F : CallFix p m c cc nL s args Ts own) {x y : Int32} (hd : decode cc pc = .ok (.isub, 1))  (kk : sk p l e R s m args below meth c D A nL cells slots Q ws (pc + 1) lv (.int (x - y) :: st) K) : sk p l e R s m args below meth c D A nL cells slots Q ws pc lv (.int y :: .int x :: st) K := fun res hK H locs ls hP hD hS hl => lv_isub F.1 F.2.1 hd (kk res hK H locs ls hP hD hS hl)
theorem sk_imul (F : CallFix p m c cc nL s args Ts own) {x y : Int32} (hd : decode cc pc = .ok (.imul, 1))  (kk : sk p l e R s m args below meth c D A nL cells slots Q ws (pc + 1) lv (.int (x * y) :: st) K) : sk p l e R s m args below meth c D A nL cells slots Q ws pc lv (.int y :: .int x :: st) K := fun res hK H locs ls hP hD hS hl => lv_imul F.1 F.2.1 hd (kk res hK H locs ls hP hD hS hl)
theorem sk_iand (F : CallFix p m c cc nL s args Ts own) {x y : Int32} (hd : decode cc pc = .ok (.iand, 1))  (kk : sk p l e R s m args below meth c D A nL cells slots Q ws (pc + 1) lv (.int (x &&& y) :: st) K) : sk p l e R s m args below meth c D A nL cells slots Q ws pc lv (.int y :: .int x :: st) K := fun res hK H locs ls hP hD hS hl => lv_iand F.1 F.2.1 hd (kk res hK H locs ls hP hD hS hl)
theorem sk_irem (F : CallFix p m c cc nL s args Ts own) {x y : Int32} (hd : decode cc pc = .ok (.irem, 1)) (hne : ¬ y = 0) (kk : sk p l e R s m args below meth c D A nL cells slots Q ws (pc + 1) lv (.int (x - x / y * y) :: st) K) : sk p l e R s m args below meth c D A nL cells slots Q ws pc lv (.int y :: .int x :: st) K := fun res hK H locs ls hP hD hS hl => lv_irem F.1 F.2.1 hd hne (kk res hK H locs ls hP hD hS hl)
theorem sk_idiv (F : CallFix p m c cc nL s args Ts own) {x y : Int32} (hd : decode cc pc = .ok (.idiv, 1)) (hne : ¬ y = 0) (kk : sk p l e R s m args below meth c D A nL cells slots Q ws (pc + 1) lv (.int (x / y) :: st) K) : sk p l e R s m args below meth c D A nL cells slots Q ws pc lv (.int y :: .int x :: st) K := fun res hK H locs ls hP hD hS hl => lv_idiv F.1 F.2.1 hd hne (kk res hK H locs ls hP hD hS hl)
theorem sk_ineg (F : CallFix p m c cc nL s args Ts own) {x : Int32} (hd : decode cc pc = .ok (.ineg, 1))  (kk : sk p l e R s m args below meth c D A nL cells slots Q ws (pc + 1) lv (.int (-x) :: st) K) : sk p l e R s m args below meth c D A nL cells slots Q ws pc lv (.int x :: st) K := fun res hK H locs ls hP hD hS hl => lv_ineg F.1 F.2.1 hd (kk res hK H locs ls hP hD hS hl)
theorem sk_i2l (F : CallFix p m c cc nL s args Ts own) {x : Int32} (hd : decode cc pc = .ok (.i2l, 1))  (kk : sk p l e R s m args below meth c D A nL cells slots Q ws (pc + 1) lv (.long x.toInt64 :: st) K) : sk p l e R s m args below meth c D A nL cells slots Q ws pc lv (.int x :: st) K := fun res hK H locs ls hP hD hS hl => lv_i2l F.1 F.2.1 hd rfl (kk res hK H locs ls hP hD hS hl)
theorem sk_lcmp (F : CallFix p m c cc nL s args Ts own) {x y : Int64} (hd : decode cc pc = .ok (.lcmp, 1))  (kk : sk p l e R s m args below meth c D A nL cells slots Q ws (pc + 1) lv (.int (lg_cmp x y) :: st) K) : sk p l e R s m args below meth c D A nL cells slots Q ws pc lv (.long y :: .long x :: st) K := fun res hK H locs ls hP hD hS hl => W.lcmp F.1 F.2.1 hd (kk res hK H locs ls hP hD hS hl)
theorem sk_dup (F : CallFix p m c cc nL s args Ts own) {a : Value} (hd : decode cc pc = .ok (.dup, 1)) (ha : a.category = 1) (kk : sk p l e R s m args below meth c D A nL cells slots Q ws (pc + 1) lv (a :: a :: st) K) : sk p l e R s m args below meth c D A nL cells slots Q ws pc lv (a :: st) K := fun res hK H locs ls hP hD hS hl => lv_dup F.1 F.2.1 hd ha (kk res hK H locs ls hP hD hS hl)
theorem sk_pop (F : CallFix p m c cc nL s args Ts own) {a : Value} (hd : decode cc pc = .ok (.pop, 1)) (ha : a.category = 1) (kk : sk p l e R s m args below meth c D A nL cells slots Q ws (pc + 1) lv (st) K) : sk p l e R s m args below meth c D A nL cells slots Q ws pc lv (a :: st) K := fun res hK H locs ls hP hD hS hl => lv_pop F.1 F.2.1 hd ha (kk res hK H locs ls hP hD hS hl)
theorem sk_dup_x1 (F : CallFix p m c cc nL s args Ts own) {a b : Value} (hd : decode cc pc = .ok (.dup_x1, 1)) (ha : a.category = 1) (hb : b.category = 1) (kk : sk p l e R s m args below meth c D A nL cells slots Q ws (pc + 1) lv (a :: b :: a :: st) K) : sk p l e R s m args below meth c D A nL cells slots Q ws pc lv (a :: b :: st) K := fun res hK H locs ls hP hD hS hl => lv_dup_x1 F.1 F.2.1 hd ha hb (kk res hK H locs ls hP hD hS hl)
theorem sk_dup_x2 (F : CallFix p m c cc nL s args Ts own) {a b d : Value} (hd : decode cc pc = .ok (.dup_x2, 1)) (ha : a.category = 1) (hb : b.category = 1) (hc : d.category = 1) (kk : sk p l e R s m args below meth c D A nL cells slots Q ws (pc + 1) lv (a :: b :: d :: a :: st) K) : sk p l e R s m args below meth c D A nL cells slots Q ws pc lv (a :: b :: d :: st) K := fun res hK H locs ls hP hD hS hl => lv_dup_x2 F.1 F.2.1 hd ha hb hc (kk res hK H locs ls hP hD hS hl)
theorem sk_dup2 (F : CallFix p m c cc nL s args Ts own) {a b : Value} (hd : decode cc pc = .ok (.dup2, 1)) (ha : a.category = 1) (hb : b.category = 1) (kk : sk p l e R s m args below meth c D A nL cells slots Q ws (pc + 1) lv (a :: b :: a :: b :: st) K) : sk p l e R s m args below meth c D A nL cells slots Q ws pc lv (a :: b :: st) K := fun res hK H locs ls hP hD hS hl => lv_dup2_11 F.1 F.2.1 hd ha hb (kk res hK H locs ls hP hD hS hl)
theorem sk_if_eq (F : CallFix p m c cc nL s args Ts own) {x : Int32} {off : Int} (tgt : Nat) {K1 K2 : Option ρ} (hd : decode cc pc = .ok (.ifCond .eq off, 3)) (ht : (pc : Int) + off = (tgt : Int)) (k1 : x = 0 → sk p l e R s m args below meth c D A nL cells slots Q ws tgt lv st K1) (k2 : ¬ x = 0 → sk p l e R s m args below meth c D A nL cells slots Q ws (pc + 3) lv st K2) : sk p l e R s m args below meth c D A nL cells slots Q ws pc lv (.int x :: st) (if x = 0 then K1 else K2) := fun res hK H locs ls hP hD hS hl => lv_if_eq F.1 F.2.1 hd ht (fun h => k1 h res (by rwa [if_pos h] at hK) H locs ls hP hD hS hl) (fun h => k2 h res (by rwa [if_neg h] at hK) H locs ls hP hD hS hl)
theorem sk_icmp_eq (F : CallFix p m c cc nL s args Ts own) {x y : Int32} {off : Int} (tgt : Nat) {K1 K2 : Option ρ} (hd : decode cc pc = .ok (.if_icmp .eq off, 3)) (ht : (pc : Int) + off = (tgt : Int)) (k1 : x = y → sk p l e R s m args below meth c D A nL cells slots Q ws tgt lv st K1) (k2 : ¬ x = y → sk p l e R s m args below meth c D A nL cells slots Q ws (pc + 3) lv st K2) : sk p l e R s m args below meth c D A nL cells slots Q ws pc lv (.int y :: .int x :: st) (if x = y then K1 else K2) := fun res hK H locs ls hP hD hS hl => lv_icmp_eq F.1 F.2.1 hd ht (fun h => k1 h res (by rwa [if_pos h] at hK) H locs ls hP hD hS hl) (fun h => k2 h res (by rwa [if_neg h] at hK) H locs ls hP hD hS hl)
theorem sk_if_lt (F : CallFix p m c cc nL s args Ts own) {x : Int32} {off : Int} (tgt : Nat) {K1 K2 : Option ρ} (hd : decode cc pc = .ok (.ifCond .lt off, 3)) (ht : (pc : Int) + off = (tgt : Int)) (k1 : x < 0 → sk p l e R s m args below meth c D A nL cells slots Q ws tgt lv st K1) (k2 : ¬ x < 0 → sk p l e R s m args below meth c D A nL cells slots Q ws (pc + 3) lv st K2) : sk p l e R s m args below meth c D A nL cells slots Q ws pc lv (.int x :: st) (if x < 0 then K1 else K2) := fun res hK H locs ls hP hD hS hl => lv_if_lt F.1 F.2.1 hd ht (fun h => k1 h res (by rwa [if_pos h] at hK) H locs ls hP hD hS hl) (fun h => k2 h res (by rwa [if_neg h] at hK) H locs ls hP hD hS hl)
theorem sk_icmp_lt (F : CallFix p m c cc nL s args Ts own) {x y : Int32} {off : Int} (tgt : Nat) {K1 K2 : Option ρ} (hd : decode cc pc = .ok (.if_icmp .lt off, 3)) (ht : (pc : Int) + off = (tgt : Int)) (k1 : x < y → sk p l e R s m args below meth c D A nL cells slots Q ws tgt lv st K1) (k2 : ¬ x < y → sk p l e R s m args below meth c D A nL cells slots Q ws (pc + 3) lv st K2) : sk p l e R s m args below meth c D A nL cells slots Q ws pc lv (.int y :: .int x :: st) (if x < y then K1 else K2) := fun res hK H locs ls hP hD hS hl => lv_icmp_lt F.1 F.2.1 hd ht (fun h => k1 h res (by rwa [if_pos h] at hK) H locs ls hP hD hS hl) (fun h => k2 h res (by rwa [if_neg h] at hK) H locs ls hP hD hS hl)
theorem sk_if_ge (F : CallFix p m c cc nL s args Ts own) {x : Int32} {off : Int} (tgt : Nat) {K1 K2 : Option ρ} (hd : decode cc pc = .ok (.ifCond .ge off, 3)) (ht : (pc : Int) + off = (tgt : Int)) (k1 : 0 ≤ x → sk p l e R s m args below meth c D A nL cells slots Q ws tgt lv st K1) (k2 : ¬ 0 ≤ x → sk p l e R s m args below meth c D A nL cells slots Q ws (pc + 3) lv st K2) : sk p l e R s m args below meth c D A nL cells slots Q ws pc lv (.int x :: st) (if 0 ≤ x then K1 else K2) := fun res hK H locs ls hP hD hS hl => lv_if_ge F.1 F.2.1 hd ht (fun h => k1 h res (by rwa [if_pos h] at hK) H locs ls hP hD hS hl) (fun h => k2 h res (by rwa [if_neg h] at hK) H locs ls hP hD hS hl)
theorem sk_icmp_ge (F : CallFix p m c cc nL s args Ts own) {x y : Int32} {off : Int} (tgt : Nat) {K1 K2 : Option ρ} (hd : decode cc pc = .ok (.if_icmp .ge off, 3)) (ht : (pc : Int) + off = (tgt : Int)) (k1 : y ≤ x → sk p l e R s m args below meth c D A nL cells slots Q ws tgt lv st K1) (k2 : ¬ y ≤ x → sk p l e R s m args below meth c D A nL cells slots Q ws (pc + 3) lv st K2) : sk p l e R s m args below meth c D A nL cells slots Q ws pc lv (.int y :: .int x :: st) (if y ≤ x then K1 else K2) := fun res hK H locs ls hP hD hS hl => lv_icmp_ge F.1 F.2.1 hd ht (fun h => k1 h res (by rwa [if_pos h] at hK) H locs ls hP hD hS hl) (fun h => k2 h res (by rwa [if_neg h] at hK) H locs ls hP hD hS hl)
theorem sk_if_gt (F : CallFix p m c cc nL s args Ts own) {x : Int32} {off : Int} (tgt : Nat) {K1 K2 : Option ρ} (hd : decode cc pc = .ok (.ifCond .gt off, 3)) (ht : (pc : Int) + off = (tgt : Int)) (k1 : 0 < x → sk p l e R s m args below meth c D A nL cells slots Q ws tgt lv st K1) (k2 : ¬ 0 < x → sk p l e R s m args below meth c D A nL cells slots Q ws (pc + 3) lv st K2) : sk p l e R s m args below meth c D A nL cells slots Q ws pc lv (.int x :: st) (if 0 < x then K1 else K2) := fun res hK H locs ls hP hD hS hl => lv_if_gt F.1 F.2.1 hd ht (fun h => k1 h res (by rwa [if_pos h] at hK) H locs ls hP hD hS hl) (fun h => k2 h res (by rwa [if_neg h] at hK) H locs ls hP hD hS hl)
theorem sk_icmp_gt (F : CallFix p m c cc nL s args Ts own) {x y : Int32} {off : Int} (tgt : Nat) {K1 K2 : Option ρ} (hd : decode cc pc = .ok (.if_icmp .gt off, 3)) (ht : (pc : Int) + off = (tgt : Int)) (k1 : y < x → sk p l e R s m args below meth c D A nL cells slots Q ws tgt lv st K1) (k2 : ¬ y < x → sk p l e R s m args below meth c D A nL cells slots Q ws (pc + 3) lv st K2) : sk p l e R s m args below meth c D A nL cells slots Q ws pc lv (.int y :: .int x :: st) (if y < x then K1 else K2) := fun res hK H locs ls hP hD hS hl => lv_icmp_gt F.1 F.2.1 hd ht (fun h => k1 h res (by rwa [if_pos h] at hK) H locs ls hP hD hS hl) (fun h => k2 h res (by rwa [if_neg h] at hK) H locs ls hP hD hS hl)
theorem sk_if_le (F : CallFix p m c cc nL s args Ts own) {x : Int32} {off : Int} (tgt : Nat) {K1 K2 : Option ρ} (hd : decode cc pc = .ok (.ifCond .le off, 3)) (ht : (pc : Int) + off = (tgt : Int)) (k1 : x ≤ 0 → sk p l e R s m args below meth c D A nL cells slots Q ws tgt lv st K1) (k2 : ¬ x ≤ 0 → sk p l e R s m args below meth c D A nL cells slots Q ws (pc + 3) lv st K2) : sk p l e R s m args below meth c D A nL cells slots Q ws pc lv (.int x :: st) (if x ≤ 0 then K1 else K2) := fun res hK H locs ls hP hD hS hl => lv_if_le F.1 F.2.1 hd ht (fun h => k1 h res (by rwa [if_pos h] at hK) H locs ls hP hD hS hl) (fun h => k2 h res (by rwa [if_neg h] at hK) H locs ls hP hD hS hl)
theorem sk_icmp_le (F : CallFix p m c cc nL s args Ts own) {x y : Int32} {off : Int} (tgt : Nat) {K1 K2 : Option ρ} (hd : decode cc pc = .ok (.if_icmp .le off, 3)) (ht : (pc : Int) + off = (tgt : Int)) (k1 : x ≤ y → sk p l e R s m args below meth c D A nL cells slots Q ws tgt lv st K1) (k2 : ¬ x ≤ y → sk p l e R s m args below meth c D A nL cells slots Q ws (pc + 3) lv st K2) : sk p l e R s m args below meth c D A nL cells slots Q ws pc lv (.int y :: .int x :: st) (if x ≤ y then K1 else K2) := fun res hK H locs ls hP hD hS hl => lv_icmp_le F.1 F.2.1 hd ht (fun h => k1 h res (by rwa [if_pos h] at hK) H locs ls hP hD hS hl) (fun h => k2 h res (by rwa [if_neg h] at hK) H locs ls hP hD hS hl)
theorem sk_if_ne (F : CallFix p m c cc nL s args Ts own) {x : Int32} {off : Int} (tgt : Nat) {K1 K2 : Option ρ} (hd : decode cc pc = .ok (.ifCond .ne off, 3)) (ht : (pc : Int) + off = (tgt : Int)) (k1 : ¬ x = 0 → sk p l e R s m args below meth c D A nL cells slots Q ws tgt lv st K1) (k2 : x = 0 → sk p l e R s m args below meth c D A nL cells slots Q ws (pc + 3) lv st K2) : sk p l e R s m args below meth c D A nL cells slots Q ws pc lv (.int x :: st) (if x = 0 then K2 else K1) := fun res hK H locs ls hP hD hS hl => lv_if_ne F.1 F.2.1 hd ht (fun h => k1 h res (by rwa [if_neg h] at hK) H locs ls hP hD hS hl) (fun h => k2 h res (by rwa [if_pos h] at hK) H locs ls hP hD hS hl)
theorem sk_icmp_ne (F : CallFix p m c cc nL s args Ts own) {x y : Int32} {off : Int} (tgt : Nat) {K1 K2 : Option ρ} (hd : decode cc pc = .ok (.if_icmp .ne off, 3)) (ht : (pc : Int) + off = (tgt : Int)) (k1 : ¬ x = y → sk p l e R s m args below meth c D A nL cells slots Q ws tgt lv st K1) (k2 : x = y → sk p l e R s m args below meth c D A nL cells slots Q ws (pc + 3) lv st K2) : sk p l e R s m args below meth c D A nL cells slots Q ws pc lv (.int y :: .int x :: st) (if x = y then K2 else K1) := fun res hK H locs ls hP hD hS hl => lv_icmp_ne F.1 F.2.1 hd ht (fun h => k1 h res (by rwa [if_neg h] at hK) H locs ls hP hD hS hl) (fun h => k2 h res (by rwa [if_pos h] at hK) H locs ls hP hD hS hl)
theorem sk_goto (F : CallFix p m c cc nL s args Ts own) {off : Int} (tgt : Nat) (hd : decode cc pc = .ok (.goto off, 3)) (ht : (pc : Int) + off = (tgt : Int)) (kk : sk p l e R s m args below meth c D A nL cells slots Q ws tgt lv st K) : sk p l e R s m args below meth c D A nL cells slots Q ws pc lv st K := fun res hK H locs ls hP hD hS hl => lv_goto F.1 F.2.1 hd ht (kk res hK H locs ls hP hD hS hl)
theorem sk_mmax (F : CallFix p m c cc nL s args Ts own) {index : Nat} (hlink : (Cond.methodLink own index Lib.Math.max.name) ∈ Ts) (hstat : (Cond.static Lib.Math.max.name) ∈ Ts) (hini : (Cond.initialized "java/lang/Math") ∈ Ts) (hcode : (Cond.code Lib.Math.max.name Lib.Math.max.code 2 (some .int)) ∈ Ts) (hfr : 1 ≤ R.frames) (hlo : (st.map fun v => v.category).sum + 13 ≤ R.locals) (hc : cells ≤ R.cells) (hs : slots ≤ R.slots) {x y : Int32} (hd : decode cc pc = .ok (.invokestatic index, 3)) (kk : sk p l e R s m args below meth c D A nL cells slots Q ws (pc + 3) lv (.int (if x < y then y else x) :: st) K) : sk p l e R s m args below meth c D A nL cells slots Q ws pc lv (.int y :: .int x :: st) K := fun res hK H locs ls hP hD hS hl => va_mmax F.1 F.2.1 (F.2.2.1.trans hl.1.symm) F.2.2.2.1 (F.2.2.2.2 _ hlink) (F.2.2.2.2 _ hstat) (F.2.2.2.2 _ hini) (F.2.2.2.2 _ hcode) hfr hlo hc hs hd (kk res hK H locs ls hP hD hS hl)
theorem sk_mmin (F : CallFix p m c cc nL s args Ts own) {index : Nat} (hlink : (Cond.methodLink own index Lib.Math.min.name) ∈ Ts) (hstat : (Cond.static Lib.Math.min.name) ∈ Ts) (hini : (Cond.initialized "java/lang/Math") ∈ Ts) (hcode : (Cond.code Lib.Math.min.name Lib.Math.min.code 2 (some .int)) ∈ Ts) (hfr : 1 ≤ R.frames) (hlo : (st.map fun v => v.category).sum + 13 ≤ R.locals) (hc : cells ≤ R.cells) (hs : slots ≤ R.slots) {x y : Int32} (hd : decode cc pc = .ok (.invokestatic index, 3)) (kk : sk p l e R s m args below meth c D A nL cells slots Q ws (pc + 3) lv (.int (if y < x then y else x) :: st) K) : sk p l e R s m args below meth c D A nL cells slots Q ws pc lv (.int y :: .int x :: st) K := fun res hK H locs ls hP hD hS hl => va_mmin F.1 F.2.1 (F.2.2.1.trans hl.1.symm) F.2.2.2.1 (F.2.2.2.2 _ hlink) (F.2.2.2.2 _ hstat) (F.2.2.2.2 _ hini) (F.2.2.2.2 _ hcode) hfr hlo hc hs hd (kk res hK H locs ls hP hD hS hl)
end SKA
theorem bo_n {x : Int32} (h : bo x) : narrow .boolean (.int x) = .int x := by rcases h with rfl | rfl <;> rfl
theorem bo_f {x : Int32} (h : bo x) : fits .boolean (.int x) = true := by rcases h with rfl | rfl <;> rfl
section SKM
variable {p : Program} {l : Launch} {e : Env} {R : Room} {s : State} {m : MethodId} {args : Array Value} {below : List Frame} {meth : Method} {c : Code} {cc : ByteArray} {nL : Nat} {Ts : List Cond} {own : String} {D : va_G} {tys : List (ClassId × FieldType)} {A : Nat → Prop} {cells slots : Nat} {ρ : Type} {Q : ρ → State → Prop} {pc : Nat} {lv : List (Nat × Value)} {st : List Value} {K : Option ρ}
variable {L : List Nat} {ad : Nat → Nat} {sh : Nat → (Nat → Int32) → va_E} {v : Mem} {X : va_W}
theorem sk_get (F : CallFix p m c cc nL s args Ts own) (hK : va_K D vwCl tys s) {ref C : String} {T : u_T} {N ci index o : Nat} {fs : List Value} {x : Value} (ho : o ∈ L) (hsh : sh o (v o) = .inr (ci, fs)) (hc : vwCl[ci]? = some (C, T, N)) (hin : ∀ w ∈ u_ws C T N, w ∈ Ts) (k : Nat) (hk : k < N) (hlink : Cond.fieldLink own index ref (T k).2.1 (T k).2.2.1 ∈ Ts) (hsame : ∀ x, s.fieldFound? (T k).1 (T k).2.1 (T k).2.2.1 = some x → s.fieldFound? ref (T k).2.1 (T k).2.2.1 = some x) (hv : fs[k]? = some x) (hd : decode cc pc = .ok (.getfield index, 3)) (kk : sk p l e R s m args below meth c D A nL cells slots Q (ow L ad sh v ++ X) (pc + 3) lv (x :: st) K) : sk p l e R s m args below meth c D A nL cells slots Q (ow L ad sh v ++ X) pc lv (.ref (ad o) :: st) K := by
  intro res hKK H locs ls hP hD hS hl
  obtain ⟨q0, h1, h2⟩ := ow_get (ad := ad) (sh := sh) (v := v) (X := X) ho
  rw [hsh] at h2
  exact va_get (D := D) (ci := ci) (v := x) (C := C) (T := T) (N := N) F.1 F.2.1 F.2.2.2.2 hin F.2.2.2.1 hK hP q0 h2 hc k hk (F.2.2.2.2 _ hlink) hsame hv hd (kk res hKK H locs ls hP hD hS hl)
theorem sk_put (F : CallFix p m c cc nL s args Ts own) (hK : va_K D vwCl tys s) (nd : L.Nodup) {ref C : String} {T : u_T} {N ci index o : Nat} {fs : (Nat → Int32) → List Value} {x : Int32} {ty : FieldType} (ho : o ∈ L) (hsh : ∀ r, sh o r = .inr (ci, fs r)) (hc : vwCl[ci]? = some (C, T, N)) (hin : ∀ w ∈ u_ws C T N, w ∈ Ts) (ty0 : Nat → FieldType) (hty : ∀ k, k < N → parseFieldDescriptor (T k).2.2.1 = some (ty0 k)) (hnm : ∀ a, a < N → ∀ b, b < N → a ≠ b → (T a).2.1 ≠ (T b).2.1) (k : Nat) (hk : k < N) (hlink : Cond.fieldLink own index ref (T k).2.1 (T k).2.2.1 ∈ Ts) (hsame : ∀ x, s.fieldFound? (T k).1 (T k).2.1 (T k).2.2.1 = some x → s.fieldFound? ref (T k).2.1 (T k).2.2.1 = some x) (hfin : (T k).2.2.2 = false) (hpd : parseFieldDescriptor (T k).2.2.1 = some ty) (hn : narrow ty (.int x) = .int x) (hfit : fits ty (.int x) = true) (hl0 : k < (fs (v o)).length) (hset : (fs (v o)).set k (.int x) = fs (upd (v o) k x)) (hd : decode cc pc = .ok (.putfield index, 3)) (kk : sk p l e R s m args below meth c D A nL cells slots Q (ow L ad sh (up2 v o k x) ++ X) (pc + 3) lv st K) : sk p l e R s m args below meth c D A nL cells slots Q (ow L ad sh v ++ X) pc lv (.int x :: .ref (ad o) :: st) K := by
  intro res hKK H locs ls hP hD hS hl
  obtain ⟨q0, h1, h2⟩ := ow_get (ad := ad) (sh := sh) (v := v) (X := X) ho
  rw [hsh] at h2
  refine va_put (D := D) (ci := ci) (v := .int x) (ty := ty) (C := C) (T := T) (N := N) F.1 F.2.1 F.2.2.2.2 hin ty0 hty hnm F.2.2.2.1 hK hP hD hS q0 h2 hc k hk (F.2.2.2.2 _ hlink) hsame hfin hpd hn hfit hl0 hd (fun H1 locs1 hP1 hD1 hS1 => ?_)
  have e := ow_set nd (ad := ad) (sh := sh) (v := v) (X := X) (j := k) (x := x) h1
  rw [hsh, ← hset] at e
  rw [e] at hP1 hD1
  exact kk res hKK H1 locs1 ls hP1 hD1 hS1 hl
theorem sk_iald (F : CallFix p m c cc nL s args Ts own) (hK : va_K D vwCl tys s) {o n : Nat} {cA : ClassId} {i : Int32} (ho : o ∈ L) (hsh : sh o (v o) = .inl (cA, n, .inl (v o))) (t0 : Nat) (ht : tys[t0]? = some (cA, .int)) (hd : decode cc pc = .ok (.iaload, 1)) (kk : inb i n → sk p l e R s m args below meth c D A nL cells slots Q (ow L ad sh v ++ X) (pc + 1) lv (.int (v o i.toNatClampNeg) :: st) K) : sk p l e R s m args below meth c D A nL cells slots Q (ow L ad sh v ++ X) pc lv (.int i :: .ref (ad o) :: st) (gd (inb i n) K) := by
  intro res hKK H locs ls hP hD hS hl
  obtain ⟨hin, hKK⟩ := gd_some hKK
  obtain ⟨q0, h1, h2⟩ := ow_get (ad := ad) (sh := sh) (v := v) (X := X) ho
  rw [hsh] at h2
  exact va_iald F.1 F.2.1 hK hP q0 t0 h2 ht hin hd (kk hin res hKK H locs ls hP hD hS hl)
theorem sk_zald (F : CallFix p m c cc nL s args Ts own) (hK : va_K D vwCl tys s) {o n : Nat} {cA : ClassId} {i : Int32} (ho : o ∈ L) (hsh : sh o (v o) = .inl (cA, n, .inl (v o))) (t0 : Nat) (ht : tys[t0]? = some (cA, .boolean)) (hd : decode cc pc = .ok (.baload, 1)) (kk : inb i n → sk p l e R s m args below meth c D A nL cells slots Q (ow L ad sh v ++ X) (pc + 1) lv (.int (v o i.toNatClampNeg) :: st) K) : sk p l e R s m args below meth c D A nL cells slots Q (ow L ad sh v ++ X) pc lv (.int i :: .ref (ad o) :: st) (gd (inb i n) K) := by
  intro res hKK H locs ls hP hD hS hl
  obtain ⟨hin, hKK⟩ := gd_some hKK
  obtain ⟨q0, h1, h2⟩ := ow_get (ad := ad) (sh := sh) (v := v) (X := X) ho
  rw [hsh] at h2
  exact va_zald F.1 F.2.1 hK hP q0 t0 h2 ht hin hd (kk hin res hKK H locs ls hP hD hS hl)
theorem sk_iast (F : CallFix p m c cc nL s args Ts own) (hK : va_K D vwCl tys s) (nd : L.Nodup) {o n : Nat} {cA : ClassId} {i x : Int32} (ho : o ∈ L) (hsh : ∀ r, sh o r = .inl (cA, n, .inl r)) (t0 : Nat) (ht : tys[t0]? = some (cA, .int)) (hd : decode cc pc = .ok (.iastore, 1)) (kk : inb i n → sk p l e R s m args below meth c D A nL cells slots Q (ow L ad sh (up2 v o i.toNatClampNeg x) ++ X) (pc + 1) lv st K) : sk p l e R s m args below meth c D A nL cells slots Q (ow L ad sh v ++ X) pc lv (.int x :: .int i :: .ref (ad o) :: st) (gd (inb i n) K) := by
  intro res hKK H locs ls hP hD hS hl
  obtain ⟨hin, hKK⟩ := gd_some hKK
  obtain ⟨q0, h1, h2⟩ := ow_get (ad := ad) (sh := sh) (v := v) (X := X) ho
  rw [hsh] at h2
  refine va_iast F.1 F.2.1 hK hP hD hS q0 t0 h2 ht hin hd (fun H1 locs1 hP1 hD1 hS1 => ?_)
  have e := ow_set nd (ad := ad) (sh := sh) (v := v) (X := X) (j := i.toNatClampNeg) (x := x) h1
  rw [hsh] at e
  rw [e] at hP1 hD1
  exact kk hin res hKK H1 locs1 ls hP1 hD1 hS1 hl
theorem sk_zast (F : CallFix p m c cc nL s args Ts own) (hK : va_K D vwCl tys s) (nd : L.Nodup) {o n : Nat} {cA : ClassId} {i x : Int32} (ho : o ∈ L) (hsh : ∀ r, sh o r = .inl (cA, n, .inl r)) (t0 : Nat) (ht : tys[t0]? = some (cA, .boolean)) (hd : decode cc pc = .ok (.bastore, 1)) (kk : inb i n → sk p l e R s m args below meth c D A nL cells slots Q (ow L ad sh (up2 v o i.toNatClampNeg (vp_nar .boolean x)) ++ X) (pc + 1) lv st K) : sk p l e R s m args below meth c D A nL cells slots Q (ow L ad sh v ++ X) pc lv (.int x :: .int i :: .ref (ad o) :: st) (gd (inb i n) K) := by
  intro res hKK H locs ls hP hD hS hl
  obtain ⟨hin, hKK⟩ := gd_some hKK
  obtain ⟨q0, h1, h2⟩ := ow_get (ad := ad) (sh := sh) (v := v) (X := X) ho
  rw [hsh] at h2
  refine va_zast F.1 F.2.1 hK hP hD hS q0 t0 h2 ht hin hd (fun H1 locs1 hP1 hD1 hS1 => ?_)
  have e := ow_set nd (ad := ad) (sh := sh) (v := v) (X := X) (j := i.toNatClampNeg) (x := (vp_nar .boolean x)) h1
  rw [hsh] at e
  rw [e] at hP1 hD1
  exact kk hin res hKK H1 locs1 ls hP1 hD1 hS1 hl
theorem sk_aald (F : CallFix p m c cc nL s args Ts own) (hK : va_K D vwCl tys s) {o n : Nat} {cA : ClassId} {C : String} {g : Nat → Nat} {i : Int32} (ho : o ∈ L) (hsh : sh o (v o) = .inl (cA, n, .inr (.inr (.inr (.inr (fun j => some (ad (g j)))))))) (t0 : Nat) (ht : tys[t0]? = some (cA, .object C)) (hd : decode cc pc = .ok (.aaload, 1)) (kk : inb i n → sk p l e R s m args below meth c D A nL cells slots Q (ow L ad sh v ++ X) (pc + 1) lv (.ref (ad (g i.toNatClampNeg)) :: st) K) : sk p l e R s m args below meth c D A nL cells slots Q (ow L ad sh v ++ X) pc lv (.int i :: .ref (ad o) :: st) (gd (inb i n) K) := by
  intro res hKK H locs ls hP hD hS hl
  obtain ⟨hin, hKK⟩ := gd_some hKK
  obtain ⟨q0, h1, h2⟩ := ow_get (ad := ad) (sh := sh) (v := v) (X := X) ho
  rw [hsh] at h2
  exact va_aldq F.1 F.2.1 hK hP q0 t0 h2 ht hin hd (kk hin res hKK H locs ls hP hD hS hl)
theorem sk_alen (F : CallFix p m c cc nL s args Ts own) (hK : va_K D vwCl tys s) {o : Nat} {cA : ClassId} {z : vp_A} {x : Int32} {ty : FieldType} (ho : o ∈ L) (hsh : sh o (v o) = .inl (cA, z)) (t0 : Nat) (ht : tys[t0]? = some (cA, ty)) (hx : nI z.1 = x) (hd : decode cc pc = .ok (.arraylength, 1)) (kk : sk p l e R s m args below meth c D A nL cells slots Q (ow L ad sh v ++ X) (pc + 1) lv (.int x :: st) K) : sk p l e R s m args below meth c D A nL cells slots Q (ow L ad sh v ++ X) pc lv (.ref (ad o) :: st) K := by
  intro res hKK H locs ls hP hD hS hl
  obtain ⟨q0, h1, h2⟩ := ow_get (ad := ad) (sh := sh) (v := v) (X := X) ho
  rw [hsh] at h2
  exact va_alen F.1 F.2.1 hK hP q0 t0 h2 ht hx hd (kk res hKK H locs ls hP hD hS hl)
/-- the receiver of a call -/
theorem ow_recv {H : Heap} {o ci : Nat} {q : vw_C} {fs : List Value} (hK : va_K D vwCl tys s) (hP : va_P D vwCl (ow L ad sh v ++ X) H) (hc : vwCl[ci]? = some q) (ho : o ∈ L) (hsh : sh o (v o) = .inr (ci, fs)) : ∃ cell : Cell, H[ad o]? = some cell ∧ cell.vm.isStatics = false ∧ s.vm.findClass q.1 = some cell.cls := by
  obtain ⟨q0, h1, h2⟩ := ow_get (ad := ad) (sh := sh) (v := v) (X := X) ho
  rw [hsh] at h2
  exact va_recv hK hP hc h2
end SKM
section SKC
variable {p : Program} {l : Launch} {e : Env} {R : Room} {s : State} {m : MethodId} {args : Array Value} {below : List Frame} {meth : Method} {c : Code} {cc : ByteArray} {nL : Nat} {Ts : List Cond} {own : String} {D : va_G} {tys : List (ClassId × FieldType)} {A : Nat → Prop} {cells slots : Nat} {ρ : Type} {Q : ρ → State → Prop} {pc : Nat} {lv : List (Nat × Value)} {rest : List Value}
variable {σ : Type} {Ws : σ → va_W} {v : σ} {y x : MethodName} {bytes : ByteArray} {maxL n index : Nat} {ret : Option FieldType} {wy : List Cond} {rm : Room} {As : List Value} {b : Nat} {C owner : String} {ad : Nat → Nat}
theorem pq_now {as : List Value} {ws : va_W} {H : Heap} {locs : List Loc} (hK : va_K D vwCl tys s) (hA : ∀ q, s.heap.size ≤ q → A q) (hZ : zz A s s.heap) (hP : va_P D vwCl ws H) (hD : va_D A ws) (hS : va_S A s.heap H locs) : ∀ U : State, U.heap = H → s.WarmedH U.vm → pq D A tys as ws as.toArray U := by
  intro U hU hW
  refine ⟨rfl, by rw [hU]; exact hP, va_K.moved hW.alike hK, hD, fun q h => hA q (Nat.le_trans hS.1 (by rw [← hU]; exact h)), ?_, ?_⟩
  · rw [hU]; exact vx_Zq.kept (vx_Zq.moved hW.alike hZ.1) (fun a h1 h2 => hS.2.1 a h1 h2)
  · rw [hU]; exact vx_Zq.kept (vx_Zq.moved hW.alike hZ.2) (fun a h1 h2 => hS.2.1 a h1 h2)
theorem sk_callVi (F : CallFix p m c cc nL s args Ts own) (hK : va_K D vwCl tys s) (hA : ∀ q, s.heap.size ≤ q → A q) (hZ : zz A s s.heap) {Kc : Option (Int32 × σ)} (K : Int32 → σ → Option ρ) (hM : CI l y wy rm D A tys Ws (.ref b :: As) v Kc) (cw : CallW R s args own C index y bytes maxL ret wy rm 0 0 n) (hrec : ∀ H : Heap, va_P D vwCl (Ws v) H → ∃ cell : Cell, H[b]? = some cell ∧ cell.vm.isStatics = false ∧ s.vm.findClass C = some cell.cls) {st0 : List Value} (hst : st0 = (As.reverse ++ .ref b :: rest)) (hn : As.length = n) (hr8 : (rest.map fun v => v.category).sum ≤ 8) (hf : cells + 0 ≤ R.cells ∧ slots + 0 ≤ R.slots) (hd : decode cc pc = .ok (.invokevirtual index, 3)) (kk : ∀ r v1, Kc = some (r, v1) → sk p l e R s m args below meth c D A nL cells slots Q (Ws v1) (pc + 3) lv (.int r :: rest) (K r v1)) : sk p l e R s m args below meth c D A nL cells slots Q (Ws v) pc lv st0 (bd Kc K) := by
  subst hst
  intro res hKK H locs ls hP hD hS hl
  obtain ⟨⟨r0, v0⟩, hc, hk⟩ := Option.bind_eq_some_iff.mp hKK
  refine va_calli (va_runV (As := As) (rest := rest) F (hM (r0, v0) hc) cw ⟨pq_blind, hrec H hP, pq_now hK hA hZ hP hD hS⟩ rfl hn hl.1 rfl (lv_room hr8) hd hf) hS (fun q _ h => h) (fun q h => h) (fun r u t H1 locs1 ht hvm hw hB hz1 hk1 hS1 => ?_)
  cases hw
  obtain ⟨hP1, -, hD1⟩ := hB
  rw [ht] at hP1
  exact kk r0 v0 hc res hk H1 locs1 ls hP1 hD1 hS1 hl
theorem sk_callUi (F : CallFix p m c cc nL s args Ts own) (hK : va_K D vwCl tys s) (hA : ∀ q, s.heap.size ≤ q → A q) (hZ : zz A s s.heap) {Kc : Option (Int32 × σ)} (K : Int32 → σ → Option ρ) (hM : CI l y wy rm D A tys Ws (.ref b :: As) v Kc) (cw : va_CU R s args own C owner index x y bytes maxL ret wy rm 0 0 n) (hrec : ∀ H : Heap, va_P D vwCl (Ws v) H → ∃ cell : Cell, H[b]? = some cell ∧ cell.vm.isStatics = false ∧ s.vm.findClass C = some cell.cls) {st0 : List Value} (hst : st0 = (As.reverse ++ .ref b :: rest)) (hn : As.length = n) (hr8 : (rest.map fun v => v.category).sum ≤ 8) (hf : cells + 0 ≤ R.cells ∧ slots + 0 ≤ R.slots) (hd : decode cc pc = .ok (.invokevirtual index, 3)) (kk : ∀ r v1, Kc = some (r, v1) → sk p l e R s m args below meth c D A nL cells slots Q (Ws v1) (pc + 3) lv (.int r :: rest) (K r v1)) : sk p l e R s m args below meth c D A nL cells slots Q (Ws v) pc lv st0 (bd Kc K) := by
  subst hst
  intro res hKK H locs ls hP hD hS hl
  obtain ⟨⟨r0, v0⟩, hc, hk⟩ := Option.bind_eq_some_iff.mp hKK
  refine va_calli (va_runU (As := As) (rest := rest) F (hM (r0, v0) hc) cw ⟨pq_blind, hrec H hP, pq_now hK hA hZ hP hD hS⟩ rfl hn hl.1 rfl (lv_room hr8) hd hf) hS (fun q _ h => h) (fun q h => h) (fun r u t H1 locs1 ht hvm hw hB hz1 hk1 hS1 => ?_)
  cases hw
  obtain ⟨hP1, -, hD1⟩ := hB
  rw [ht] at hP1
  exact kk r0 v0 hc res hk H1 locs1 ls hP1 hD1 hS1 hl
theorem sk_callSi (F : CallFix p m c cc nL s args Ts own) (hK : va_K D vwCl tys s) (hA : ∀ q, s.heap.size ≤ q → A q) (hZ : zz A s s.heap) {Kc : Option (Int32 × σ)} (K : Int32 → σ → Option ρ) (hM : CI l y wy rm D A tys Ws As v Kc) (cw : CallB R s args own index y bytes maxL ret wy rm 0 0 n ∧ (Cond.static y).before args s = true) {st0 : List Value} (hst : st0 = (As.reverse ++ rest)) (hn : As.length = n) (hr8 : (rest.map fun v => v.category).sum ≤ 8) (hf : cells + 0 ≤ R.cells ∧ slots + 0 ≤ R.slots) (hd : decode cc pc = .ok (.invokestatic index, 3)) (kk : ∀ r v1, Kc = some (r, v1) → sk p l e R s m args below meth c D A nL cells slots Q (Ws v1) (pc + 3) lv (.int r :: rest) (K r v1)) : sk p l e R s m args below meth c D A nL cells slots Q (Ws v) pc lv st0 (bd Kc K) := by
  subst hst
  intro res hKK H locs ls hP hD hS hl
  obtain ⟨⟨r0, v0⟩, hc, hk⟩ := Option.bind_eq_some_iff.mp hKK
  refine va_calli (va_runS (As := As) (rest := rest) F (hM (r0, v0) hc) cw ⟨pq_blind, pq_now hK hA hZ hP hD hS⟩ rfl hn hl.1 rfl (lv_room hr8) hd hf) hS (fun q _ h => h) (fun q h => h) (fun r u t H1 locs1 ht hvm hw hB hz1 hk1 hS1 => ?_)
  cases hw
  obtain ⟨hP1, -, hD1⟩ := hB
  rw [ht] at hP1
  exact kk r0 v0 hc res hk H1 locs1 ls hP1 hD1 hS1 hl
theorem sk_callVv (F : CallFix p m c cc nL s args Ts own) (hK : va_K D vwCl tys s) (hA : ∀ q, s.heap.size ≤ q → A q) (hZ : zz A s s.heap) {Kc : Option σ} (K : σ → Option ρ) (hM : CV l y wy rm D A tys Ws (.ref b :: As) v Kc) (cw : CallW R s args own C index y bytes maxL ret wy rm 0 0 n) (hrec : ∀ H : Heap, va_P D vwCl (Ws v) H → ∃ cell : Cell, H[b]? = some cell ∧ cell.vm.isStatics = false ∧ s.vm.findClass C = some cell.cls) {st0 : List Value} (hst : st0 = (As.reverse ++ .ref b :: rest)) (hn : As.length = n) (hr8 : (rest.map fun v => v.category).sum ≤ 8) (hf : cells + 0 ≤ R.cells ∧ slots + 0 ≤ R.slots) (hd : decode cc pc = .ok (.invokevirtual index, 3)) (kk : ∀ v1, Kc = some v1 → sk p l e R s m args below meth c D A nL cells slots Q (Ws v1) (pc + 3) lv rest (K v1)) : sk p l e R s m args below meth c D A nL cells slots Q (Ws v) pc lv st0 (Kc.bind K) := by
  subst hst
  intro res hKK H locs ls hP hD hS hl
  obtain ⟨v0, hc, hk⟩ := Option.bind_eq_some_iff.mp hKK
  refine va_callv (va_runV (As := As) (rest := rest) F (hM v0 hc) cw ⟨pq_blind, hrec H hP, pq_now hK hA hZ hP hD hS⟩ rfl hn hl.1 rfl (lv_room hr8) hd hf) hS (fun q _ h => h) (fun q h => h) (fun u t H1 locs1 ht hvm hw hB hz1 hk1 hS1 => ?_)
  subst hw
  obtain ⟨hP1, -, hD1⟩ := hB
  rw [ht] at hP1
  exact kk u hc res hk H1 locs1 ls hP1 hD1 hS1 hl
theorem sk_callUv (F : CallFix p m c cc nL s args Ts own) (hK : va_K D vwCl tys s) (hA : ∀ q, s.heap.size ≤ q → A q) (hZ : zz A s s.heap) {Kc : Option σ} (K : σ → Option ρ) (hM : CV l y wy rm D A tys Ws (.ref b :: As) v Kc) (cw : va_CU R s args own C owner index x y bytes maxL ret wy rm 0 0 n) (hrec : ∀ H : Heap, va_P D vwCl (Ws v) H → ∃ cell : Cell, H[b]? = some cell ∧ cell.vm.isStatics = false ∧ s.vm.findClass C = some cell.cls) {st0 : List Value} (hst : st0 = (As.reverse ++ .ref b :: rest)) (hn : As.length = n) (hr8 : (rest.map fun v => v.category).sum ≤ 8) (hf : cells + 0 ≤ R.cells ∧ slots + 0 ≤ R.slots) (hd : decode cc pc = .ok (.invokevirtual index, 3)) (kk : ∀ v1, Kc = some v1 → sk p l e R s m args below meth c D A nL cells slots Q (Ws v1) (pc + 3) lv rest (K v1)) : sk p l e R s m args below meth c D A nL cells slots Q (Ws v) pc lv st0 (Kc.bind K) := by
  subst hst
  intro res hKK H locs ls hP hD hS hl
  obtain ⟨v0, hc, hk⟩ := Option.bind_eq_some_iff.mp hKK
  refine va_callv (va_runU (As := As) (rest := rest) F (hM v0 hc) cw ⟨pq_blind, hrec H hP, pq_now hK hA hZ hP hD hS⟩ rfl hn hl.1 rfl (lv_room hr8) hd hf) hS (fun q _ h => h) (fun q h => h) (fun u t H1 locs1 ht hvm hw hB hz1 hk1 hS1 => ?_)
  subst hw
  obtain ⟨hP1, -, hD1⟩ := hB
  rw [ht] at hP1
  exact kk u hc res hk H1 locs1 ls hP1 hD1 hS1 hl
theorem sk_callSv (F : CallFix p m c cc nL s args Ts own) (hK : va_K D vwCl tys s) (hA : ∀ q, s.heap.size ≤ q → A q) (hZ : zz A s s.heap) {Kc : Option σ} (K : σ → Option ρ) (hM : CV l y wy rm D A tys Ws As v Kc) (cw : CallB R s args own index y bytes maxL ret wy rm 0 0 n ∧ (Cond.static y).before args s = true) {st0 : List Value} (hst : st0 = (As.reverse ++ rest)) (hn : As.length = n) (hr8 : (rest.map fun v => v.category).sum ≤ 8) (hf : cells + 0 ≤ R.cells ∧ slots + 0 ≤ R.slots) (hd : decode cc pc = .ok (.invokestatic index, 3)) (kk : ∀ v1, Kc = some v1 → sk p l e R s m args below meth c D A nL cells slots Q (Ws v1) (pc + 3) lv rest (K v1)) : sk p l e R s m args below meth c D A nL cells slots Q (Ws v) pc lv st0 (Kc.bind K) := by
  subst hst
  intro res hKK H locs ls hP hD hS hl
  obtain ⟨v0, hc, hk⟩ := Option.bind_eq_some_iff.mp hKK
  refine va_callv (va_runS (As := As) (rest := rest) F (hM v0 hc) cw ⟨pq_blind, pq_now hK hA hZ hP hD hS⟩ rfl hn hl.1 rfl (lv_room hr8) hd hf) hS (fun q _ h => h) (fun q h => h) (fun u t H1 locs1 ht hvm hw hB hz1 hk1 hS1 => ?_)
  subst hw
  obtain ⟨hP1, -, hD1⟩ := hB
  rw [ht] at hP1
  exact kk u hc res hk H1 locs1 ls hP1 hD1 hS1 hl
theorem sk_callVr (F : CallFix p m c cc nL s args Ts own) (hK : va_K D vwCl tys s) (hA : ∀ q, s.heap.size ≤ q → A q) (hZ : zz A s s.heap) {Kc : Option (Nat × σ)} (K : Nat → σ → Option ρ) (hM : CR l y wy rm D A tys ad Ws (.ref b :: As) v Kc) (cw : CallW R s args own C index y bytes maxL ret wy rm 0 0 n) (hrec : ∀ H : Heap, va_P D vwCl (Ws v) H → ∃ cell : Cell, H[b]? = some cell ∧ cell.vm.isStatics = false ∧ s.vm.findClass C = some cell.cls) {st0 : List Value} (hst : st0 = (As.reverse ++ .ref b :: rest)) (hn : As.length = n) (hr8 : (rest.map fun v => v.category).sum ≤ 8) (hf : cells + 0 ≤ R.cells ∧ slots + 0 ≤ R.slots) (hd : decode cc pc = .ok (.invokevirtual index, 3)) (kk : ∀ r v1, Kc = some (r, v1) → sk p l e R s m args below meth c D A nL cells slots Q (Ws v1) (pc + 3) lv (.ref (ad r) :: rest) (K r v1)) : sk p l e R s m args below meth c D A nL cells slots Q (Ws v) pc lv st0 (bd Kc K) := by
  subst hst
  intro res hKK H locs ls hP hD hS hl
  obtain ⟨⟨r0, v0⟩, hc, hk⟩ := Option.bind_eq_some_iff.mp hKK
  refine va_callr (va_runV (As := As) (rest := rest) F (hM (r0, v0) hc) cw ⟨pq_blind, hrec H hP, pq_now hK hA hZ hP hD hS⟩ rfl hn hl.1 rfl (lv_room hr8) hd hf) hS (fun q _ h => h) (fun q h => h) (fun u ra t H1 locs1 ht hvm hw hB hz1 hk1 hS1 => ?_)
  subst hw
  obtain ⟨rfl, hP1, -, hD1⟩ := hB
  rw [ht] at hP1
  exact kk r0 v0 hc res hk H1 locs1 ls hP1 hD1 hS1 hl
theorem sk_callUr (F : CallFix p m c cc nL s args Ts own) (hK : va_K D vwCl tys s) (hA : ∀ q, s.heap.size ≤ q → A q) (hZ : zz A s s.heap) {Kc : Option (Nat × σ)} (K : Nat → σ → Option ρ) (hM : CR l y wy rm D A tys ad Ws (.ref b :: As) v Kc) (cw : va_CU R s args own C owner index x y bytes maxL ret wy rm 0 0 n) (hrec : ∀ H : Heap, va_P D vwCl (Ws v) H → ∃ cell : Cell, H[b]? = some cell ∧ cell.vm.isStatics = false ∧ s.vm.findClass C = some cell.cls) {st0 : List Value} (hst : st0 = (As.reverse ++ .ref b :: rest)) (hn : As.length = n) (hr8 : (rest.map fun v => v.category).sum ≤ 8) (hf : cells + 0 ≤ R.cells ∧ slots + 0 ≤ R.slots) (hd : decode cc pc = .ok (.invokevirtual index, 3)) (kk : ∀ r v1, Kc = some (r, v1) → sk p l e R s m args below meth c D A nL cells slots Q (Ws v1) (pc + 3) lv (.ref (ad r) :: rest) (K r v1)) : sk p l e R s m args below meth c D A nL cells slots Q (Ws v) pc lv st0 (bd Kc K) := by
  subst hst
  intro res hKK H locs ls hP hD hS hl
  obtain ⟨⟨r0, v0⟩, hc, hk⟩ := Option.bind_eq_some_iff.mp hKK
  refine va_callr (va_runU (As := As) (rest := rest) F (hM (r0, v0) hc) cw ⟨pq_blind, hrec H hP, pq_now hK hA hZ hP hD hS⟩ rfl hn hl.1 rfl (lv_room hr8) hd hf) hS (fun q _ h => h) (fun q h => h) (fun u ra t H1 locs1 ht hvm hw hB hz1 hk1 hS1 => ?_)
  subst hw
  obtain ⟨rfl, hP1, -, hD1⟩ := hB
  rw [ht] at hP1
  exact kk r0 v0 hc res hk H1 locs1 ls hP1 hD1 hS1 hl
theorem sk_callSr (F : CallFix p m c cc nL s args Ts own) (hK : va_K D vwCl tys s) (hA : ∀ q, s.heap.size ≤ q → A q) (hZ : zz A s s.heap) {Kc : Option (Nat × σ)} (K : Nat → σ → Option ρ) (hM : CR l y wy rm D A tys ad Ws As v Kc) (cw : CallB R s args own index y bytes maxL ret wy rm 0 0 n ∧ (Cond.static y).before args s = true) {st0 : List Value} (hst : st0 = (As.reverse ++ rest)) (hn : As.length = n) (hr8 : (rest.map fun v => v.category).sum ≤ 8) (hf : cells + 0 ≤ R.cells ∧ slots + 0 ≤ R.slots) (hd : decode cc pc = .ok (.invokestatic index, 3)) (kk : ∀ r v1, Kc = some (r, v1) → sk p l e R s m args below meth c D A nL cells slots Q (Ws v1) (pc + 3) lv (.ref (ad r) :: rest) (K r v1)) : sk p l e R s m args below meth c D A nL cells slots Q (Ws v) pc lv st0 (bd Kc K) := by
  subst hst
  intro res hKK H locs ls hP hD hS hl
  obtain ⟨⟨r0, v0⟩, hc, hk⟩ := Option.bind_eq_some_iff.mp hKK
  refine va_callr (va_runS (As := As) (rest := rest) F (hM (r0, v0) hc) cw ⟨pq_blind, pq_now hK hA hZ hP hD hS⟩ rfl hn hl.1 rfl (lv_room hr8) hd hf) hS (fun q _ h => h) (fun q h => h) (fun u ra t H1 locs1 ht hvm hw hB hz1 hk1 hS1 => ?_)
  subst hw
  obtain ⟨rfl, hP1, -, hD1⟩ := hB
  rw [ht] at hP1
  exact kk r0 v0 hc res hk H1 locs1 ls hP1 hD1 hS1 hl
theorem sk_iret (F : CallFix p m c cc nL s args Ts own) (hK : va_K D vwCl tys s) (hr : meth.sig.returnType = some .int) (hlocks : meth.locks = false) {r : Int32} (hd : decode cc pc = .ok (.ireturn, 1)) : sk p l e R s m args below meth c D A nL 0 0 (fun res => MQ below (qi D A tys Ws res) args s 0 0 A) (Ws v) pc lv [.int r] (some (r, v)) := by
  intro res hKK H locs ls hP hD hS hl
  cases hKK
  exact W.iret F.1 F.2.1 hr (fun t ht hW => ⟨⟨r, v, rfl, rfl, by rw [ht]; exact hP, va_K.moved hW.alike hK, hD⟩, hS.F ht⟩) hS.2.2 hd
theorem sk_zret (F : CallFix p m c cc nL s args Ts own) (hK : va_K D vwCl tys s) (hr : meth.sig.returnType = some .boolean) (hlocks : meth.locks = false) {r : Int32} (hd : decode cc pc = .ok (.ireturn, 1)) : sk p l e R s m args below meth c D A nL 0 0 (fun res => MQ below (qi D A tys Ws res) args s 0 0 A) (Ws v) pc lv [.int r] (gd (bo r) (some (r, v))) := by
  intro res hKK H locs ls hP hD hS hl
  obtain ⟨hb, hKK⟩ := gd_some hKK
  cases hKK
  exact W.zret F.1 F.2.1 hr (by rcases hb with rfl | rfl <;> rfl) (fun t ht hW => ⟨⟨r, v, rfl, rfl, by rw [ht]; exact hP, va_K.moved hW.alike hK, hD⟩, hS.F ht⟩) hS.2.2 hd
theorem sk_zretc (F : CallFix p m c cc nL s args Ts own) (hK : va_K D vwCl tys s) (hr : meth.sig.returnType = some .boolean) (hlocks : meth.locks = false) {r : Int32} (hb : bo r) (hd : decode cc pc = .ok (.ireturn, 1)) : sk p l e R s m args below meth c D A nL 0 0 (fun res => MQ below (qi D A tys Ws res) args s 0 0 A) (Ws v) pc lv [.int r] (some (r, v)) := by
  intro res hKK H locs ls hP hD hS hl
  cases hKK
  exact W.zret F.1 F.2.1 hr (bo_n hb) (fun t ht hW => ⟨⟨r, v, rfl, rfl, by rw [ht]; exact hP, va_K.moved hW.alike hK, hD⟩, hS.F ht⟩) hS.2.2 hd
theorem sk_vret (F : CallFix p m c cc nL s args Ts own) (hK : va_K D vwCl tys s) (hr : meth.sig.returnType = none) (hlocks : meth.locks = false) (hd : decode cc pc = .ok (.return_, 1)) : sk p l e R s m args below meth c D A nL 0 0 (fun res => MQ below (qv D A tys Ws res) args s 0 0 A) (Ws v) pc lv [] (some v) := by
  intro res hKK H locs ls hP hD hS hl
  cases hKK
  exact W.vret F.1 F.2.1 hr (fun t ht hW => ⟨⟨v, rfl, rfl, by rw [ht]; exact hP, va_K.moved hW.alike hK, hD⟩, hS.F ht⟩) hS.2.2 hd
theorem sk_aret (F : CallFix p m c cc nL s args Ts own) (hK : va_K D vwCl tys s) {rt : FieldType} (hr : meth.sig.returnType = some rt) (hrt : (∃ n, rt = .object n) ∨ ∃ t, rt = .array t) (hlocks : meth.locks = false) {r : Nat} (hd : decode cc pc = .ok (.areturn, 1)) : sk p l e R s m args below meth c D A nL 0 0 (fun res => MQ below (qr D A tys ad Ws res) args s 0 0 A) (Ws v) pc lv [.ref (ad r)] (some (r, v)) := by
  intro res hKK H locs ls hP hD hS hl
  cases hKK
  exact W.aret F.1 F.2.1 hr hrt (Or.inr ⟨_, rfl⟩) (fun t ht hW => ⟨⟨(r, v), ad r, rfl, rfl, rfl, by rw [ht]; exact hP, va_K.moved hW.alike hK, hD⟩, hS.F ht⟩) hS.2.2 hd
end SKC
/-- what holds through a body: the machine, the code, the words, the classes, the statics that a throw reads -/
def cx (p : Program) (s : State) (m : MethodId) (args : Array Value) (meth : Method) (c : Code) (cc : ByteArray) (nL : Nat) (Ts : List Cond) (own : String) (D : va_G) (tys : List (ClassId × FieldType)) (A : Nat → Prop) (ret : Option FieldType) : Prop :=
  CallFix p m c cc nL s args Ts own ∧ va_K D vwCl tys s ∧ (∀ q, s.heap.size ≤ q → A q) ∧ zz A s s.heap ∧ meth.sig.returnType = ret ∧ meth.locks = false
section SKO
variable {l : Launch} {y : MethodName} {ws ws' : List Cond} {rm : Room} {D : va_G} {A : Nat → Prop} {tys : List (ClassId × FieldType)} {σ : Type} {Ws : σ → va_W} {as : List Value} {v : σ} {cc : ByteArray} {maxL : Nat} {ret : Option FieldType} {ad : Nat → Nat}
theorem CI_of {K : Option (Int32 × σ)} (hy : plainName y.cls = true) (hw : ws = Cond.code y cc maxL ret :: ws') (hn : (lg_sl as).length ≤ maxL) (body : ∀ (p : Program) (e : Env) (s : State) (m : MethodId) (below : List Frame) (meth : Method) (c : Code), cx p s m as.toArray meth c cc maxL ws y.cls D tys A ret → sk p l e rm s m as.toArray below meth c D A maxL 0 0 (fun res => MQ below (qi D A tys Ws res) as.toArray s 0 0 A) (Ws v) 0 (lv_args 0 as) [] K) : CI l y ws rm D A tys Ws as v K := by
  intro res hres
  refine Met.ofW (cc := cc) (maxL := maxL) (ret := ret) hy hw ?_
  intro p e s m args below meth c s₁ B hml hv
  obtain ⟨rfl, hP, hK, hD, hA, hZ⟩ := hv
  have hl := lv_entry as (n := maxL) hn
  rw [lg_entry_eq]
  exact body p e s m below meth c ⟨⟨B.exec, B.bytes, hml, findClass_of_methodNamed B.named, atoms_spec B.pre⟩, hK, hA, hZ, B.returns, B.notSynchronized⟩ res hres s.heap [] _ hP hD va_S.rf hl
theorem CV_of {K : Option σ} (hy : plainName y.cls = true) (hw : ws = Cond.code y cc maxL ret :: ws') (hn : (lg_sl as).length ≤ maxL) (body : ∀ (p : Program) (e : Env) (s : State) (m : MethodId) (below : List Frame) (meth : Method) (c : Code), cx p s m as.toArray meth c cc maxL ws y.cls D tys A ret → sk p l e rm s m as.toArray below meth c D A maxL 0 0 (fun res => MQ below (qv D A tys Ws res) as.toArray s 0 0 A) (Ws v) 0 (lv_args 0 as) [] K) : CV l y ws rm D A tys Ws as v K := by
  intro res hres
  refine Met.ofW (cc := cc) (maxL := maxL) (ret := ret) hy hw ?_
  intro p e s m args below meth c s₁ B hml hv
  obtain ⟨rfl, hP, hK, hD, hA, hZ⟩ := hv
  have hl := lv_entry as (n := maxL) hn
  rw [lg_entry_eq]
  exact body p e s m below meth c ⟨⟨B.exec, B.bytes, hml, findClass_of_methodNamed B.named, atoms_spec B.pre⟩, hK, hA, hZ, B.returns, B.notSynchronized⟩ res hres s.heap [] _ hP hD va_S.rf hl
theorem CR_of {K : Option (Nat × σ)} (hy : plainName y.cls = true) (hw : ws = Cond.code y cc maxL ret :: ws') (hn : (lg_sl as).length ≤ maxL) (body : ∀ (p : Program) (e : Env) (s : State) (m : MethodId) (below : List Frame) (meth : Method) (c : Code), cx p s m as.toArray meth c cc maxL ws y.cls D tys A ret → sk p l e rm s m as.toArray below meth c D A maxL 0 0 (fun res => MQ below (qr D A tys ad Ws res) as.toArray s 0 0 A) (Ws v) 0 (lv_args 0 as) [] K) : CR l y ws rm D A tys ad Ws as v K := by
  intro res hres
  refine Met.ofW (cc := cc) (maxL := maxL) (ret := ret) hy hw ?_
  intro p e s m args below meth c s₁ B hml hv
  obtain ⟨rfl, hP, hK, hD, hA, hZ⟩ := hv
  have hl := lv_entry as (n := maxL) hn
  rw [lg_entry_eq]
  exact body p e s m below meth c ⟨⟨B.exec, B.bytes, hml, findClass_of_methodNamed B.named, atoms_spec B.pre⟩, hK, hA, hZ, B.returns, B.notSynchronized⟩ res hres s.heap [] _ hP hD va_S.rf hl
end SKO
abbrev ty5 (cI cS cF cZ cJ : ClassId) : List (ClassId × FieldType) := [(cI, .int), (cS, .object "TunnelWatch$Section"), (cF, .object "TunnelWatch$Fan"), (cZ, .boolean), (cJ, .long)]
theorem inb_lt {i : Int32} {n : Nat} (h : inb i n) : i.toNatClampNeg < n := Nat.not_le.mp fun q => h (Or.inr q)
end
section
/-! the class: thing 0 the watch, 1 its counts; tube t at 2 + 41 t: +1 sections' row, +2 fans' row, +3 signals, +4 barrier, +5+f fan f, +17+s section s -/
def kq (n q : Nat) : Nat := if q = 0 then 3 else if q = 1 then 9 else if q = 2 then 8 else if q < 5 then 0 else if q < 17 then 1 else if q < 17 + n ∧ q < 41 then 2 else 10
def kC (n o : Nat) : Nat := if o = 0 then 4 else if o = 1 then 6 else kq n (if o < 43 then o - 2 else o - 43)
def Lc (n : Nat) : List Nat := (List.range 84).filter (fun o => decide (kC n o ≠ 10))
theorem Lc_nd (n : Nat) : (Lc n).Nodup := List.Nodup.sublist (List.filter_sublist) List.nodup_range
theorem kq_big {n q : Nat} (h : 41 ≤ q) : kq n q = 10 := by
  unfold kq
  repeat (first | rw [if_neg (by omega)])
theorem Lc_mem {n o k : Nat} (h : kC n o = k) (hk : k ≠ 10) : o ∈ Lc n := by
  have h1 : kC n o ≠ 10 := by rw [h]; exact hk
  refine List.mem_filter.mpr ⟨List.mem_range.mpr ?_, by simpa using h1⟩
  rcases Nat.lt_or_ge o 84 with h2 | h2
  · exact h2
  · exfalso
    apply h1
    unfold kC
    rw [if_neg (by omega), if_neg (by omega), if_neg (by omega)]
    exact kq_big (by omega)
theorem kC_0 (n : Nat) : kC n 0 = 4 := rfl
theorem kC_1 (n : Nat) : kC n 1 = 6 := rfl
theorem kC_2 (n : Nat) : kC n 2 = 3 := rfl
theorem kC_43 (n : Nat) : kC n 43 = 3 := rfl
theorem kC_is4 {n o : Nat} (h : kC n o = 4) : o = 0 := by
  rcases Nat.eq_zero_or_pos o with h0 | h0
  · exact h0
  · exfalso
    unfold kC kq at h
    rw [if_neg (by omega)] at h
    repeat' (first | (exfalso; omega) | split at h)
theorem kC_is3 {n o : Nat} (h : kC n o = 3) : o = 2 ∨ o = 43 := by
  unfold kC at h
  by_cases h0 : o = 0
  · rw [if_pos h0] at h; cases h
  · rw [if_neg h0] at h
    by_cases h1 : o = 1
    · rw [if_pos h1] at h; cases h
    · rw [if_neg h1] at h
      by_cases h2 : o < 43
      · rw [if_pos h2] at h
        unfold kq at h
        by_cases h3 : o - 2 = 0
        · omega
        · rw [if_neg h3] at h
          repeat' (first | (exfalso; omega) | split at h)
      · rw [if_neg h2] at h
        unfold kq at h
        by_cases h3 : o - 43 = 0
        · omega
        · rw [if_neg h3] at h
          repeat' (first | (exfalso; omega) | split at h)
theorem kC_sec {n o : Nat} (h : kC n o = 3) : kC n (o + 1) = 9 := by rcases kC_is3 h with rfl | rfl <;> rfl
theorem kC_fan {n o : Nat} (h : kC n o = 3) : kC n (o + 2) = 8 := by rcases kC_is3 h with rfl | rfl <;> rfl
theorem kC_sig {n o : Nat} (h : kC n o = 3) : kC n (o + 3) = 0 := by rcases kC_is3 h with rfl | rfl <;> rfl
theorem kC_bar {n o : Nat} (h : kC n o = 3) : kC n (o + 4) = 0 := by rcases kC_is3 h with rfl | rfl <;> rfl
theorem kC_f {n o j : Nat} (h : kC n o = 3) (hj : j < 12) : kC n (o + 5 + j) = 1 := by
  rcases kC_is3 h with rfl | rfl
  · unfold kC
    rw [if_neg (by omega), if_neg (by omega), if_pos (by omega)]
    unfold kq
    rw [if_neg (by omega), if_neg (by omega), if_neg (by omega), if_neg (by omega), if_pos (by omega)]
  · unfold kC
    rw [if_neg (by omega), if_neg (by omega), if_neg (by omega)]
    unfold kq
    rw [if_neg (by omega), if_neg (by omega), if_neg (by omega), if_neg (by omega), if_pos (by omega)]
theorem kC_s {n o j : Nat} (h : kC n o = 3) (hn : n ≤ 24) (hj : j < n) : kC n (o + 17 + j) = 2 := by
  rcases kC_is3 h with rfl | rfl
  · unfold kC
    rw [if_neg (by omega), if_neg (by omega), if_pos (by omega)]
    unfold kq
    rw [if_neg (by omega), if_neg (by omega), if_neg (by omega), if_neg (by omega), if_neg (by omega), if_pos (by omega)]
  · unfold kC
    rw [if_neg (by omega), if_neg (by omega), if_neg (by omega)]
    unfold kq
    rw [if_neg (by omega), if_neg (by omega), if_neg (by omega), if_neg (by omega), if_neg (by omega), if_pos (by omega)]
abbrev fs0 (ad : Nat → Nat) (o : Nat) (r : Nat → Int32) : List Value := [.int (r 0), .int (r 1), .int (r 2), .int (r 3), .int (r 4), .int (r 5)]
abbrev fs1 (ad : Nat → Nat) (o : Nat) (r : Nat → Int32) : List Value := [.int (r 0), .int (r 1), .int (r 2), .int (r 3), .int (r 4), .int (r 5), .int (r 6), .int (r 7), .int (r 8)]
abbrev fs2 (ad : Nat → Nat) (o : Nat) (r : Nat → Int32) : List Value := [.int (r 0), .int (r 1), .int (r 2), .int (r 3), .int (r 4), .int (r 5), .int (r 6), .int (r 7)]
abbrev fs3 (ad : Nat → Nat) (o : Nat) (r : Nat → Int32) : List Value := [.ref (ad (o + 1)), .ref (ad (o + 3)), .ref (ad (o + 4)), .ref (ad (o + 2)), .int (r 4), .int (r 5), .int (r 6), .int (r 7), .int (r 8), .int (r 9), .int (r 10), .int (r 11)]
abbrev fs4 (ad : Nat → Nat) (o : Nat) (r : Nat → Int32) : List Value := [.int (r 0), .int (r 1), .ref (ad 2), .ref (ad 43), .ref (ad 1), .int (r 5), .int (r 6), .int (r 7), .int (r 8)]
def shC (cI cS cF : ClassId) (ad : Nat → Nat) (n o : Nat) (r : Nat → Int32) : va_E := if kC n o = 4 then .inr (4, fs4 ad o r) else if kC n o = 6 then .inl (cI, 10, .inl r) else if kC n o = 3 then .inr (3, fs3 ad o r) else if kC n o = 9 then .inl (cS, n, .inr (.inr (.inr (.inr (fun j => some (ad (o + 16 + j))))))) else if kC n o = 8 then .inl (cF, 12, .inr (.inr (.inr (.inr (fun j => some (ad (o + 3 + j))))))) else if kC n o = 0 then .inr (0, fs0 ad o r) else if kC n o = 1 then .inr (1, fs1 ad o r) else .inr (2, fs2 ad o r)
theorem shC_0 {cI cS cF : ClassId} {ad : Nat → Nat} {n o : Nat} (h : kC n o = 0) (r : Nat → Int32) : shC cI cS cF ad n o r = .inr (0, fs0 ad o r) := by
  unfold shC
  rw [if_neg (by rw [h]; decide), if_neg (by rw [h]; decide), if_neg (by rw [h]; decide), if_neg (by rw [h]; decide), if_neg (by rw [h]; decide), if_pos h]
theorem shC_1 {cI cS cF : ClassId} {ad : Nat → Nat} {n o : Nat} (h : kC n o = 1) (r : Nat → Int32) : shC cI cS cF ad n o r = .inr (1, fs1 ad o r) := by
  unfold shC
  rw [if_neg (by rw [h]; decide), if_neg (by rw [h]; decide), if_neg (by rw [h]; decide), if_neg (by rw [h]; decide), if_neg (by rw [h]; decide), if_neg (by rw [h]; decide), if_pos h]
theorem shC_2 {cI cS cF : ClassId} {ad : Nat → Nat} {n o : Nat} (h : kC n o = 2) (r : Nat → Int32) : shC cI cS cF ad n o r = .inr (2, fs2 ad o r) := by
  unfold shC
  rw [if_neg (by rw [h]; decide), if_neg (by rw [h]; decide), if_neg (by rw [h]; decide), if_neg (by rw [h]; decide), if_neg (by rw [h]; decide), if_neg (by rw [h]; decide), if_neg (by rw [h]; decide)]
theorem shC_3 {cI cS cF : ClassId} {ad : Nat → Nat} {n o : Nat} (h : kC n o = 3) (r : Nat → Int32) : shC cI cS cF ad n o r = .inr (3, fs3 ad o r) := by
  unfold shC
  rw [if_neg (by rw [h]; decide), if_neg (by rw [h]; decide), if_pos h]
theorem shC_4 {cI cS cF : ClassId} {ad : Nat → Nat} {n o : Nat} (h : kC n o = 4) (r : Nat → Int32) : shC cI cS cF ad n o r = .inr (4, fs4 ad o r) := by
  unfold shC
  rw [if_pos h]
theorem shC_6 {cI cS cF : ClassId} {ad : Nat → Nat} {n o : Nat} (h : kC n o = 6) (r : Nat → Int32) : shC cI cS cF ad n o r = .inl (cI, 10, .inl r) := by
  unfold shC
  rw [if_neg (by rw [h]; decide), if_pos h]
theorem shC_9 {cI cS cF : ClassId} {ad : Nat → Nat} {n o : Nat} (h : kC n o = 9) (r : Nat → Int32) : shC cI cS cF ad n o r = .inl (cS, n, .inr (.inr (.inr (.inr (fun j => some (ad (o + 16 + j))))))) := by
  unfold shC
  rw [if_neg (by rw [h]; decide), if_neg (by rw [h]; decide), if_neg (by rw [h]; decide), if_pos h]
theorem shC_8 {cI cS cF : ClassId} {ad : Nat → Nat} {n o : Nat} (h : kC n o = 8) (r : Nat → Int32) : shC cI cS cF ad n o r = .inl (cF, 12, .inr (.inr (.inr (.inr (fun j => some (ad (o + 3 + j))))))) := by
  unfold shC
  rw [if_neg (by rw [h]; decide), if_neg (by rw [h]; decide), if_neg (by rw [h]; decide), if_neg (by rw [h]; decide), if_pos h]
/-! the reference: thing 0 itself, thing k the row that its field k holds -/
def kR (o : Nat) : Nat := if o = 0 then 5 else if o < 5 ∨ 32 < o then 10 else if o = 10 ∨ o = 11 ∨ o = 18 ∨ o = 19 ∨ o = 27 then 7 else 6
def nR (o : Nat) : Nat := if o = 5 then 2 else if o < 17 then 28 else if o < 25 then 48 else if o < 32 then 2 else 20001
def Lr : List Nat := (List.range 33).filter (fun o => decide (kR o ≠ 10))
theorem Lr_nd : Lr.Nodup := List.Nodup.sublist (List.filter_sublist) List.nodup_range
theorem Lr_mem {o : Nat} (h : o = 0 ∨ (5 ≤ o ∧ o ≤ 32)) : o ∈ Lr := by
  refine List.mem_filter.mpr ⟨List.mem_range.mpr (by omega), ?_⟩
  have h1 : kR o ≠ 10 := by
    unfold kR
    by_cases h0 : o = 0
    · rw [if_pos h0]; decide
    · rw [if_neg h0, if_neg (by omega)]
      split <;> decide
  simpa using h1
abbrev fs5 (ad : Nat → Nat) (r : Nat → Int32) : List Value := [.int (r 0), .int (r 1), .int (r 2), .int (r 3), .int (r 4), .ref (ad 5), .ref (ad 6), .ref (ad 7), .ref (ad 8), .ref (ad 9), .ref (ad 10), .ref (ad 11), .ref (ad 12), .ref (ad 13), .ref (ad 14), .ref (ad 15), .ref (ad 16), .ref (ad 17), .ref (ad 18), .ref (ad 19), .ref (ad 20), .ref (ad 21), .ref (ad 22), .ref (ad 23), .ref (ad 24), .ref (ad 25), .ref (ad 26), .ref (ad 27), .ref (ad 28), .ref (ad 29), .ref (ad 30), .ref (ad 31), .ref (ad 32), .int (r 33), .int (r 34)]
def shR (cI cZ : ClassId) (ad : Nat → Nat) (o : Nat) (r : Nat → Int32) : va_E := if kR o = 5 then .inr (5, fs5 ad r) else if kR o = 7 then .inl (cZ, nR o, .inl r) else .inl (cI, nR o, .inl r)
theorem shR_0 {cI cZ : ClassId} {ad : Nat → Nat} (r : Nat → Int32) : shR cI cZ ad 0 r = .inr (5, fs5 ad r) := rfl
theorem shR_5 {cI cZ : ClassId} {ad : Nat → Nat} (r : Nat → Int32) : shR cI cZ ad 5 r = .inl (cI, 2, .inl r) := rfl
theorem shR_6 {cI cZ : ClassId} {ad : Nat → Nat} (r : Nat → Int32) : shR cI cZ ad 6 r = .inl (cI, 28, .inl r) := rfl
theorem shR_7 {cI cZ : ClassId} {ad : Nat → Nat} (r : Nat → Int32) : shR cI cZ ad 7 r = .inl (cI, 28, .inl r) := rfl
theorem shR_8 {cI cZ : ClassId} {ad : Nat → Nat} (r : Nat → Int32) : shR cI cZ ad 8 r = .inl (cI, 28, .inl r) := rfl
theorem shR_9 {cI cZ : ClassId} {ad : Nat → Nat} (r : Nat → Int32) : shR cI cZ ad 9 r = .inl (cI, 28, .inl r) := rfl
theorem shR_10 {cI cZ : ClassId} {ad : Nat → Nat} (r : Nat → Int32) : shR cI cZ ad 10 r = .inl (cZ, 28, .inl r) := rfl
theorem shR_11 {cI cZ : ClassId} {ad : Nat → Nat} (r : Nat → Int32) : shR cI cZ ad 11 r = .inl (cZ, 28, .inl r) := rfl
theorem shR_12 {cI cZ : ClassId} {ad : Nat → Nat} (r : Nat → Int32) : shR cI cZ ad 12 r = .inl (cI, 28, .inl r) := rfl
theorem shR_13 {cI cZ : ClassId} {ad : Nat → Nat} (r : Nat → Int32) : shR cI cZ ad 13 r = .inl (cI, 28, .inl r) := rfl
theorem shR_14 {cI cZ : ClassId} {ad : Nat → Nat} (r : Nat → Int32) : shR cI cZ ad 14 r = .inl (cI, 28, .inl r) := rfl
theorem shR_15 {cI cZ : ClassId} {ad : Nat → Nat} (r : Nat → Int32) : shR cI cZ ad 15 r = .inl (cI, 28, .inl r) := rfl
theorem shR_16 {cI cZ : ClassId} {ad : Nat → Nat} (r : Nat → Int32) : shR cI cZ ad 16 r = .inl (cI, 28, .inl r) := rfl
theorem shR_17 {cI cZ : ClassId} {ad : Nat → Nat} (r : Nat → Int32) : shR cI cZ ad 17 r = .inl (cI, 48, .inl r) := rfl
theorem shR_18 {cI cZ : ClassId} {ad : Nat → Nat} (r : Nat → Int32) : shR cI cZ ad 18 r = .inl (cZ, 48, .inl r) := rfl
theorem shR_19 {cI cZ : ClassId} {ad : Nat → Nat} (r : Nat → Int32) : shR cI cZ ad 19 r = .inl (cZ, 48, .inl r) := rfl
theorem shR_20 {cI cZ : ClassId} {ad : Nat → Nat} (r : Nat → Int32) : shR cI cZ ad 20 r = .inl (cI, 48, .inl r) := rfl
theorem shR_21 {cI cZ : ClassId} {ad : Nat → Nat} (r : Nat → Int32) : shR cI cZ ad 21 r = .inl (cI, 48, .inl r) := rfl
theorem shR_22 {cI cZ : ClassId} {ad : Nat → Nat} (r : Nat → Int32) : shR cI cZ ad 22 r = .inl (cI, 48, .inl r) := rfl
theorem shR_23 {cI cZ : ClassId} {ad : Nat → Nat} (r : Nat → Int32) : shR cI cZ ad 23 r = .inl (cI, 48, .inl r) := rfl
theorem shR_24 {cI cZ : ClassId} {ad : Nat → Nat} (r : Nat → Int32) : shR cI cZ ad 24 r = .inl (cI, 48, .inl r) := rfl
theorem shR_25 {cI cZ : ClassId} {ad : Nat → Nat} (r : Nat → Int32) : shR cI cZ ad 25 r = .inl (cI, 2, .inl r) := rfl
theorem shR_26 {cI cZ : ClassId} {ad : Nat → Nat} (r : Nat → Int32) : shR cI cZ ad 26 r = .inl (cI, 2, .inl r) := rfl
theorem shR_27 {cI cZ : ClassId} {ad : Nat → Nat} (r : Nat → Int32) : shR cI cZ ad 27 r = .inl (cZ, 2, .inl r) := rfl
theorem shR_28 {cI cZ : ClassId} {ad : Nat → Nat} (r : Nat → Int32) : shR cI cZ ad 28 r = .inl (cI, 2, .inl r) := rfl
theorem shR_29 {cI cZ : ClassId} {ad : Nat → Nat} (r : Nat → Int32) : shR cI cZ ad 29 r = .inl (cI, 2, .inl r) := rfl
theorem shR_30 {cI cZ : ClassId} {ad : Nat → Nat} (r : Nat → Int32) : shR cI cZ ad 30 r = .inl (cI, 2, .inl r) := rfl
theorem shR_31 {cI cZ : ClassId} {ad : Nat → Nat} (r : Nat → Int32) : shR cI cZ ad 31 r = .inl (cI, 2, .inl r) := rfl
theorem shR_32 {cI cZ : ClassId} {ad : Nat → Nat} (r : Nat → Int32) : shR cI cZ ad 32 r = .inl (cI, 20001, .inl r) := rfl
section SKH
variable {p : Program} {l : Launch} {e : Env} {R : Room} {s : State} {m : MethodId} {args : Array Value} {below : List Frame} {meth : Method} {c : Code} {cc : ByteArray} {nL : Nat} {Ts : List Cond} {own : String} {D : va_G} {A : Nat → Prop} {cells slots : Nat} {ρ : Type} {Q : ρ → State → Prop} {pc : Nat} {lv : List (Nat × Value)} {st : List Value} {K : Option ρ} {cI cS cF cZ cJ : ClassId} {ad : Nat → Nat} {n : Nat} {v : Mem} {X : va_W}
abbrev Wc (cI cS cF : ClassId) (ad : Nat → Nat) (n : Nat) (X : va_W) (v : Mem) : va_W := ow (Lc n) ad (shC cI cS cF ad n) v ++ X
abbrev Wr (cI cZ : ClassId) (ad : Nat → Nat) (X : va_W) (v : Mem) : va_W := ow Lr ad (shR cI cZ ad) v ++ X
theorem sk_aldF (F : CallFix p m c cc nL s args Ts own) (hK : va_K D vwCl (ty5 cI cS cF cZ cJ) s) {o : Nat} {i : Int32} (ho : kC n o = 3) (hd : decode cc pc = .ok (.aaload, 1)) (kk : inb i 12 → sk p l e R s m args below meth c D A nL cells slots Q (Wc cI cS cF ad n X v) (pc + 1) lv (.ref (ad (o + 5 + i.toNatClampNeg)) :: st) K) : sk p l e R s m args below meth c D A nL cells slots Q (Wc cI cS cF ad n X v) pc lv (.int i :: .ref (ad (o + 2)) :: st) (gd (inb i 12) K) :=
  sk_aald (g := fun j => o + 2 + 3 + j) F hK (Lc_mem (kC_fan ho) (by decide)) (shC_8 (kC_fan ho) _) 2 rfl hd kk
theorem sk_aldS (F : CallFix p m c cc nL s args Ts own) (hK : va_K D vwCl (ty5 cI cS cF cZ cJ) s) {o : Nat} {i : Int32} (ho : kC n o = 3) (hd : decode cc pc = .ok (.aaload, 1)) (kk : inb i n → sk p l e R s m args below meth c D A nL cells slots Q (Wc cI cS cF ad n X v) (pc + 1) lv (.ref (ad (o + 17 + i.toNatClampNeg)) :: st) K) : sk p l e R s m args below meth c D A nL cells slots Q (Wc cI cS cF ad n X v) pc lv (.int i :: .ref (ad (o + 1)) :: st) (gd (inb i n) K) :=
  sk_aald (g := fun j => o + 1 + 16 + j) F hK (Lc_mem (kC_sec ho) (by decide)) (shC_9 (kC_sec ho) _) 1 rfl hd kk
theorem sk_lenS (F : CallFix p m c cc nL s args Ts own) (hK : va_K D vwCl (ty5 cI cS cF cZ cJ) s) {o : Nat} (ho : kC n o = 3) (hd : decode cc pc = .ok (.arraylength, 1)) (kk : sk p l e R s m args below meth c D A nL cells slots Q (Wc cI cS cF ad n X v) (pc + 1) lv (.int (nI n) :: st) K) : sk p l e R s m args below meth c D A nL cells slots Q (Wc cI cS cF ad n X v) pc lv (.ref (ad (o + 1)) :: st) K :=
  sk_alen F hK (Lc_mem (kC_sec ho) (by decide)) (shC_9 (kC_sec ho) _) 1 rfl rfl hd kk
theorem sk_lenF (F : CallFix p m c cc nL s args Ts own) (hK : va_K D vwCl (ty5 cI cS cF cZ cJ) s) {o : Nat} (ho : kC n o = 3) (hd : decode cc pc = .ok (.arraylength, 1)) (kk : sk p l e R s m args below meth c D A nL cells slots Q (Wc cI cS cF ad n X v) (pc + 1) lv (.int 12 :: st) K) : sk p l e R s m args below meth c D A nL cells slots Q (Wc cI cS cF ad n X v) pc lv (.ref (ad (o + 2)) :: st) K :=
  sk_alen F hK (Lc_mem (kC_fan ho) (by decide)) (shC_8 (kC_fan ho) _) 2 rfl rfl hd kk
theorem sk_lenC (F : CallFix p m c cc nL s args Ts own) (hK : va_K D vwCl (ty5 cI cS cF cZ cJ) s) (hd : decode cc pc = .ok (.arraylength, 1)) (kk : sk p l e R s m args below meth c D A nL cells slots Q (Wc cI cS cF ad n X v) (pc + 1) lv (.int 10 :: st) K) : sk p l e R s m args below meth c D A nL cells slots Q (Wc cI cS cF ad n X v) pc lv (.ref (ad 1) :: st) K :=
  sk_alen F hK (Lc_mem (kC_1 n) (by decide)) (shC_6 (kC_1 n) _) 0 rfl rfl hd kk
theorem sk_aldC (F : CallFix p m c cc nL s args Ts own) (hK : va_K D vwCl (ty5 cI cS cF cZ cJ) s) {i : Int32} (hd : decode cc pc = .ok (.iaload, 1)) (kk : inb i 10 → sk p l e R s m args below meth c D A nL cells slots Q (Wc cI cS cF ad n X v) (pc + 1) lv (.int (v 1 i.toNatClampNeg) :: st) K) : sk p l e R s m args below meth c D A nL cells slots Q (Wc cI cS cF ad n X v) pc lv (.int i :: .ref (ad 1) :: st) (gd (inb i 10) K) :=
  sk_iald F hK (Lc_mem (kC_1 n) (by decide)) (shC_6 (kC_1 n) _) 0 rfl hd kk
theorem sk_astC (F : CallFix p m c cc nL s args Ts own) (hK : va_K D vwCl (ty5 cI cS cF cZ cJ) s) {i x : Int32} (hd : decode cc pc = .ok (.iastore, 1)) (kk : inb i 10 → sk p l e R s m args below meth c D A nL cells slots Q (Wc cI cS cF ad n X (up2 v 1 i.toNatClampNeg x)) (pc + 1) lv st K) : sk p l e R s m args below meth c D A nL cells slots Q (Wc cI cS cF ad n X v) pc lv (.int x :: .int i :: .ref (ad 1) :: st) (gd (inb i 10) K) :=
  sk_iast F hK (Lc_nd n) (Lc_mem (kC_1 n) (by decide)) (shC_6 (kC_1 n)) 0 rfl hd kk
theorem sk_g0 (F : CallFix p m c cc nL s args Ts own) (hK : va_K D vwCl (ty5 cI cS cF cZ cJ) s) {o index : Nat} {ref : String} {x : Value} (ho : kC n o = 0) (hin : ∀ w ∈ wsX00, w ∈ Ts) (k : Nat) (hk : k < 6) (hlink : Cond.fieldLink own index ref (TX0 k).2.1 (TX0 k).2.2.1 ∈ Ts) (hsame : ∀ x, s.fieldFound? (TX0 k).1 (TX0 k).2.1 (TX0 k).2.2.1 = some x → s.fieldFound? ref (TX0 k).2.1 (TX0 k).2.2.1 = some x) (hv : (fs0 ad o (v o))[k]? = some x) (hd : decode cc pc = .ok (.getfield index, 3)) (kk : sk p l e R s m args below meth c D A nL cells slots Q (Wc cI cS cF ad n X v) (pc + 3) lv (x :: st) K) : sk p l e R s m args below meth c D A nL cells slots Q (Wc cI cS cF ad n X v) pc lv (.ref (ad o) :: st) K :=
  sk_get F hK (Lc_mem ho (by decide)) (shC_0 ho _) rfl hin k hk hlink hsame hv hd kk
theorem sk_p0 (F : CallFix p m c cc nL s args Ts own) (hK : va_K D vwCl (ty5 cI cS cF cZ cJ) s) {o index : Nat} {ref : String} {x : Int32} {ty : FieldType} (ho : kC n o = 0) (hin : ∀ w ∈ wsX00, w ∈ Ts) (k : Nat) (hk : k < 6) (hlink : Cond.fieldLink own index ref (TX0 k).2.1 (TX0 k).2.2.1 ∈ Ts) (hsame : ∀ x, s.fieldFound? (TX0 k).1 (TX0 k).2.1 (TX0 k).2.2.1 = some x → s.fieldFound? ref (TX0 k).2.1 (TX0 k).2.2.1 = some x) (hfin : (TX0 k).2.2.2 = false) (hpd : parseFieldDescriptor (TX0 k).2.2.1 = some ty) (hn : narrow ty (.int x) = .int x) (hfit : fits ty (.int x) = true) (hset : (fs0 ad o (v o)).set k (.int x) = fs0 ad o (upd (v o) k x)) (hd : decode cc pc = .ok (.putfield index, 3)) (kk : sk p l e R s m args below meth c D A nL cells slots Q (Wc cI cS cF ad n X (up2 v o k x)) (pc + 3) lv st K) : sk p l e R s m args below meth c D A nL cells slots Q (Wc cI cS cF ad n X v) pc lv (.int x :: .ref (ad o) :: st) K :=
  sk_put F hK (Lc_nd n) (Lc_mem ho (by decide)) (shC_0 ho) rfl hin tyX0 tyX0_ok nmX0 k hk hlink hsame hfin hpd hn hfit hk hset hd kk
theorem sk_g1 (F : CallFix p m c cc nL s args Ts own) (hK : va_K D vwCl (ty5 cI cS cF cZ cJ) s) {o index : Nat} {ref : String} {x : Value} (ho : kC n o = 1) (hin : ∀ w ∈ wsX10, w ∈ Ts) (k : Nat) (hk : k < 9) (hlink : Cond.fieldLink own index ref (TX1 k).2.1 (TX1 k).2.2.1 ∈ Ts) (hsame : ∀ x, s.fieldFound? (TX1 k).1 (TX1 k).2.1 (TX1 k).2.2.1 = some x → s.fieldFound? ref (TX1 k).2.1 (TX1 k).2.2.1 = some x) (hv : (fs1 ad o (v o))[k]? = some x) (hd : decode cc pc = .ok (.getfield index, 3)) (kk : sk p l e R s m args below meth c D A nL cells slots Q (Wc cI cS cF ad n X v) (pc + 3) lv (x :: st) K) : sk p l e R s m args below meth c D A nL cells slots Q (Wc cI cS cF ad n X v) pc lv (.ref (ad o) :: st) K :=
  sk_get F hK (Lc_mem ho (by decide)) (shC_1 ho _) rfl hin k hk hlink hsame hv hd kk
theorem sk_p1 (F : CallFix p m c cc nL s args Ts own) (hK : va_K D vwCl (ty5 cI cS cF cZ cJ) s) {o index : Nat} {ref : String} {x : Int32} {ty : FieldType} (ho : kC n o = 1) (hin : ∀ w ∈ wsX10, w ∈ Ts) (k : Nat) (hk : k < 9) (hlink : Cond.fieldLink own index ref (TX1 k).2.1 (TX1 k).2.2.1 ∈ Ts) (hsame : ∀ x, s.fieldFound? (TX1 k).1 (TX1 k).2.1 (TX1 k).2.2.1 = some x → s.fieldFound? ref (TX1 k).2.1 (TX1 k).2.2.1 = some x) (hfin : (TX1 k).2.2.2 = false) (hpd : parseFieldDescriptor (TX1 k).2.2.1 = some ty) (hn : narrow ty (.int x) = .int x) (hfit : fits ty (.int x) = true) (hset : (fs1 ad o (v o)).set k (.int x) = fs1 ad o (upd (v o) k x)) (hd : decode cc pc = .ok (.putfield index, 3)) (kk : sk p l e R s m args below meth c D A nL cells slots Q (Wc cI cS cF ad n X (up2 v o k x)) (pc + 3) lv st K) : sk p l e R s m args below meth c D A nL cells slots Q (Wc cI cS cF ad n X v) pc lv (.int x :: .ref (ad o) :: st) K :=
  sk_put F hK (Lc_nd n) (Lc_mem ho (by decide)) (shC_1 ho) rfl hin tyX1 tyX1_ok nmX1 k hk hlink hsame hfin hpd hn hfit hk hset hd kk
theorem sk_g2 (F : CallFix p m c cc nL s args Ts own) (hK : va_K D vwCl (ty5 cI cS cF cZ cJ) s) {o index : Nat} {ref : String} {x : Value} (ho : kC n o = 2) (hin : ∀ w ∈ wsX20, w ∈ Ts) (k : Nat) (hk : k < 8) (hlink : Cond.fieldLink own index ref (TX2 k).2.1 (TX2 k).2.2.1 ∈ Ts) (hsame : ∀ x, s.fieldFound? (TX2 k).1 (TX2 k).2.1 (TX2 k).2.2.1 = some x → s.fieldFound? ref (TX2 k).2.1 (TX2 k).2.2.1 = some x) (hv : (fs2 ad o (v o))[k]? = some x) (hd : decode cc pc = .ok (.getfield index, 3)) (kk : sk p l e R s m args below meth c D A nL cells slots Q (Wc cI cS cF ad n X v) (pc + 3) lv (x :: st) K) : sk p l e R s m args below meth c D A nL cells slots Q (Wc cI cS cF ad n X v) pc lv (.ref (ad o) :: st) K :=
  sk_get F hK (Lc_mem ho (by decide)) (shC_2 ho _) rfl hin k hk hlink hsame hv hd kk
theorem sk_p2 (F : CallFix p m c cc nL s args Ts own) (hK : va_K D vwCl (ty5 cI cS cF cZ cJ) s) {o index : Nat} {ref : String} {x : Int32} {ty : FieldType} (ho : kC n o = 2) (hin : ∀ w ∈ wsX20, w ∈ Ts) (k : Nat) (hk : k < 8) (hlink : Cond.fieldLink own index ref (TX2 k).2.1 (TX2 k).2.2.1 ∈ Ts) (hsame : ∀ x, s.fieldFound? (TX2 k).1 (TX2 k).2.1 (TX2 k).2.2.1 = some x → s.fieldFound? ref (TX2 k).2.1 (TX2 k).2.2.1 = some x) (hfin : (TX2 k).2.2.2 = false) (hpd : parseFieldDescriptor (TX2 k).2.2.1 = some ty) (hn : narrow ty (.int x) = .int x) (hfit : fits ty (.int x) = true) (hset : (fs2 ad o (v o)).set k (.int x) = fs2 ad o (upd (v o) k x)) (hd : decode cc pc = .ok (.putfield index, 3)) (kk : sk p l e R s m args below meth c D A nL cells slots Q (Wc cI cS cF ad n X (up2 v o k x)) (pc + 3) lv st K) : sk p l e R s m args below meth c D A nL cells slots Q (Wc cI cS cF ad n X v) pc lv (.int x :: .ref (ad o) :: st) K :=
  sk_put F hK (Lc_nd n) (Lc_mem ho (by decide)) (shC_2 ho) rfl hin tyX2 tyX2_ok nmX2 k hk hlink hsame hfin hpd hn hfit hk hset hd kk
theorem sk_g3 (F : CallFix p m c cc nL s args Ts own) (hK : va_K D vwCl (ty5 cI cS cF cZ cJ) s) {o index : Nat} {ref : String} {x : Value} (ho : kC n o = 3) (hin : ∀ w ∈ wsX30, w ∈ Ts) (k : Nat) (hk : k < 12) (hlink : Cond.fieldLink own index ref (TX3 k).2.1 (TX3 k).2.2.1 ∈ Ts) (hsame : ∀ x, s.fieldFound? (TX3 k).1 (TX3 k).2.1 (TX3 k).2.2.1 = some x → s.fieldFound? ref (TX3 k).2.1 (TX3 k).2.2.1 = some x) (hv : (fs3 ad o (v o))[k]? = some x) (hd : decode cc pc = .ok (.getfield index, 3)) (kk : sk p l e R s m args below meth c D A nL cells slots Q (Wc cI cS cF ad n X v) (pc + 3) lv (x :: st) K) : sk p l e R s m args below meth c D A nL cells slots Q (Wc cI cS cF ad n X v) pc lv (.ref (ad o) :: st) K :=
  sk_get F hK (Lc_mem ho (by decide)) (shC_3 ho _) rfl hin k hk hlink hsame hv hd kk
theorem sk_p3 (F : CallFix p m c cc nL s args Ts own) (hK : va_K D vwCl (ty5 cI cS cF cZ cJ) s) {o index : Nat} {ref : String} {x : Int32} {ty : FieldType} (ho : kC n o = 3) (hin : ∀ w ∈ wsX30, w ∈ Ts) (k : Nat) (hk : k < 12) (hlink : Cond.fieldLink own index ref (TX3 k).2.1 (TX3 k).2.2.1 ∈ Ts) (hsame : ∀ x, s.fieldFound? (TX3 k).1 (TX3 k).2.1 (TX3 k).2.2.1 = some x → s.fieldFound? ref (TX3 k).2.1 (TX3 k).2.2.1 = some x) (hfin : (TX3 k).2.2.2 = false) (hpd : parseFieldDescriptor (TX3 k).2.2.1 = some ty) (hn : narrow ty (.int x) = .int x) (hfit : fits ty (.int x) = true) (hset : (fs3 ad o (v o)).set k (.int x) = fs3 ad o (upd (v o) k x)) (hd : decode cc pc = .ok (.putfield index, 3)) (kk : sk p l e R s m args below meth c D A nL cells slots Q (Wc cI cS cF ad n X (up2 v o k x)) (pc + 3) lv st K) : sk p l e R s m args below meth c D A nL cells slots Q (Wc cI cS cF ad n X v) pc lv (.int x :: .ref (ad o) :: st) K :=
  sk_put F hK (Lc_nd n) (Lc_mem ho (by decide)) (shC_3 ho) rfl hin tyX3 tyX3_ok nmX3 k hk hlink hsame hfin hpd hn hfit hk hset hd kk
theorem sk_g4 (F : CallFix p m c cc nL s args Ts own) (hK : va_K D vwCl (ty5 cI cS cF cZ cJ) s) {o index : Nat} {ref : String} {x : Value} (ho : kC n o = 4) (hin : ∀ w ∈ wsX40, w ∈ Ts) (k : Nat) (hk : k < 9) (hlink : Cond.fieldLink own index ref (TX4 k).2.1 (TX4 k).2.2.1 ∈ Ts) (hsame : ∀ x, s.fieldFound? (TX4 k).1 (TX4 k).2.1 (TX4 k).2.2.1 = some x → s.fieldFound? ref (TX4 k).2.1 (TX4 k).2.2.1 = some x) (hv : (fs4 ad o (v o))[k]? = some x) (hd : decode cc pc = .ok (.getfield index, 3)) (kk : sk p l e R s m args below meth c D A nL cells slots Q (Wc cI cS cF ad n X v) (pc + 3) lv (x :: st) K) : sk p l e R s m args below meth c D A nL cells slots Q (Wc cI cS cF ad n X v) pc lv (.ref (ad o) :: st) K :=
  sk_get F hK (Lc_mem ho (by decide)) (shC_4 ho _) rfl hin k hk hlink hsame hv hd kk
theorem sk_p4 (F : CallFix p m c cc nL s args Ts own) (hK : va_K D vwCl (ty5 cI cS cF cZ cJ) s) {o index : Nat} {ref : String} {x : Int32} {ty : FieldType} (ho : kC n o = 4) (hin : ∀ w ∈ wsX40, w ∈ Ts) (k : Nat) (hk : k < 9) (hlink : Cond.fieldLink own index ref (TX4 k).2.1 (TX4 k).2.2.1 ∈ Ts) (hsame : ∀ x, s.fieldFound? (TX4 k).1 (TX4 k).2.1 (TX4 k).2.2.1 = some x → s.fieldFound? ref (TX4 k).2.1 (TX4 k).2.2.1 = some x) (hfin : (TX4 k).2.2.2 = false) (hpd : parseFieldDescriptor (TX4 k).2.2.1 = some ty) (hn : narrow ty (.int x) = .int x) (hfit : fits ty (.int x) = true) (hset : (fs4 ad o (v o)).set k (.int x) = fs4 ad o (upd (v o) k x)) (hd : decode cc pc = .ok (.putfield index, 3)) (kk : sk p l e R s m args below meth c D A nL cells slots Q (Wc cI cS cF ad n X (up2 v o k x)) (pc + 3) lv st K) : sk p l e R s m args below meth c D A nL cells slots Q (Wc cI cS cF ad n X v) pc lv (.int x :: .ref (ad o) :: st) K :=
  sk_put F hK (Lc_nd n) (Lc_mem ho (by decide)) (shC_4 ho) rfl hin tyX4 tyX4_ok nmX4 k hk hlink hsame hfin hpd hn hfit hk hset hd kk
theorem sk_gD (F : CallFix p m c cc nL s args Ts own) (hK : va_K D vwCl (ty5 cI cS cF cZ cJ) s) {o index : Nat} {x : Int32} (ho : kC n o = 0 ∨ kC n o = 1) (hin0 : ∀ w ∈ wsX00, w ∈ Ts) (hin1 : ∀ w ∈ wsX10, w ∈ Ts) (k : Nat) (hk : k < 6) (hlink : Cond.fieldLink own index "TunnelWatch$Device" (TX0 k).2.1 (TX0 k).2.2.1 ∈ Ts) (hv0 : (fs0 ad o (v o))[k]? = some (.int x)) (hv1 : (fs1 ad o (v o))[k]? = some (.int x)) (h01 : TX1 k = TX0 k) (hde : (TX0 k).1 = "TunnelWatch$Device") (hd : decode cc pc = .ok (.getfield index, 3)) (kk : sk p l e R s m args below meth c D A nL cells slots Q (Wc cI cS cF ad n X v) (pc + 3) lv (.int x :: st) K) : sk p l e R s m args below meth c D A nL cells slots Q (Wc cI cS cF ad n X v) pc lv (.ref (ad o) :: st) K := by
  rcases ho with ho | ho
  · exact sk_g0 F hK ho hin0 k hk hlink (fun x h => by rw [hde] at h; exact h) hv0 hd kk
  · exact sk_g1 F hK ho hin1 k (by omega) (by rw [h01]; exact hlink) (fun x h => by rw [h01, hde] at h; rw [h01]; exact h) hv1 hd kk
theorem sk_pD (F : CallFix p m c cc nL s args Ts own) (hK : va_K D vwCl (ty5 cI cS cF cZ cJ) s) {o index : Nat} {x : Int32} {ty : FieldType} (ho : kC n o = 0 ∨ kC n o = 1) (hin0 : ∀ w ∈ wsX00, w ∈ Ts) (hin1 : ∀ w ∈ wsX10, w ∈ Ts) (k : Nat) (hk : k < 6) (hlink : Cond.fieldLink own index "TunnelWatch$Device" (TX0 k).2.1 (TX0 k).2.2.1 ∈ Ts) (hfin : (TX0 k).2.2.2 = false) (hpd : parseFieldDescriptor (TX0 k).2.2.1 = some ty) (hn : narrow ty (.int x) = .int x) (hfit : fits ty (.int x) = true) (hs0 : (fs0 ad o (v o)).set k (.int x) = fs0 ad o (upd (v o) k x)) (hs1 : (fs1 ad o (v o)).set k (.int x) = fs1 ad o (upd (v o) k x)) (h01 : TX1 k = TX0 k) (hde : (TX0 k).1 = "TunnelWatch$Device") (hd : decode cc pc = .ok (.putfield index, 3)) (kk : sk p l e R s m args below meth c D A nL cells slots Q (Wc cI cS cF ad n X (up2 v o k x)) (pc + 3) lv st K) : sk p l e R s m args below meth c D A nL cells slots Q (Wc cI cS cF ad n X v) pc lv (.int x :: .ref (ad o) :: st) K := by
  rcases ho with ho | ho
  · exact sk_p0 F hK ho hin0 k hk hlink (fun x h => by rw [hde] at h; exact h) hfin hpd hn hfit hs0 hd kk
  · exact sk_p1 F hK ho hin1 k (by omega) (by rw [h01]; exact hlink) (fun x h => by rw [h01, hde] at h; rw [h01]; exact h) (by rw [h01]; exact hfin) (by rw [h01]; exact hpd) hn hfit hs1 hd kk
theorem rc0 (hK : va_K D vwCl (ty5 cI cS cF cZ cJ) s) {o : Nat} (ho : kC n o = 0) : ∀ H : Heap, va_P D vwCl (Wc cI cS cF ad n X v) H → ∃ cell : Cell, H[ad o]? = some cell ∧ cell.vm.isStatics = false ∧ s.vm.findClass RX0 = some cell.cls := fun H hP => ow_recv hK hP rfl (Lc_mem ho (by decide)) (shC_0 ho _)
theorem rc1 (hK : va_K D vwCl (ty5 cI cS cF cZ cJ) s) {o : Nat} (ho : kC n o = 1) : ∀ H : Heap, va_P D vwCl (Wc cI cS cF ad n X v) H → ∃ cell : Cell, H[ad o]? = some cell ∧ cell.vm.isStatics = false ∧ s.vm.findClass RX1 = some cell.cls := fun H hP => ow_recv hK hP rfl (Lc_mem ho (by decide)) (shC_1 ho _)
theorem rc2 (hK : va_K D vwCl (ty5 cI cS cF cZ cJ) s) {o : Nat} (ho : kC n o = 2) : ∀ H : Heap, va_P D vwCl (Wc cI cS cF ad n X v) H → ∃ cell : Cell, H[ad o]? = some cell ∧ cell.vm.isStatics = false ∧ s.vm.findClass RX2 = some cell.cls := fun H hP => ow_recv hK hP rfl (Lc_mem ho (by decide)) (shC_2 ho _)
theorem rc3 (hK : va_K D vwCl (ty5 cI cS cF cZ cJ) s) {o : Nat} (ho : kC n o = 3) : ∀ H : Heap, va_P D vwCl (Wc cI cS cF ad n X v) H → ∃ cell : Cell, H[ad o]? = some cell ∧ cell.vm.isStatics = false ∧ s.vm.findClass RX3 = some cell.cls := fun H hP => ow_recv hK hP rfl (Lc_mem ho (by decide)) (shC_3 ho _)
theorem rc4 (hK : va_K D vwCl (ty5 cI cS cF cZ cJ) s) {o : Nat} (ho : kC n o = 4) : ∀ H : Heap, va_P D vwCl (Wc cI cS cF ad n X v) H → ∃ cell : Cell, H[ad o]? = some cell ∧ cell.vm.isStatics = false ∧ s.vm.findClass RX4 = some cell.cls := fun H hP => ow_recv hK hP rfl (Lc_mem ho (by decide)) (shC_4 ho _)
end SKH
end
section
def wsX0_init : List Cond := .code yX0_init cX0_init 1 none :: ([.methodLink RX0 1 objectInit, .instanceMethod objectInit, .code objectInit ⟨#[0xb1]⟩ 1 none, .fieldLink RX0 7 "TunnelWatch$Device" "lagTicks" "I"] ++ wsX00 ++ wsX10)
def wsX0_send : List Cond := .code yX0_send cX0_send 3 none :: ([.fieldLink RX0 13 "TunnelWatch$Device" "command" "I", .fieldLink RX0 16 "TunnelWatch$Device" "sentTick" "I"] ++ wsX00 ++ wsX10)
def wsX0_act : List Cond := .code yX0_act cX0_act 2 none :: ([.fieldLink RX0 19 "TunnelWatch$Device" "failed" "Z", .fieldLink RX0 16 "TunnelWatch$Device" "sentTick" "I", .fieldLink RX0 7 "TunnelWatch$Device" "lagTicks" "I", .fieldLink RX0 13 "TunnelWatch$Device" "command" "I", .fieldLink RX0 23 "TunnelWatch$Device" "actual" "I"] ++ wsX00 ++ wsX10)
def wsX0_repair : List Cond := .code yX0_repair cX0_repair 2 (some .boolean) :: ([.fieldLink RX0 19 "TunnelWatch$Device" "failed" "Z", .fieldLink RX0 26 "TunnelWatch$Device" "out" "Z", .fieldLink RX0 13 "TunnelWatch$Device" "command" "I", .fieldLink RX0 23 "TunnelWatch$Device" "actual" "I"] ++ wsX00 ++ wsX10)
theorem dX0_init_0 : decode cX0_init 0 = .ok (.aload_n 0, 1) := by decide +kernel
theorem dX0_init_1 : decode cX0_init 1 = .ok (.invokespecial 1, 3) := by decide +kernel
theorem dX0_init_4 : decode cX0_init 4 = .ok (.aload_n 0, 1) := by decide +kernel
theorem dX0_init_5 : decode cX0_init 5 = .ok (.iconst 1, 1) := by decide +kernel
theorem dX0_init_6 : decode cX0_init 6 = .ok (.putfield 7, 3) := by decide +kernel
theorem dX0_init_9 : decode cX0_init 9 = .ok (.return_, 1) := by decide +kernel
theorem dX0_send_0 : decode cX0_send 0 = .ok (.aload_n 0, 1) := by decide +kernel
theorem dX0_send_1 : decode cX0_send 1 = .ok (.getfield 13, 3) := by decide +kernel
theorem dX0_send_4 : decode cX0_send 4 = .ok (.iload_n 1, 1) := by decide +kernel
theorem dX0_send_5 : decode cX0_send 5 = .ok (.if_icmp .eq 13, 3) := by decide +kernel
theorem dX0_send_8 : decode cX0_send 8 = .ok (.aload_n 0, 1) := by decide +kernel
theorem dX0_send_9 : decode cX0_send 9 = .ok (.iload_n 1, 1) := by decide +kernel
theorem dX0_send_10 : decode cX0_send 10 = .ok (.putfield 13, 3) := by decide +kernel
theorem dX0_send_13 : decode cX0_send 13 = .ok (.aload_n 0, 1) := by decide +kernel
theorem dX0_send_14 : decode cX0_send 14 = .ok (.iload_n 2, 1) := by decide +kernel
theorem dX0_send_15 : decode cX0_send 15 = .ok (.putfield 16, 3) := by decide +kernel
theorem dX0_send_18 : decode cX0_send 18 = .ok (.return_, 1) := by decide +kernel
theorem dX0_act_0 : decode cX0_act 0 = .ok (.aload_n 0, 1) := by decide +kernel
theorem dX0_act_1 : decode cX0_act 1 = .ok (.getfield 19, 3) := by decide +kernel
theorem dX0_act_4 : decode cX0_act 4 = .ok (.ifCond .ne 24, 3) := by decide +kernel
theorem dX0_act_7 : decode cX0_act 7 = .ok (.iload_n 1, 1) := by decide +kernel
theorem dX0_act_8 : decode cX0_act 8 = .ok (.aload_n 0, 1) := by decide +kernel
theorem dX0_act_9 : decode cX0_act 9 = .ok (.getfield 16, 3) := by decide +kernel
theorem dX0_act_12 : decode cX0_act 12 = .ok (.isub, 1) := by decide +kernel
theorem dX0_act_13 : decode cX0_act 13 = .ok (.aload_n 0, 1) := by decide +kernel
theorem dX0_act_14 : decode cX0_act 14 = .ok (.getfield 7, 3) := by decide +kernel
theorem dX0_act_17 : decode cX0_act 17 = .ok (.if_icmp .lt 11, 3) := by decide +kernel
theorem dX0_act_20 : decode cX0_act 20 = .ok (.aload_n 0, 1) := by decide +kernel
theorem dX0_act_21 : decode cX0_act 21 = .ok (.aload_n 0, 1) := by decide +kernel
theorem dX0_act_22 : decode cX0_act 22 = .ok (.getfield 13, 3) := by decide +kernel
theorem dX0_act_25 : decode cX0_act 25 = .ok (.putfield 23, 3) := by decide +kernel
theorem dX0_act_28 : decode cX0_act 28 = .ok (.return_, 1) := by decide +kernel
theorem dX0_repair_0 : decode cX0_repair 0 = .ok (.aload_n 0, 1) := by decide +kernel
theorem dX0_repair_1 : decode cX0_repair 1 = .ok (.getfield 19, 3) := by decide +kernel
theorem dX0_repair_4 : decode cX0_repair 4 = .ok (.ifCond .ne 10, 3) := by decide +kernel
theorem dX0_repair_7 : decode cX0_repair 7 = .ok (.aload_n 0, 1) := by decide +kernel
theorem dX0_repair_8 : decode cX0_repair 8 = .ok (.getfield 26, 3) := by decide +kernel
theorem dX0_repair_11 : decode cX0_repair 11 = .ok (.ifCond .eq 7, 3) := by decide +kernel
theorem dX0_repair_14 : decode cX0_repair 14 = .ok (.iconst 1, 1) := by decide +kernel
theorem dX0_repair_15 : decode cX0_repair 15 = .ok (.goto 4, 3) := by decide +kernel
theorem dX0_repair_18 : decode cX0_repair 18 = .ok (.iconst 0, 1) := by decide +kernel
theorem dX0_repair_19 : decode cX0_repair 19 = .ok (.istore_n 1, 1) := by decide +kernel
theorem dX0_repair_20 : decode cX0_repair 20 = .ok (.aload_n 0, 1) := by decide +kernel
theorem dX0_repair_21 : decode cX0_repair 21 = .ok (.iconst 0, 1) := by decide +kernel
theorem dX0_repair_22 : decode cX0_repair 22 = .ok (.putfield 19, 3) := by decide +kernel
theorem dX0_repair_25 : decode cX0_repair 25 = .ok (.aload_n 0, 1) := by decide +kernel
theorem dX0_repair_26 : decode cX0_repair 26 = .ok (.iconst 0, 1) := by decide +kernel
theorem dX0_repair_27 : decode cX0_repair 27 = .ok (.putfield 26, 3) := by decide +kernel
theorem dX0_repair_30 : decode cX0_repair 30 = .ok (.aload_n 0, 1) := by decide +kernel
theorem dX0_repair_31 : decode cX0_repair 31 = .ok (.aload_n 0, 1) := by decide +kernel
theorem dX0_repair_32 : decode cX0_repair 32 = .ok (.getfield 13, 3) := by decide +kernel
theorem dX0_repair_35 : decode cX0_repair 35 = .ok (.putfield 23, 3) := by decide +kernel
theorem dX0_repair_38 : decode cX0_repair 38 = .ok (.iload_n 1, 1) := by decide +kernel
theorem dX0_repair_39 : decode cX0_repair 39 = .ok (.ireturn, 1) := by decide +kernel
end
section
def wsX1_init : List Cond := .code yX1_init cX1_init 1 none :: ([.instanceMethod yX0_init, .initialized RX0, .code yX0_init cX0_init 1 none, .methodLink RX0 1 objectInit, .instanceMethod objectInit, .code objectInit ⟨#[0xb1]⟩ 1 none, .fieldLink RX0 7 "TunnelWatch$Device" "lagTicks" "I"] ++ wsX00 ++ wsX10)
def wsX1_blow : List Cond := .code yX1_blow cX1_blow 3 none :: ([.fieldLink RX1 15 "TunnelWatch$Fan" "lastDirection" "I", .methodLink RX1 9 ⟨"TunnelWatch$Fan", "send", "(II)V"⟩, .sameMethod "TunnelWatch$Fan" "TunnelWatch$Device" "send" "(II)V", .selects RX1 ⟨"TunnelWatch$Fan", "send", "(II)V"⟩ yX0_send, .instanceMethod yX0_send, .initialized RX0, .code yX0_send cX0_send 3 none, .fieldLink RX0 13 "TunnelWatch$Device" "command" "I", .fieldLink RX0 16 "TunnelWatch$Device" "sentTick" "I"] ++ wsX10 ++ wsX00)
def wsX1_stand : List Cond := .code yX1_stand cX1_stand 2 none :: ([.methodLink RX1 9 ⟨"TunnelWatch$Fan", "send", "(II)V"⟩, .sameMethod "TunnelWatch$Fan" "TunnelWatch$Device" "send" "(II)V", .selects RX1 ⟨"TunnelWatch$Fan", "send", "(II)V"⟩ yX0_send, .instanceMethod yX0_send, .initialized RX0, .code yX0_send cX0_send 3 none, .fieldLink RX0 13 "TunnelWatch$Device" "command" "I", .fieldLink RX0 16 "TunnelWatch$Device" "sentTick" "I"] ++ wsX00 ++ wsX10)
def wsX1_judgeOut : List Cond := .code yX1_judgeOut cX1_judgeOut 2 none :: ([.fieldLink RX1 19 "TunnelWatch$Fan" "actual" "I", .sameField "TunnelWatch$Fan" "TunnelWatch$Device" "actual" "I", .fieldLink RX1 22 "TunnelWatch$Fan" "command" "I", .sameField "TunnelWatch$Fan" "TunnelWatch$Device" "command" "I", .fieldLink RX1 25 "TunnelWatch$Fan" "sentTick" "I", .sameField "TunnelWatch$Fan" "TunnelWatch$Device" "sentTick" "I", .fieldLink RX1 28 "TunnelWatch$Fan" "out" "Z", .sameField "TunnelWatch$Fan" "TunnelWatch$Device" "out" "Z", .methodLink RX1 32 yX1_stand, .instanceMethod yX1_stand, .selects RX1 yX1_stand yX1_stand, .initialized RX1, .code yX1_stand cX1_stand 2 none, .methodLink RX1 9 ⟨"TunnelWatch$Fan", "send", "(II)V"⟩, .sameMethod "TunnelWatch$Fan" "TunnelWatch$Device" "send" "(II)V", .selects RX1 ⟨"TunnelWatch$Fan", "send", "(II)V"⟩ yX0_send, .instanceMethod yX0_send, .initialized RX0, .code yX0_send cX0_send 3 none, .fieldLink RX0 13 "TunnelWatch$Device" "command" "I", .fieldLink RX0 16 "TunnelWatch$Device" "sentTick" "I"] ++ wsX00 ++ wsX10)
def wsX1_drawnKw : List Cond := .code yX1_drawnKw cX1_drawnKw 2 (some .int) :: ([.fieldLink RX1 22 "TunnelWatch$Fan" "command" "I", .sameField "TunnelWatch$Fan" "TunnelWatch$Device" "command" "I", .fieldLink RX1 25 "TunnelWatch$Fan" "sentTick" "I", .sameField "TunnelWatch$Fan" "TunnelWatch$Device" "sentTick" "I", .fieldLink RX1 36 "TunnelWatch$Fan" "kw" "I"] ++ wsX00 ++ wsX10)
def wsX1_restLeft : List Cond := .code yX1_restLeft cX1_restLeft 4 (some .int) :: ([.fieldLink RX1 15 "TunnelWatch$Fan" "lastDirection" "I", .fieldLink RX1 22 "TunnelWatch$Fan" "command" "I", .sameField "TunnelWatch$Fan" "TunnelWatch$Device" "command" "I", .fieldLink RX1 25 "TunnelWatch$Fan" "sentTick" "I", .sameField "TunnelWatch$Fan" "TunnelWatch$Device" "sentTick" "I"] ++ wsX10 ++ wsX00)
def wsX1_hasRested : List Cond := .code yX1_hasRested cX1_hasRested 4 (some .boolean) :: ([.fieldLink RX1 15 "TunnelWatch$Fan" "lastDirection" "I", .methodLink RX1 39 yX1_restLeft, .instanceMethod yX1_restLeft, .selects RX1 yX1_restLeft yX1_restLeft, .initialized RX1, .code yX1_restLeft cX1_restLeft 4 (some .int), .fieldLink RX1 22 "TunnelWatch$Fan" "command" "I", .sameField "TunnelWatch$Fan" "TunnelWatch$Device" "command" "I", .fieldLink RX1 25 "TunnelWatch$Fan" "sentTick" "I", .sameField "TunnelWatch$Fan" "TunnelWatch$Device" "sentTick" "I"] ++ wsX10 ++ wsX00)
set_option maxRecDepth 20000 in
theorem ggX1_init_X0_init : GoodIn wsX1_init wsX0_init := goodIn_r _ [3, 4, 5, 6, 7, 8, 9, 10, 11, 12, 13, 14, 15, 16, 17, 18, 19, 20, 21, 22] (by decide +kernel) (by decide +kernel)
set_option maxRecDepth 20000 in
theorem gX1_init_X0_init_n3 : GoodIn wsX1_init (wsX0_init) := ggX1_init_X0_init
theorem dX1_init_0 : decode cX1_init 0 = .ok (.aload_n 0, 1) := by decide +kernel
theorem dX1_init_1 : decode cX1_init 1 = .ok (.invokespecial 3, 3) := by decide +kernel
theorem dX1_init_4 : decode cX1_init 4 = .ok (.return_, 1) := by decide +kernel
set_option maxRecDepth 20000 in
theorem ggX1_blow_X0_send : GoodIn wsX1_blow wsX0_send := goodIn_r _ [7, 8, 9, 19, 20, 21, 22, 23, 24, 10, 11, 12, 13, 14, 15, 16, 17, 18] (by decide +kernel) (by decide +kernel)
set_option maxRecDepth 20000 in
theorem gX1_blow_X0_send_u9X1 : GoodIn wsX1_blow (va_wsU RX1 9 RX1 "TunnelWatch$Device" ⟨"TunnelWatch$Fan", "send", "(II)V"⟩ yX0_send wsX0_send) := goodIn_app (goodIn_of _ (by decide +kernel)) ggX1_blow_X0_send
theorem dX1_blow_0 : decode cX1_blow 0 = .ok (.aload_n 0, 1) := by decide +kernel
theorem dX1_blow_1 : decode cX1_blow 1 = .ok (.iload_n 1, 1) := by decide +kernel
theorem dX1_blow_2 : decode cX1_blow 2 = .ok (.iload_n 2, 1) := by decide +kernel
theorem dX1_blow_3 : decode cX1_blow 3 = .ok (.invokevirtual 9, 3) := by decide +kernel
theorem dX1_blow_6 : decode cX1_blow 6 = .ok (.aload_n 0, 1) := by decide +kernel
theorem dX1_blow_7 : decode cX1_blow 7 = .ok (.iload_n 1, 1) := by decide +kernel
theorem dX1_blow_8 : decode cX1_blow 8 = .ok (.putfield 15, 3) := by decide +kernel
theorem dX1_blow_11 : decode cX1_blow 11 = .ok (.return_, 1) := by decide +kernel
set_option maxRecDepth 20000 in
theorem ggX1_stand_X0_send : GoodIn wsX1_stand wsX0_send := goodIn_r _ [6, 7, 8, 9, 10, 11, 12, 13, 14, 15, 16, 17, 18, 19, 20, 21, 22, 23] (by decide +kernel) (by decide +kernel)
set_option maxRecDepth 20000 in
theorem gX1_stand_X0_send_u9X1 : GoodIn wsX1_stand (va_wsU RX1 9 RX1 "TunnelWatch$Device" ⟨"TunnelWatch$Fan", "send", "(II)V"⟩ yX0_send wsX0_send) := goodIn_app (goodIn_of _ (by decide +kernel)) ggX1_stand_X0_send
theorem dX1_stand_0 : decode cX1_stand 0 = .ok (.aload_n 0, 1) := by decide +kernel
theorem dX1_stand_1 : decode cX1_stand 1 = .ok (.iconst 0, 1) := by decide +kernel
theorem dX1_stand_2 : decode cX1_stand 2 = .ok (.iload_n 1, 1) := by decide +kernel
theorem dX1_stand_3 : decode cX1_stand 3 = .ok (.invokevirtual 9, 3) := by decide +kernel
theorem dX1_stand_6 : decode cX1_stand 6 = .ok (.return_, 1) := by decide +kernel
set_option maxRecDepth 20000 in
theorem ggX1_judgeOut_X1_stand : GoodIn wsX1_judgeOut wsX1_stand := goodIn_r _ [13, 14, 15, 16, 17, 18, 19, 20, 21, 22, 23, 24, 25, 26, 27, 28, 29, 30, 31, 32, 33, 34, 35, 36] (by decide +kernel) (by decide +kernel)
set_option maxRecDepth 20000 in
theorem gX1_judgeOut_X1_stand : GoodIn wsX1_judgeOut (wsV RX1 32 RX1 yX1_stand wsX1_stand) := goodIn_app (goodIn_of _ (by decide +kernel)) ggX1_judgeOut_X1_stand
theorem dX1_judgeOut_0 : decode cX1_judgeOut 0 = .ok (.aload_n 0, 1) := by decide +kernel
theorem dX1_judgeOut_1 : decode cX1_judgeOut 1 = .ok (.getfield 19, 3) := by decide +kernel
theorem dX1_judgeOut_4 : decode cX1_judgeOut 4 = .ok (.aload_n 0, 1) := by decide +kernel
theorem dX1_judgeOut_5 : decode cX1_judgeOut 5 = .ok (.getfield 22, 3) := by decide +kernel
theorem dX1_judgeOut_8 : decode cX1_judgeOut 8 = .ok (.if_icmp .eq 24, 3) := by decide +kernel
theorem dX1_judgeOut_11 : decode cX1_judgeOut 11 = .ok (.iload_n 1, 1) := by decide +kernel
theorem dX1_judgeOut_12 : decode cX1_judgeOut 12 = .ok (.aload_n 0, 1) := by decide +kernel
theorem dX1_judgeOut_13 : decode cX1_judgeOut 13 = .ok (.getfield 25, 3) := by decide +kernel
theorem dX1_judgeOut_16 : decode cX1_judgeOut 16 = .ok (.isub, 1) := by decide +kernel
theorem dX1_judgeOut_17 : decode cX1_judgeOut 17 = .ok (.bipush 10, 2) := by decide +kernel
theorem dX1_judgeOut_19 : decode cX1_judgeOut 19 = .ok (.if_icmp .lt 13, 3) := by decide +kernel
theorem dX1_judgeOut_22 : decode cX1_judgeOut 22 = .ok (.aload_n 0, 1) := by decide +kernel
theorem dX1_judgeOut_23 : decode cX1_judgeOut 23 = .ok (.iconst 1, 1) := by decide +kernel
theorem dX1_judgeOut_24 : decode cX1_judgeOut 24 = .ok (.putfield 28, 3) := by decide +kernel
theorem dX1_judgeOut_27 : decode cX1_judgeOut 27 = .ok (.aload_n 0, 1) := by decide +kernel
theorem dX1_judgeOut_28 : decode cX1_judgeOut 28 = .ok (.iload_n 1, 1) := by decide +kernel
theorem dX1_judgeOut_29 : decode cX1_judgeOut 29 = .ok (.invokevirtual 32, 3) := by decide +kernel
theorem dX1_judgeOut_32 : decode cX1_judgeOut 32 = .ok (.return_, 1) := by decide +kernel
theorem dX1_drawnKw_0 : decode cX1_drawnKw 0 = .ok (.aload_n 0, 1) := by decide +kernel
theorem dX1_drawnKw_1 : decode cX1_drawnKw 1 = .ok (.getfield 22, 3) := by decide +kernel
theorem dX1_drawnKw_4 : decode cX1_drawnKw 4 = .ok (.ifCond .ne 5, 3) := by decide +kernel
theorem dX1_drawnKw_7 : decode cX1_drawnKw 7 = .ok (.iconst 0, 1) := by decide +kernel
theorem dX1_drawnKw_8 : decode cX1_drawnKw 8 = .ok (.ireturn, 1) := by decide +kernel
theorem dX1_drawnKw_9 : decode cX1_drawnKw 9 = .ok (.iload_n 1, 1) := by decide +kernel
theorem dX1_drawnKw_10 : decode cX1_drawnKw 10 = .ok (.aload_n 0, 1) := by decide +kernel
theorem dX1_drawnKw_11 : decode cX1_drawnKw 11 = .ok (.getfield 25, 3) := by decide +kernel
theorem dX1_drawnKw_14 : decode cX1_drawnKw 14 = .ok (.isub, 1) := by decide +kernel
theorem dX1_drawnKw_15 : decode cX1_drawnKw 15 = .ok (.bipush 10, 2) := by decide +kernel
theorem dX1_drawnKw_17 : decode cX1_drawnKw 17 = .ok (.if_icmp .ge 12, 3) := by decide +kernel
theorem dX1_drawnKw_20 : decode cX1_drawnKw 20 = .ok (.iconst 3, 1) := by decide +kernel
theorem dX1_drawnKw_21 : decode cX1_drawnKw 21 = .ok (.aload_n 0, 1) := by decide +kernel
theorem dX1_drawnKw_22 : decode cX1_drawnKw 22 = .ok (.getfield 36, 3) := by decide +kernel
theorem dX1_drawnKw_25 : decode cX1_drawnKw 25 = .ok (.imul, 1) := by decide +kernel
theorem dX1_drawnKw_26 : decode cX1_drawnKw 26 = .ok (.goto 7, 3) := by decide +kernel
theorem dX1_drawnKw_29 : decode cX1_drawnKw 29 = .ok (.aload_n 0, 1) := by decide +kernel
theorem dX1_drawnKw_30 : decode cX1_drawnKw 30 = .ok (.getfield 36, 3) := by decide +kernel
theorem dX1_drawnKw_33 : decode cX1_drawnKw 33 = .ok (.ireturn, 1) := by decide +kernel
theorem dX1_restLeft_0 : decode cX1_restLeft 0 = .ok (.aload_n 0, 1) := by decide +kernel
theorem dX1_restLeft_1 : decode cX1_restLeft 1 = .ok (.getfield 15, 3) := by decide +kernel
theorem dX1_restLeft_4 : decode cX1_restLeft 4 = .ok (.ifCond .ne 5, 3) := by decide +kernel
theorem dX1_restLeft_7 : decode cX1_restLeft 7 = .ok (.iconst 0, 1) := by decide +kernel
theorem dX1_restLeft_8 : decode cX1_restLeft 8 = .ok (.ireturn, 1) := by decide +kernel
theorem dX1_restLeft_9 : decode cX1_restLeft 9 = .ok (.aload_n 0, 1) := by decide +kernel
theorem dX1_restLeft_10 : decode cX1_restLeft 10 = .ok (.getfield 22, 3) := by decide +kernel
theorem dX1_restLeft_13 : decode cX1_restLeft 13 = .ok (.ifCond .eq 5, 3) := by decide +kernel
theorem dX1_restLeft_16 : decode cX1_restLeft 16 = .ok (.iload_n 1, 1) := by decide +kernel
theorem dX1_restLeft_17 : decode cX1_restLeft 17 = .ok (.ireturn, 1) := by decide +kernel
theorem dX1_restLeft_18 : decode cX1_restLeft 18 = .ok (.iload_n 1, 1) := by decide +kernel
theorem dX1_restLeft_19 : decode cX1_restLeft 19 = .ok (.iload_n 2, 1) := by decide +kernel
theorem dX1_restLeft_20 : decode cX1_restLeft 20 = .ok (.aload_n 0, 1) := by decide +kernel
theorem dX1_restLeft_21 : decode cX1_restLeft 21 = .ok (.getfield 25, 3) := by decide +kernel
theorem dX1_restLeft_24 : decode cX1_restLeft 24 = .ok (.isub, 1) := by decide +kernel
theorem dX1_restLeft_25 : decode cX1_restLeft 25 = .ok (.isub, 1) := by decide +kernel
theorem dX1_restLeft_26 : decode cX1_restLeft 26 = .ok (.istore_n 3, 1) := by decide +kernel
theorem dX1_restLeft_27 : decode cX1_restLeft 27 = .ok (.iload_n 3, 1) := by decide +kernel
theorem dX1_restLeft_28 : decode cX1_restLeft 28 = .ok (.ifCond .le 7, 3) := by decide +kernel
theorem dX1_restLeft_31 : decode cX1_restLeft 31 = .ok (.iload_n 3, 1) := by decide +kernel
theorem dX1_restLeft_32 : decode cX1_restLeft 32 = .ok (.goto 4, 3) := by decide +kernel
theorem dX1_restLeft_35 : decode cX1_restLeft 35 = .ok (.iconst 0, 1) := by decide +kernel
theorem dX1_restLeft_36 : decode cX1_restLeft 36 = .ok (.ireturn, 1) := by decide +kernel
set_option maxRecDepth 20000 in
theorem ggX1_hasRested_X1_restLeft : GoodIn wsX1_hasRested wsX1_restLeft := goodIn_r _ [6, 1, 7, 8, 9, 10, 11, 12, 13, 14, 15, 16, 17, 18, 19, 20, 21, 22, 23, 24, 25] (by decide +kernel) (by decide +kernel)
set_option maxRecDepth 20000 in
theorem gX1_hasRested_X1_restLeft : GoodIn wsX1_hasRested (wsV RX1 39 RX1 yX1_restLeft wsX1_restLeft) := goodIn_app (goodIn_of _ (by decide +kernel)) ggX1_hasRested_X1_restLeft
theorem dX1_hasRested_0 : decode cX1_hasRested 0 = .ok (.aload_n 0, 1) := by decide +kernel
theorem dX1_hasRested_1 : decode cX1_hasRested 1 = .ok (.getfield 15, 3) := by decide +kernel
theorem dX1_hasRested_4 : decode cX1_hasRested 4 = .ok (.iload_n 1, 1) := by decide +kernel
theorem dX1_hasRested_5 : decode cX1_hasRested 5 = .ok (.if_icmp .eq 12, 3) := by decide +kernel
theorem dX1_hasRested_8 : decode cX1_hasRested 8 = .ok (.aload_n 0, 1) := by decide +kernel
theorem dX1_hasRested_9 : decode cX1_hasRested 9 = .ok (.iload_n 2, 1) := by decide +kernel
theorem dX1_hasRested_10 : decode cX1_hasRested 10 = .ok (.iload_n 3, 1) := by decide +kernel
theorem dX1_hasRested_11 : decode cX1_hasRested 11 = .ok (.invokevirtual 39, 3) := by decide +kernel
theorem dX1_hasRested_14 : decode cX1_hasRested 14 = .ok (.ifCond .ne 7, 3) := by decide +kernel
theorem dX1_hasRested_17 : decode cX1_hasRested 17 = .ok (.iconst 1, 1) := by decide +kernel
theorem dX1_hasRested_18 : decode cX1_hasRested 18 = .ok (.goto 4, 3) := by decide +kernel
theorem dX1_hasRested_21 : decode cX1_hasRested 21 = .ok (.iconst 0, 1) := by decide +kernel
theorem dX1_hasRested_22 : decode cX1_hasRested 22 = .ok (.ireturn, 1) := by decide +kernel
end
section
def wsX2_init : List Cond := .code yX2_init cX2_init 1 none :: ([.methodLink RX2 3 objectInit, .instanceMethod objectInit, .code objectInit ⟨#[0xb1]⟩ 1 none, .fieldLink RX2 9 "TunnelWatch$Section" "ownDirection" "I", .fieldLink RX2 15 "TunnelWatch$Section" "otherDirection" "I"] ++ wsX20)
def wsX2_isOn : List Cond := .code yX2_isOn cX2_isOn 1 (some .boolean) :: ([.fieldLink RX2 18 "TunnelWatch$Section" "value" "I", .fieldLink RX2 21 "TunnelWatch$Section" "deaf" "Z"] ++ wsX20)
theorem dX2_init_0 : decode cX2_init 0 = .ok (.aload_n 0, 1) := by decide +kernel
theorem dX2_init_1 : decode cX2_init 1 = .ok (.invokespecial 3, 3) := by decide +kernel
theorem dX2_init_4 : decode cX2_init 4 = .ok (.aload_n 0, 1) := by decide +kernel
theorem dX2_init_5 : decode cX2_init 5 = .ok (.iconst 1, 1) := by decide +kernel
theorem dX2_init_6 : decode cX2_init 6 = .ok (.putfield 9, 3) := by decide +kernel
theorem dX2_init_9 : decode cX2_init 9 = .ok (.aload_n 0, 1) := by decide +kernel
theorem dX2_init_10 : decode cX2_init 10 = .ok (.iconst 1, 1) := by decide +kernel
theorem dX2_init_11 : decode cX2_init 11 = .ok (.putfield 15, 3) := by decide +kernel
theorem dX2_init_14 : decode cX2_init 14 = .ok (.return_, 1) := by decide +kernel
theorem dX2_isOn_0 : decode cX2_isOn 0 = .ok (.aload_n 0, 1) := by decide +kernel
theorem dX2_isOn_1 : decode cX2_isOn 1 = .ok (.getfield 18, 3) := by decide +kernel
theorem dX2_isOn_4 : decode cX2_isOn 4 = .ok (.bipush 50, 2) := by decide +kernel
theorem dX2_isOn_6 : decode cX2_isOn 6 = .ok (.if_icmp .lt 14, 3) := by decide +kernel
theorem dX2_isOn_9 : decode cX2_isOn 9 = .ok (.aload_n 0, 1) := by decide +kernel
theorem dX2_isOn_10 : decode cX2_isOn 10 = .ok (.getfield 21, 3) := by decide +kernel
theorem dX2_isOn_13 : decode cX2_isOn 13 = .ok (.ifCond .ne 7, 3) := by decide +kernel
theorem dX2_isOn_16 : decode cX2_isOn 16 = .ok (.iconst 1, 1) := by decide +kernel
theorem dX2_isOn_17 : decode cX2_isOn 17 = .ok (.goto 4, 3) := by decide +kernel
theorem dX2_isOn_20 : decode cX2_isOn 20 = .ok (.iconst 0, 1) := by decide +kernel
theorem dX2_isOn_21 : decode cX2_isOn 21 = .ok (.ireturn, 1) := by decide +kernel
end
section
def wsX3_init_r1 : List Cond := [Cond.methodLink RX3 3 objectInit, Cond.instanceMethod objectInit, Cond.code objectInit ⟨#[0xb1]⟩ 1 none, Cond.classLink RX3 9 RX0, Cond.instantiable RX0 6, Cond.initialized RX0, Cond.fieldLink RX3 12 "TunnelWatch$Tube" "signals" "LTunnelWatch$Device;", Cond.fieldLink RX3 18 "TunnelWatch$Tube" "barrier" "LTunnelWatch$Device;", Cond.classLink RX3 21 RX1, Cond.fieldLink RX3 23 "TunnelWatch$Tube" "fans" "[LTunnelWatch$Fan;", Cond.fieldLink RX3 27 "TunnelWatch$Tube" "wishedDirection" "I", Cond.fieldLink RX3 31 "TunnelWatch$Tube" "wantedDirection" "I", Cond.fieldLink RX3 34 "TunnelWatch$Tube" "status" "I", Cond.fieldLink RX3 37 "TunnelWatch$Tube" "fireSection" "I", Cond.classLink RX3 40 RX2, Cond.fieldLink RX3 42 "TunnelWatch$Tube" "sections" "[LTunnelWatch$Section;", Cond.instantiable RX2 8, Cond.initialized RX2, Cond.instantiable RX1 9, Cond.initialized RX1, Cond.instanceMethod yX0_init, Cond.code yX0_init cX0_init 1 none, Cond.methodLink RX0 1 objectInit, Cond.fieldLink RX0 7 "TunnelWatch$Device" "lagTicks" "I"]
def wsX3_init_r2 : List Cond := [Cond.instanceMethod yX2_init, Cond.code yX2_init cX2_init 1 none, Cond.methodLink RX2 3 objectInit, Cond.fieldLink RX2 9 "TunnelWatch$Section" "ownDirection" "I", Cond.fieldLink RX2 15 "TunnelWatch$Section" "otherDirection" "I", Cond.instanceMethod yX1_init, Cond.code yX1_init cX1_init 1 none]
def wsX3_init : List Cond := .code yX3_init cX3_init 3 none :: ((wsX3_init_r1 ++ wsX3_init_r2) ++ wsX00 ++ wsX30 ++ wsX20 ++ wsX10)
def wsX3_addFan : List Cond := .code yX3_addFan cX3_addFan 3 (some .int) :: ([.fieldLink RX3 48 "TunnelWatch$Tube" "fanCount" "I", .fieldLink RX3 23 "TunnelWatch$Tube" "fans" "[LTunnelWatch$Fan;", .fieldLink RX3 51 "TunnelWatch$Fan" "kw" "I"] ++ wsX30 ++ wsX10)
def wsX3_deviceAt : List Cond := .code yX3_deviceAt cX3_deviceAt 2 (some (.object "TunnelWatch$Device")) :: ([.fieldLink RX3 12 "TunnelWatch$Tube" "signals" "LTunnelWatch$Device;", .fieldLink RX3 18 "TunnelWatch$Tube" "barrier" "LTunnelWatch$Device;", .fieldLink RX3 23 "TunnelWatch$Tube" "fans" "[LTunnelWatch$Fan;"] ++ wsX30)
def wsX3_isOnCloseAbove : List Cond := .code yX3_isOnCloseAbove cX3_isOnCloseAbove 4 (some .boolean) :: ([.fieldLink RX3 42 "TunnelWatch$Tube" "sections" "[LTunnelWatch$Section;", .methodLink RX3 85 Lib.Math.min.name, .static Lib.Math.min.name, .initialized "java/lang/Math", .code Lib.Math.min.name Lib.Math.min.code 2 (some .int), .methodLink RX3 77 yX2_isOn, .instanceMethod yX2_isOn, .selects RX2 yX2_isOn yX2_isOn, .initialized RX2, .code yX2_isOn cX2_isOn 1 (some .boolean), .fieldLink RX2 18 "TunnelWatch$Section" "value" "I", .fieldLink RX2 21 "TunnelWatch$Section" "deaf" "Z"] ++ wsX30 ++ wsX20)
def wsX3_leastOfPair : List Cond := .code yX3_leastOfPair cX3_leastOfPair 2 (some .int) :: ([.fieldLink RX3 42 "TunnelWatch$Tube" "sections" "[LTunnelWatch$Section;", .methodLink RX3 77 yX2_isOn, .instanceMethod yX2_isOn, .selects RX2 yX2_isOn yX2_isOn, .initialized RX2, .code yX2_isOn cX2_isOn 1 (some .boolean), .fieldLink RX2 18 "TunnelWatch$Section" "value" "I", .fieldLink RX2 21 "TunnelWatch$Section" "deaf" "Z", .methodLink RX3 81 yX3_isOnCloseAbove, .instanceMethod yX3_isOnCloseAbove, .selects RX3 yX3_isOnCloseAbove yX3_isOnCloseAbove, .initialized RX3, .code yX3_isOnCloseAbove cX3_isOnCloseAbove 4 (some .boolean), .methodLink RX3 85 Lib.Math.min.name, .static Lib.Math.min.name, .initialized "java/lang/Math", .code Lib.Math.min.name Lib.Math.min.code 2 (some .int)] ++ wsX30 ++ wsX20)
def wsX3_bestCandidate : List Cond := .code yX3_bestCandidate cX3_bestCandidate 5 (some .int) :: ([.fieldLink RX3 42 "TunnelWatch$Tube" "sections" "[LTunnelWatch$Section;", .fieldLink RX3 73 "TunnelWatch$Section" "pulled" "Z", .fieldLink RX3 61 "TunnelWatch$Section" "rank" "I", .methodLink RX3 70 yX3_leastOfPair, .instanceMethod yX3_leastOfPair, .selects RX3 yX3_leastOfPair yX3_leastOfPair, .initialized RX3, .code yX3_leastOfPair cX3_leastOfPair 2 (some .int), .methodLink RX3 77 yX2_isOn, .instanceMethod yX2_isOn, .selects RX2 yX2_isOn yX2_isOn, .initialized RX2, .code yX2_isOn cX2_isOn 1 (some .boolean), .fieldLink RX2 18 "TunnelWatch$Section" "value" "I", .fieldLink RX2 21 "TunnelWatch$Section" "deaf" "Z", .methodLink RX3 81 yX3_isOnCloseAbove, .instanceMethod yX3_isOnCloseAbove, .selects RX3 yX3_isOnCloseAbove yX3_isOnCloseAbove, .code yX3_isOnCloseAbove cX3_isOnCloseAbove 4 (some .boolean), .methodLink RX3 85 Lib.Math.min.name, .static Lib.Math.min.name, .initialized "java/lang/Math", .code Lib.Math.min.name Lib.Math.min.code 2 (some .int)] ++ wsX30 ++ wsX20)
def wsX3_leastOn : List Cond := .code yX3_leastOn cX3_leastOn 2 (some .int) :: ([.fieldLink RX3 42 "TunnelWatch$Tube" "sections" "[LTunnelWatch$Section;", .methodLink RX3 77 yX2_isOn, .instanceMethod yX2_isOn, .selects RX2 yX2_isOn yX2_isOn, .initialized RX2, .code yX2_isOn cX2_isOn 1 (some .boolean), .fieldLink RX2 18 "TunnelWatch$Section" "value" "I", .fieldLink RX2 21 "TunnelWatch$Section" "deaf" "Z"] ++ wsX30 ++ wsX20)
def wsX3_judgeSuspicion : List Cond := .code yX3_judgeSuspicion cX3_judgeSuspicion 1 none :: ([.fieldLink RX3 34 "TunnelWatch$Tube" "status" "I", .fieldLink RX3 37 "TunnelWatch$Tube" "fireSection" "I", .methodLink RX3 67 yX3_leastOn, .instanceMethod yX3_leastOn, .selects RX3 yX3_leastOn yX3_leastOn, .initialized RX3, .code yX3_leastOn cX3_leastOn 2 (some .int), .fieldLink RX3 42 "TunnelWatch$Tube" "sections" "[LTunnelWatch$Section;", .methodLink RX3 77 yX2_isOn, .instanceMethod yX2_isOn, .selects RX2 yX2_isOn yX2_isOn, .initialized RX2, .code yX2_isOn cX2_isOn 1 (some .boolean), .fieldLink RX2 18 "TunnelWatch$Section" "value" "I", .fieldLink RX2 21 "TunnelWatch$Section" "deaf" "Z"] ++ wsX30 ++ wsX20)
def wsX3_fireRank : List Cond := .code yX3_fireRank cX3_fireRank 1 (some .int) :: ([.fieldLink RX3 37 "TunnelWatch$Tube" "fireSection" "I", .fieldLink RX3 42 "TunnelWatch$Tube" "sections" "[LTunnelWatch$Section;", .fieldLink RX3 61 "TunnelWatch$Section" "rank" "I"] ++ wsX30 ++ wsX20)
def wsX3_judgeFire_r1 : List Cond := [Cond.fieldLink RX3 34 "TunnelWatch$Tube" "status" "I", Cond.fieldLink RX3 42 "TunnelWatch$Tube" "sections" "[LTunnelWatch$Section;", Cond.fieldLink RX3 61 "TunnelWatch$Section" "rank" "I", Cond.fieldLink RX3 37 "TunnelWatch$Tube" "fireSection" "I", Cond.methodLink RX3 54 yX3_bestCandidate, Cond.instanceMethod yX3_bestCandidate, Cond.selects RX3 yX3_bestCandidate yX3_bestCandidate, Cond.initialized RX3, Cond.code yX3_bestCandidate cX3_bestCandidate 5 (some .int), Cond.fieldLink RX3 73 "TunnelWatch$Section" "pulled" "Z", Cond.methodLink RX3 70 yX3_leastOfPair, Cond.instanceMethod yX3_leastOfPair, Cond.selects RX3 yX3_leastOfPair yX3_leastOfPair, Cond.code yX3_leastOfPair cX3_leastOfPair 2 (some .int), Cond.methodLink RX3 77 yX2_isOn, Cond.instanceMethod yX2_isOn, Cond.selects RX2 yX2_isOn yX2_isOn, Cond.initialized RX2, Cond.code yX2_isOn cX2_isOn 1 (some .boolean), Cond.fieldLink RX2 18 "TunnelWatch$Section" "value" "I", Cond.fieldLink RX2 21 "TunnelWatch$Section" "deaf" "Z", Cond.methodLink RX3 81 yX3_isOnCloseAbove, Cond.instanceMethod yX3_isOnCloseAbove, Cond.selects RX3 yX3_isOnCloseAbove yX3_isOnCloseAbove]
def wsX3_judgeFire_r2 : List Cond := [Cond.code yX3_isOnCloseAbove cX3_isOnCloseAbove 4 (some .boolean), Cond.methodLink RX3 85 Lib.Math.min.name, Cond.static Lib.Math.min.name, Cond.initialized "java/lang/Math", Cond.code Lib.Math.min.name Lib.Math.min.code 2 (some .int), Cond.methodLink RX3 58 yX3_judgeSuspicion, Cond.instanceMethod yX3_judgeSuspicion, Cond.selects RX3 yX3_judgeSuspicion yX3_judgeSuspicion, Cond.code yX3_judgeSuspicion cX3_judgeSuspicion 1 none, Cond.methodLink RX3 67 yX3_leastOn, Cond.instanceMethod yX3_leastOn, Cond.selects RX3 yX3_leastOn yX3_leastOn, Cond.code yX3_leastOn cX3_leastOn 2 (some .int), Cond.methodLink RX3 64 yX3_fireRank, Cond.instanceMethod yX3_fireRank, Cond.selects RX3 yX3_fireRank yX3_fireRank, Cond.code yX3_fireRank cX3_fireRank 1 (some .int)]
def wsX3_judgeFire : List Cond := .code yX3_judgeFire cX3_judgeFire 2 none :: ((wsX3_judgeFire_r1 ++ wsX3_judgeFire_r2) ++ wsX30 ++ wsX20)
def wsX3_pullWhereSuspected : List Cond := .code yX3_pullWhereSuspected cX3_pullWhereSuspected 1 (some .boolean) :: ([.fieldLink RX3 34 "TunnelWatch$Tube" "status" "I", .fieldLink RX3 37 "TunnelWatch$Tube" "fireSection" "I", .fieldLink RX3 42 "TunnelWatch$Tube" "sections" "[LTunnelWatch$Section;", .fieldLink RX3 73 "TunnelWatch$Section" "pulled" "Z"] ++ wsX30 ++ wsX20)
def wsX3_endFire : List Cond := .code yX3_endFire cX3_endFire 2 (some .boolean) :: ([.fieldLink RX3 42 "TunnelWatch$Tube" "sections" "[LTunnelWatch$Section;", .fieldLink RX3 73 "TunnelWatch$Section" "pulled" "Z", .fieldLink RX3 34 "TunnelWatch$Tube" "status" "I", .fieldLink RX3 37 "TunnelWatch$Tube" "fireSection" "I", .methodLink RX3 67 yX3_leastOn, .instanceMethod yX3_leastOn, .selects RX3 yX3_leastOn yX3_leastOn, .initialized RX3, .code yX3_leastOn cX3_leastOn 2 (some .int), .methodLink RX3 77 yX2_isOn, .instanceMethod yX2_isOn, .selects RX2 yX2_isOn yX2_isOn, .initialized RX2, .code yX2_isOn cX2_isOn 1 (some .boolean), .fieldLink RX2 18 "TunnelWatch$Section" "value" "I", .fieldLink RX2 21 "TunnelWatch$Section" "deaf" "Z"] ++ wsX30 ++ wsX20)
def wsX3_want : List Cond := .code yX3_want cX3_want 3 none :: ([.fieldLink RX3 31 "TunnelWatch$Tube" "wantedDirection" "I", .fieldLink RX3 91 "TunnelWatch$Tube" "wantedFans" "I"] ++ wsX30)
def wsX3_settleDevices_r1 : List Cond := [Cond.fieldLink RX3 12 "TunnelWatch$Tube" "signals" "LTunnelWatch$Device;", Cond.fieldLink RX3 18 "TunnelWatch$Tube" "barrier" "LTunnelWatch$Device;", Cond.fieldLink RX3 48 "TunnelWatch$Tube" "fanCount" "I", Cond.fieldLink RX3 23 "TunnelWatch$Tube" "fans" "[LTunnelWatch$Fan;", Cond.methodLink RX3 94 yX0_act, Cond.instanceMethod yX0_act, Cond.selects RX0 yX0_act yX0_act, Cond.initialized RX0, Cond.code yX0_act cX0_act 2 none, Cond.fieldLink RX0 19 "TunnelWatch$Device" "failed" "Z", Cond.fieldLink RX0 16 "TunnelWatch$Device" "sentTick" "I", Cond.fieldLink RX0 7 "TunnelWatch$Device" "lagTicks" "I", Cond.fieldLink RX0 13 "TunnelWatch$Device" "command" "I", Cond.fieldLink RX0 23 "TunnelWatch$Device" "actual" "I", Cond.methodLink RX3 94 ⟨"TunnelWatch$Device", "act", "(I)V"⟩, Cond.sameMethod "TunnelWatch$Device" "TunnelWatch$Device" "act" "(I)V", Cond.selects RX1 ⟨"TunnelWatch$Device", "act", "(I)V"⟩ yX0_act, Cond.methodLink RX3 98 ⟨"TunnelWatch$Fan", "act", "(I)V"⟩, Cond.sameMethod "TunnelWatch$Fan" "TunnelWatch$Device" "act" "(I)V", Cond.selects RX1 ⟨"TunnelWatch$Fan", "act", "(I)V"⟩ yX0_act, Cond.methodLink RX3 99 yX1_judgeOut, Cond.instanceMethod yX1_judgeOut, Cond.selects RX1 yX1_judgeOut yX1_judgeOut, Cond.initialized RX1]
def wsX3_settleDevices_r2 : List Cond := [Cond.code yX1_judgeOut cX1_judgeOut 2 none, Cond.fieldLink RX1 19 "TunnelWatch$Fan" "actual" "I", Cond.sameField "TunnelWatch$Fan" "TunnelWatch$Device" "actual" "I", Cond.fieldLink RX1 22 "TunnelWatch$Fan" "command" "I", Cond.sameField "TunnelWatch$Fan" "TunnelWatch$Device" "command" "I", Cond.fieldLink RX1 25 "TunnelWatch$Fan" "sentTick" "I", Cond.sameField "TunnelWatch$Fan" "TunnelWatch$Device" "sentTick" "I", Cond.fieldLink RX1 28 "TunnelWatch$Fan" "out" "Z", Cond.sameField "TunnelWatch$Fan" "TunnelWatch$Device" "out" "Z", Cond.methodLink RX1 32 yX1_stand, Cond.instanceMethod yX1_stand, Cond.selects RX1 yX1_stand yX1_stand, Cond.code yX1_stand cX1_stand 2 none, Cond.methodLink RX1 9 ⟨"TunnelWatch$Fan", "send", "(II)V"⟩, Cond.sameMethod "TunnelWatch$Fan" "TunnelWatch$Device" "send" "(II)V", Cond.selects RX1 ⟨"TunnelWatch$Fan", "send", "(II)V"⟩ yX0_send, Cond.instanceMethod yX0_send, Cond.code yX0_send cX0_send 3 none]
def wsX3_settleDevices : List Cond := .code yX3_settleDevices cX3_settleDevices 3 none :: ((wsX3_settleDevices_r1 ++ wsX3_settleDevices_r2) ++ wsX30 ++ wsX00 ++ wsX10)
def wsX3_isHalted : List Cond := .code yX3_isHalted cX3_isHalted 2 (some .boolean) :: ([.fieldLink RX3 12 "TunnelWatch$Tube" "signals" "LTunnelWatch$Device;", .fieldLink RX3 102 "TunnelWatch$Device" "command" "I", .fieldLink RX3 105 "TunnelWatch$Device" "actual" "I", .fieldLink RX3 118 "TunnelWatch$Device" "sentTick" "I"] ++ wsX30 ++ wsX00 ++ wsX10)
def wsX3_commandTraffic : List Cond := .code yX3_commandTraffic cX3_commandTraffic 6 none :: ([.fieldLink RX3 18 "TunnelWatch$Tube" "barrier" "LTunnelWatch$Device;", .fieldLink RX3 102 "TunnelWatch$Device" "command" "I", .fieldLink RX3 105 "TunnelWatch$Device" "actual" "I", .fieldLink RX3 34 "TunnelWatch$Tube" "status" "I", .fieldLink RX3 108 "TunnelWatch$Tube" "stopOrdered" "Z", .fieldLink RX3 12 "TunnelWatch$Tube" "signals" "LTunnelWatch$Device;", .methodLink RX3 111 yX0_send, .instanceMethod yX0_send, .selects RX0 yX0_send yX0_send, .initialized RX0, .code yX0_send cX0_send 3 none, .fieldLink RX0 13 "TunnelWatch$Device" "command" "I", .fieldLink RX0 16 "TunnelWatch$Device" "sentTick" "I", .methodLink RX3 111 ⟨"TunnelWatch$Device", "send", "(II)V"⟩, .sameMethod "TunnelWatch$Device" "TunnelWatch$Device" "send" "(II)V", .selects RX1 ⟨"TunnelWatch$Device", "send", "(II)V"⟩ yX0_send, .methodLink RX3 115 yX3_isHalted, .instanceMethod yX3_isHalted, .selects RX3 yX3_isHalted yX3_isHalted, .initialized RX3, .code yX3_isHalted cX3_isHalted 2 (some .boolean), .fieldLink RX3 118 "TunnelWatch$Device" "sentTick" "I"] ++ wsX30 ++ wsX00 ++ wsX10)
def wsX3_countBlowing : List Cond := .code yX3_countBlowing cX3_countBlowing 4 (some .int) :: ([.fieldLink RX3 48 "TunnelWatch$Tube" "fanCount" "I", .fieldLink RX3 23 "TunnelWatch$Tube" "fans" "[LTunnelWatch$Fan;", .fieldLink RX3 125 "TunnelWatch$Fan" "command" "I", .sameField "TunnelWatch$Fan" "TunnelWatch$Device" "command" "I"] ++ wsX30 ++ wsX00 ++ wsX10)
def wsX3_isUnsafe : List Cond := .code yX3_isUnsafe cX3_isUnsafe 6 (some .boolean) :: ([.fieldLink RX3 18 "TunnelWatch$Tube" "barrier" "LTunnelWatch$Device;", .fieldLink RX3 102 "TunnelWatch$Device" "command" "I", .fieldLink RX3 118 "TunnelWatch$Device" "sentTick" "I", .fieldLink RX3 12 "TunnelWatch$Tube" "signals" "LTunnelWatch$Device;", .methodLink RX3 115 yX3_isHalted, .instanceMethod yX3_isHalted, .selects RX3 yX3_isHalted yX3_isHalted, .initialized RX3, .code yX3_isHalted cX3_isHalted 2 (some .boolean), .fieldLink RX3 105 "TunnelWatch$Device" "actual" "I", .methodLink RX3 121 yX3_countBlowing, .instanceMethod yX3_countBlowing, .selects RX3 yX3_countBlowing yX3_countBlowing, .code yX3_countBlowing cX3_countBlowing 4 (some .int), .fieldLink RX3 48 "TunnelWatch$Tube" "fanCount" "I", .fieldLink RX3 23 "TunnelWatch$Tube" "fans" "[LTunnelWatch$Fan;", .fieldLink RX3 125 "TunnelWatch$Fan" "command" "I", .sameField "TunnelWatch$Fan" "TunnelWatch$Device" "command" "I"] ++ wsX30 ++ wsX00 ++ wsX10)
def wsX3_drawnKw : List Cond := .code yX3_drawnKw cX3_drawnKw 4 (some .int) :: ([.fieldLink RX3 48 "TunnelWatch$Tube" "fanCount" "I", .fieldLink RX3 23 "TunnelWatch$Tube" "fans" "[LTunnelWatch$Fan;", .methodLink RX3 126 yX1_drawnKw, .instanceMethod yX1_drawnKw, .selects RX1 yX1_drawnKw yX1_drawnKw, .initialized RX1, .code yX1_drawnKw cX1_drawnKw 2 (some .int), .fieldLink RX1 22 "TunnelWatch$Fan" "command" "I", .sameField "TunnelWatch$Fan" "TunnelWatch$Device" "command" "I", .fieldLink RX1 25 "TunnelWatch$Fan" "sentTick" "I", .sameField "TunnelWatch$Fan" "TunnelWatch$Device" "sentTick" "I", .fieldLink RX1 36 "TunnelWatch$Fan" "kw" "I"] ++ wsX30 ++ wsX00 ++ wsX10)
def wsX3_stopBlowingAgainst : List Cond := .code yX3_stopBlowingAgainst cX3_stopBlowingAgainst 3 none :: ([.fieldLink RX3 48 "TunnelWatch$Tube" "fanCount" "I", .fieldLink RX3 23 "TunnelWatch$Tube" "fans" "[LTunnelWatch$Fan;", .fieldLink RX3 125 "TunnelWatch$Fan" "command" "I", .sameField "TunnelWatch$Fan" "TunnelWatch$Device" "command" "I", .fieldLink RX3 31 "TunnelWatch$Tube" "wantedDirection" "I", .methodLink RX3 139 yX1_stand, .instanceMethod yX1_stand, .selects RX1 yX1_stand yX1_stand, .initialized RX1, .code yX1_stand cX1_stand 2 none, .methodLink RX1 9 ⟨"TunnelWatch$Fan", "send", "(II)V"⟩, .sameMethod "TunnelWatch$Fan" "TunnelWatch$Device" "send" "(II)V", .selects RX1 ⟨"TunnelWatch$Fan", "send", "(II)V"⟩ yX0_send, .instanceMethod yX0_send, .initialized RX0, .code yX0_send cX0_send 3 none, .fieldLink RX0 13 "TunnelWatch$Device" "command" "I", .fieldLink RX0 16 "TunnelWatch$Device" "sentTick" "I"] ++ wsX30 ++ wsX00 ++ wsX10)
def wsX3_longestRun : List Cond := .code yX3_longestRun cX3_longestRun 6 (some .int) :: ([.fieldLink RX3 48 "TunnelWatch$Tube" "fanCount" "I", .fieldLink RX3 23 "TunnelWatch$Tube" "fans" "[LTunnelWatch$Fan;", .fieldLink RX3 125 "TunnelWatch$Fan" "command" "I", .sameField "TunnelWatch$Fan" "TunnelWatch$Device" "command" "I", .fieldLink RX3 31 "TunnelWatch$Tube" "wantedDirection" "I", .fieldLink RX3 142 "TunnelWatch$Fan" "runTicks" "I"] ++ wsX30 ++ wsX00 ++ wsX10)
def wsX3_stopAt : List Cond := .code yX3_stopAt cX3_stopAt 3 none :: ([.fieldLink RX3 23 "TunnelWatch$Tube" "fans" "[LTunnelWatch$Fan;", .methodLink RX3 139 yX1_stand, .instanceMethod yX1_stand, .selects RX1 yX1_stand yX1_stand, .initialized RX1, .code yX1_stand cX1_stand 2 none, .methodLink RX1 9 ⟨"TunnelWatch$Fan", "send", "(II)V"⟩, .sameMethod "TunnelWatch$Fan" "TunnelWatch$Device" "send" "(II)V", .selects RX1 ⟨"TunnelWatch$Fan", "send", "(II)V"⟩ yX0_send, .instanceMethod yX0_send, .initialized RX0, .code yX0_send cX0_send 3 none, .fieldLink RX0 13 "TunnelWatch$Device" "command" "I", .fieldLink RX0 16 "TunnelWatch$Device" "sentTick" "I"] ++ wsX30 ++ wsX00 ++ wsX10)
def wsX3_stopFans_r1 : List Cond := [Cond.fieldLink RX3 31 "TunnelWatch$Tube" "wantedDirection" "I", Cond.fieldLink RX3 91 "TunnelWatch$Tube" "wantedFans" "I", Cond.methodLink RX3 115 yX3_isHalted, Cond.instanceMethod yX3_isHalted, Cond.selects RX3 yX3_isHalted yX3_isHalted, Cond.initialized RX3, Cond.code yX3_isHalted cX3_isHalted 2 (some .boolean), Cond.fieldLink RX3 12 "TunnelWatch$Tube" "signals" "LTunnelWatch$Device;", Cond.fieldLink RX3 102 "TunnelWatch$Device" "command" "I", Cond.fieldLink RX3 105 "TunnelWatch$Device" "actual" "I", Cond.fieldLink RX3 118 "TunnelWatch$Device" "sentTick" "I", Cond.methodLink RX3 129 yX3_stopBlowingAgainst, Cond.instanceMethod yX3_stopBlowingAgainst, Cond.selects RX3 yX3_stopBlowingAgainst yX3_stopBlowingAgainst, Cond.code yX3_stopBlowingAgainst cX3_stopBlowingAgainst 3 none, Cond.fieldLink RX3 48 "TunnelWatch$Tube" "fanCount" "I", Cond.fieldLink RX3 23 "TunnelWatch$Tube" "fans" "[LTunnelWatch$Fan;", Cond.fieldLink RX3 125 "TunnelWatch$Fan" "command" "I", Cond.sameField "TunnelWatch$Fan" "TunnelWatch$Device" "command" "I", Cond.methodLink RX3 139 yX1_stand, Cond.instanceMethod yX1_stand, Cond.selects RX1 yX1_stand yX1_stand, Cond.initialized RX1, Cond.code yX1_stand cX1_stand 2 none]
def wsX3_stopFans_r2 : List Cond := [Cond.methodLink RX1 9 ⟨"TunnelWatch$Fan", "send", "(II)V"⟩, Cond.sameMethod "TunnelWatch$Fan" "TunnelWatch$Device" "send" "(II)V", Cond.selects RX1 ⟨"TunnelWatch$Fan", "send", "(II)V"⟩ yX0_send, Cond.instanceMethod yX0_send, Cond.initialized RX0, Cond.code yX0_send cX0_send 3 none, Cond.fieldLink RX0 13 "TunnelWatch$Device" "command" "I", Cond.fieldLink RX0 16 "TunnelWatch$Device" "sentTick" "I", Cond.methodLink RX3 121 yX3_countBlowing, Cond.instanceMethod yX3_countBlowing, Cond.selects RX3 yX3_countBlowing yX3_countBlowing, Cond.code yX3_countBlowing cX3_countBlowing 4 (some .int), Cond.methodLink RX3 132 yX3_longestRun, Cond.instanceMethod yX3_longestRun, Cond.selects RX3 yX3_longestRun yX3_longestRun, Cond.code yX3_longestRun cX3_longestRun 6 (some .int), Cond.fieldLink RX3 142 "TunnelWatch$Fan" "runTicks" "I", Cond.methodLink RX3 136 yX3_stopAt, Cond.instanceMethod yX3_stopAt, Cond.selects RX3 yX3_stopAt yX3_stopAt, Cond.code yX3_stopAt cX3_stopAt 3 none]
def wsX3_stopFans : List Cond := .code yX3_stopFans cX3_stopFans 5 none :: ((wsX3_stopFans_r1 ++ wsX3_stopFans_r2) ++ wsX30 ++ wsX00 ++ wsX10)
def wsX3_stopLongestRun_r1 : List Cond := [Cond.methodLink RX3 132 yX3_longestRun, Cond.instanceMethod yX3_longestRun, Cond.selects RX3 yX3_longestRun yX3_longestRun, Cond.initialized RX3, Cond.code yX3_longestRun cX3_longestRun 6 (some .int), Cond.fieldLink RX3 48 "TunnelWatch$Tube" "fanCount" "I", Cond.fieldLink RX3 23 "TunnelWatch$Tube" "fans" "[LTunnelWatch$Fan;", Cond.fieldLink RX3 125 "TunnelWatch$Fan" "command" "I", Cond.sameField "TunnelWatch$Fan" "TunnelWatch$Device" "command" "I", Cond.fieldLink RX3 31 "TunnelWatch$Tube" "wantedDirection" "I", Cond.fieldLink RX3 142 "TunnelWatch$Fan" "runTicks" "I", Cond.methodLink RX3 136 yX3_stopAt, Cond.instanceMethod yX3_stopAt, Cond.selects RX3 yX3_stopAt yX3_stopAt, Cond.code yX3_stopAt cX3_stopAt 3 none, Cond.methodLink RX3 139 yX1_stand, Cond.instanceMethod yX1_stand, Cond.selects RX1 yX1_stand yX1_stand, Cond.initialized RX1, Cond.code yX1_stand cX1_stand 2 none, Cond.methodLink RX1 9 ⟨"TunnelWatch$Fan", "send", "(II)V"⟩, Cond.sameMethod "TunnelWatch$Fan" "TunnelWatch$Device" "send" "(II)V", Cond.selects RX1 ⟨"TunnelWatch$Fan", "send", "(II)V"⟩ yX0_send, Cond.instanceMethod yX0_send]
def wsX3_stopLongestRun_r2 : List Cond := [Cond.initialized RX0, Cond.code yX0_send cX0_send 3 none, Cond.fieldLink RX0 13 "TunnelWatch$Device" "command" "I", Cond.fieldLink RX0 16 "TunnelWatch$Device" "sentTick" "I"]
def wsX3_stopLongestRun : List Cond := .code yX3_stopLongestRun cX3_stopLongestRun 3 (some .boolean) :: ((wsX3_stopLongestRun_r1 ++ wsX3_stopLongestRun_r2) ++ wsX30 ++ wsX00 ++ wsX10)
def wsX3_isReady : List Cond := .code yX3_isReady cX3_isReady 4 (some .boolean) :: ([.fieldLink RX3 125 "TunnelWatch$Fan" "command" "I", .sameField "TunnelWatch$Fan" "TunnelWatch$Device" "command" "I", .fieldLink RX3 149 "TunnelWatch$Fan" "out" "Z", .sameField "TunnelWatch$Fan" "TunnelWatch$Device" "out" "Z", .fieldLink RX3 31 "TunnelWatch$Tube" "wantedDirection" "I", .methodLink RX3 152 yX1_hasRested, .instanceMethod yX1_hasRested, .selects RX1 yX1_hasRested yX1_hasRested, .initialized RX1, .code yX1_hasRested cX1_hasRested 4 (some .boolean), .fieldLink RX1 15 "TunnelWatch$Fan" "lastDirection" "I", .methodLink RX1 39 yX1_restLeft, .instanceMethod yX1_restLeft, .selects RX1 yX1_restLeft yX1_restLeft, .code yX1_restLeft cX1_restLeft 4 (some .int), .fieldLink RX1 22 "TunnelWatch$Fan" "command" "I", .fieldLink RX1 25 "TunnelWatch$Fan" "sentTick" "I", .sameField "TunnelWatch$Fan" "TunnelWatch$Device" "sentTick" "I"] ++ wsX00 ++ wsX10 ++ wsX30)
def wsX3_leastRunReady_r1 : List Cond := [Cond.fieldLink RX3 48 "TunnelWatch$Tube" "fanCount" "I", Cond.fieldLink RX3 23 "TunnelWatch$Tube" "fans" "[LTunnelWatch$Fan;", Cond.fieldLink RX3 142 "TunnelWatch$Fan" "runTicks" "I", Cond.methodLink RX3 145 yX3_isReady, Cond.instanceMethod yX3_isReady, Cond.selects RX3 yX3_isReady yX3_isReady, Cond.initialized RX3, Cond.code yX3_isReady cX3_isReady 4 (some .boolean), Cond.fieldLink RX3 125 "TunnelWatch$Fan" "command" "I", Cond.sameField "TunnelWatch$Fan" "TunnelWatch$Device" "command" "I", Cond.fieldLink RX3 149 "TunnelWatch$Fan" "out" "Z", Cond.sameField "TunnelWatch$Fan" "TunnelWatch$Device" "out" "Z", Cond.fieldLink RX3 31 "TunnelWatch$Tube" "wantedDirection" "I", Cond.methodLink RX3 152 yX1_hasRested, Cond.instanceMethod yX1_hasRested, Cond.selects RX1 yX1_hasRested yX1_hasRested, Cond.initialized RX1, Cond.code yX1_hasRested cX1_hasRested 4 (some .boolean), Cond.fieldLink RX1 15 "TunnelWatch$Fan" "lastDirection" "I", Cond.methodLink RX1 39 yX1_restLeft, Cond.instanceMethod yX1_restLeft, Cond.selects RX1 yX1_restLeft yX1_restLeft, Cond.code yX1_restLeft cX1_restLeft 4 (some .int), Cond.fieldLink RX1 22 "TunnelWatch$Fan" "command" "I"]
def wsX3_leastRunReady_r2 : List Cond := [Cond.fieldLink RX1 25 "TunnelWatch$Fan" "sentTick" "I", Cond.sameField "TunnelWatch$Fan" "TunnelWatch$Device" "sentTick" "I"]
def wsX3_leastRunReady : List Cond := .code yX3_leastRunReady cX3_leastRunReady 5 (some .int) :: ((wsX3_leastRunReady_r1 ++ wsX3_leastRunReady_r2) ++ wsX30 ++ wsX10 ++ wsX00)
def wsX3_countRun : List Cond := .code yX3_countRun cX3_countRun 2 none :: ([.fieldLink RX3 48 "TunnelWatch$Tube" "fanCount" "I", .fieldLink RX3 23 "TunnelWatch$Tube" "fans" "[LTunnelWatch$Fan;", .fieldLink RX3 125 "TunnelWatch$Fan" "command" "I", .sameField "TunnelWatch$Fan" "TunnelWatch$Device" "command" "I", .fieldLink RX3 142 "TunnelWatch$Fan" "runTicks" "I"] ++ wsX30 ++ wsX00 ++ wsX10)
set_option maxRecDepth 20000 in
theorem ggX3_init_X0_init : GoodIn wsX3_init wsX0_init := goodIn_r _ [22, 23, 2, 3, 24, 32, 33, 34, 35, 36, 37, 58, 59, 60, 61, 62, 63, 64, 65, 66] (by decide +kernel) (by decide +kernel)
set_option maxRecDepth 20000 in
theorem gX3_init_X0_init_n11 : GoodIn wsX3_init (wsX0_init) := ggX3_init_X0_init
set_option maxRecDepth 20000 in
theorem ggX3_init_X2_init : GoodIn wsX3_init wsX2_init := goodIn_r _ [26, 27, 2, 3, 28, 29, 50, 51, 52, 53, 54, 55, 56, 57] (by decide +kernel) (by decide +kernel)
set_option maxRecDepth 20000 in
theorem gX3_init_X2_init_n46 : GoodIn wsX3_init (wsX2_init) := ggX3_init_X2_init
set_option maxRecDepth 20000 in
theorem ggX3_init_X1_init : GoodIn wsX3_init wsX1_init := goodIn_r _ [31, 21, 6, 22, 23, 2, 3, 24, 32, 33, 34, 35, 36, 37, 58, 59, 60, 61, 62, 63, 64, 65, 66] (by decide +kernel) (by decide +kernel)
set_option maxRecDepth 20000 in
theorem gX3_init_X1_init_n47 : GoodIn wsX3_init (wsX1_init) := ggX3_init_X1_init
theorem dX3_init_0 : decode cX3_init 0 = .ok (.aload_n 0, 1) := by decide +kernel
theorem dX3_init_1 : decode cX3_init 1 = .ok (.invokespecial 3, 3) := by decide +kernel
theorem dX3_init_4 : decode cX3_init 4 = .ok (.aload_n 0, 1) := by decide +kernel
theorem dX3_init_5 : decode cX3_init 5 = .ok (.new 9, 3) := by decide +kernel
theorem dX3_init_8 : decode cX3_init 8 = .ok (.dup, 1) := by decide +kernel
theorem dX3_init_9 : decode cX3_init 9 = .ok (.invokespecial 11, 3) := by decide +kernel
theorem dX3_init_12 : decode cX3_init 12 = .ok (.putfield 12, 3) := by decide +kernel
theorem dX3_init_15 : decode cX3_init 15 = .ok (.aload_n 0, 1) := by decide +kernel
theorem dX3_init_16 : decode cX3_init 16 = .ok (.new 9, 3) := by decide +kernel
theorem dX3_init_19 : decode cX3_init 19 = .ok (.dup, 1) := by decide +kernel
theorem dX3_init_20 : decode cX3_init 20 = .ok (.invokespecial 11, 3) := by decide +kernel
theorem dX3_init_23 : decode cX3_init 23 = .ok (.putfield 18, 3) := by decide +kernel
theorem dX3_init_26 : decode cX3_init 26 = .ok (.aload_n 0, 1) := by decide +kernel
theorem dX3_init_27 : decode cX3_init 27 = .ok (.bipush 12, 2) := by decide +kernel
theorem dX3_init_29 : decode cX3_init 29 = .ok (.anewarray 21, 3) := by decide +kernel
theorem dX3_init_32 : decode cX3_init 32 = .ok (.putfield 23, 3) := by decide +kernel
theorem dX3_init_35 : decode cX3_init 35 = .ok (.aload_n 0, 1) := by decide +kernel
theorem dX3_init_36 : decode cX3_init 36 = .ok (.iconst 1, 1) := by decide +kernel
theorem dX3_init_37 : decode cX3_init 37 = .ok (.putfield 27, 3) := by decide +kernel
theorem dX3_init_40 : decode cX3_init 40 = .ok (.aload_n 0, 1) := by decide +kernel
theorem dX3_init_41 : decode cX3_init 41 = .ok (.iconst 1, 1) := by decide +kernel
theorem dX3_init_42 : decode cX3_init 42 = .ok (.putfield 31, 3) := by decide +kernel
theorem dX3_init_45 : decode cX3_init 45 = .ok (.aload_n 0, 1) := by decide +kernel
theorem dX3_init_46 : decode cX3_init 46 = .ok (.iconst 0, 1) := by decide +kernel
theorem dX3_init_47 : decode cX3_init 47 = .ok (.putfield 34, 3) := by decide +kernel
theorem dX3_init_50 : decode cX3_init 50 = .ok (.aload_n 0, 1) := by decide +kernel
theorem dX3_init_51 : decode cX3_init 51 = .ok (.iconst (-1), 1) := by decide +kernel
theorem dX3_init_52 : decode cX3_init 52 = .ok (.putfield 37, 3) := by decide +kernel
theorem dX3_init_55 : decode cX3_init 55 = .ok (.aload_n 0, 1) := by decide +kernel
theorem dX3_init_56 : decode cX3_init 56 = .ok (.iload_n 1, 1) := by decide +kernel
theorem dX3_init_57 : decode cX3_init 57 = .ok (.anewarray 40, 3) := by decide +kernel
theorem dX3_init_60 : decode cX3_init 60 = .ok (.putfield 42, 3) := by decide +kernel
theorem dX3_init_63 : decode cX3_init 63 = .ok (.iconst 0, 1) := by decide +kernel
theorem dX3_init_64 : decode cX3_init 64 = .ok (.istore_n 2, 1) := by decide +kernel
theorem dX3_init_65 : decode cX3_init 65 = .ok (.iload_n 2, 1) := by decide +kernel
theorem dX3_init_66 : decode cX3_init 66 = .ok (.iload_n 1, 1) := by decide +kernel
theorem dX3_init_67 : decode cX3_init 67 = .ok (.if_icmp .ge 22, 3) := by decide +kernel
theorem dX3_init_70 : decode cX3_init 70 = .ok (.aload_n 0, 1) := by decide +kernel
theorem dX3_init_71 : decode cX3_init 71 = .ok (.getfield 42, 3) := by decide +kernel
theorem dX3_init_74 : decode cX3_init 74 = .ok (.iload_n 2, 1) := by decide +kernel
theorem dX3_init_75 : decode cX3_init 75 = .ok (.new 40, 3) := by decide +kernel
theorem dX3_init_78 : decode cX3_init 78 = .ok (.dup, 1) := by decide +kernel
theorem dX3_init_79 : decode cX3_init 79 = .ok (.invokespecial 46, 3) := by decide +kernel
theorem dX3_init_82 : decode cX3_init 82 = .ok (.aastore, 1) := by decide +kernel
theorem dX3_init_83 : decode cX3_init 83 = .ok (.iinc 2 1, 3) := by decide +kernel
theorem dX3_init_86 : decode cX3_init 86 = .ok (.goto (-21), 3) := by decide +kernel
theorem dX3_init_89 : decode cX3_init 89 = .ok (.iconst 0, 1) := by decide +kernel
theorem dX3_init_90 : decode cX3_init 90 = .ok (.istore_n 2, 1) := by decide +kernel
theorem dX3_init_91 : decode cX3_init 91 = .ok (.iload_n 2, 1) := by decide +kernel
theorem dX3_init_92 : decode cX3_init 92 = .ok (.bipush 12, 2) := by decide +kernel
theorem dX3_init_94 : decode cX3_init 94 = .ok (.if_icmp .ge 22, 3) := by decide +kernel
theorem dX3_init_97 : decode cX3_init 97 = .ok (.aload_n 0, 1) := by decide +kernel
theorem dX3_init_98 : decode cX3_init 98 = .ok (.getfield 23, 3) := by decide +kernel
theorem dX3_init_101 : decode cX3_init 101 = .ok (.iload_n 2, 1) := by decide +kernel
theorem dX3_init_102 : decode cX3_init 102 = .ok (.new 21, 3) := by decide +kernel
theorem dX3_init_105 : decode cX3_init 105 = .ok (.dup, 1) := by decide +kernel
theorem dX3_init_106 : decode cX3_init 106 = .ok (.invokespecial 47, 3) := by decide +kernel
theorem dX3_init_109 : decode cX3_init 109 = .ok (.aastore, 1) := by decide +kernel
theorem dX3_init_110 : decode cX3_init 110 = .ok (.iinc 2 1, 3) := by decide +kernel
theorem dX3_init_113 : decode cX3_init 113 = .ok (.goto (-22), 3) := by decide +kernel
theorem dX3_init_116 : decode cX3_init 116 = .ok (.return_, 1) := by decide +kernel
theorem dX3_addFan_0 : decode cX3_addFan 0 = .ok (.aload_n 0, 1) := by decide +kernel
theorem dX3_addFan_1 : decode cX3_addFan 1 = .ok (.getfield 48, 3) := by decide +kernel
theorem dX3_addFan_4 : decode cX3_addFan 4 = .ok (.istore_n 2, 1) := by decide +kernel
theorem dX3_addFan_5 : decode cX3_addFan 5 = .ok (.iload_n 2, 1) := by decide +kernel
theorem dX3_addFan_6 : decode cX3_addFan 6 = .ok (.aload_n 0, 1) := by decide +kernel
theorem dX3_addFan_7 : decode cX3_addFan 7 = .ok (.getfield 23, 3) := by decide +kernel
theorem dX3_addFan_10 : decode cX3_addFan 10 = .ok (.arraylength, 1) := by decide +kernel
theorem dX3_addFan_11 : decode cX3_addFan 11 = .ok (.if_icmp .ge 23, 3) := by decide +kernel
theorem dX3_addFan_14 : decode cX3_addFan 14 = .ok (.aload_n 0, 1) := by decide +kernel
theorem dX3_addFan_15 : decode cX3_addFan 15 = .ok (.getfield 23, 3) := by decide +kernel
theorem dX3_addFan_18 : decode cX3_addFan 18 = .ok (.iload_n 2, 1) := by decide +kernel
theorem dX3_addFan_19 : decode cX3_addFan 19 = .ok (.aaload, 1) := by decide +kernel
theorem dX3_addFan_20 : decode cX3_addFan 20 = .ok (.iload_n 1, 1) := by decide +kernel
theorem dX3_addFan_21 : decode cX3_addFan 21 = .ok (.putfield 51, 3) := by decide +kernel
theorem dX3_addFan_24 : decode cX3_addFan 24 = .ok (.aload_n 0, 1) := by decide +kernel
theorem dX3_addFan_25 : decode cX3_addFan 25 = .ok (.dup, 1) := by decide +kernel
theorem dX3_addFan_26 : decode cX3_addFan 26 = .ok (.getfield 48, 3) := by decide +kernel
theorem dX3_addFan_29 : decode cX3_addFan 29 = .ok (.iconst 1, 1) := by decide +kernel
theorem dX3_addFan_30 : decode cX3_addFan 30 = .ok (.iadd, 1) := by decide +kernel
theorem dX3_addFan_31 : decode cX3_addFan 31 = .ok (.putfield 48, 3) := by decide +kernel
theorem dX3_addFan_34 : decode cX3_addFan 34 = .ok (.iload_n 2, 1) := by decide +kernel
theorem dX3_addFan_35 : decode cX3_addFan 35 = .ok (.ireturn, 1) := by decide +kernel
theorem dX3_deviceAt_0 : decode cX3_deviceAt 0 = .ok (.iload_n 1, 1) := by decide +kernel
theorem dX3_deviceAt_1 : decode cX3_deviceAt 1 = .ok (.ifCond .ne 8, 3) := by decide +kernel
theorem dX3_deviceAt_4 : decode cX3_deviceAt 4 = .ok (.aload_n 0, 1) := by decide +kernel
theorem dX3_deviceAt_5 : decode cX3_deviceAt 5 = .ok (.getfield 12, 3) := by decide +kernel
theorem dX3_deviceAt_8 : decode cX3_deviceAt 8 = .ok (.areturn, 1) := by decide +kernel
theorem dX3_deviceAt_9 : decode cX3_deviceAt 9 = .ok (.iload_n 1, 1) := by decide +kernel
theorem dX3_deviceAt_10 : decode cX3_deviceAt 10 = .ok (.iconst 1, 1) := by decide +kernel
theorem dX3_deviceAt_11 : decode cX3_deviceAt 11 = .ok (.if_icmp .ne 10, 3) := by decide +kernel
theorem dX3_deviceAt_14 : decode cX3_deviceAt 14 = .ok (.aload_n 0, 1) := by decide +kernel
theorem dX3_deviceAt_15 : decode cX3_deviceAt 15 = .ok (.getfield 18, 3) := by decide +kernel
theorem dX3_deviceAt_18 : decode cX3_deviceAt 18 = .ok (.goto 11, 3) := by decide +kernel
theorem dX3_deviceAt_21 : decode cX3_deviceAt 21 = .ok (.aload_n 0, 1) := by decide +kernel
theorem dX3_deviceAt_22 : decode cX3_deviceAt 22 = .ok (.getfield 23, 3) := by decide +kernel
theorem dX3_deviceAt_25 : decode cX3_deviceAt 25 = .ok (.iload_n 1, 1) := by decide +kernel
theorem dX3_deviceAt_26 : decode cX3_deviceAt 26 = .ok (.iconst 2, 1) := by decide +kernel
theorem dX3_deviceAt_27 : decode cX3_deviceAt 27 = .ok (.isub, 1) := by decide +kernel
theorem dX3_deviceAt_28 : decode cX3_deviceAt 28 = .ok (.aaload, 1) := by decide +kernel
theorem dX3_deviceAt_29 : decode cX3_deviceAt 29 = .ok (.areturn, 1) := by decide +kernel
set_option maxRecDepth 20000 in
theorem ggX3_judgeFire_X3_bestCandidate : GoodIn wsX3_judgeFire wsX3_bestCandidate := goodIn_r _ [9, 2, 10, 3, 11, 12, 13, 8, 14, 15, 16, 17, 18, 19, 20, 21, 22, 23, 24, 25, 26, 27, 28, 29, 42, 43, 44, 45, 46, 47, 48, 49, 50, 51, 52, 53, 54, 55, 56, 57, 58, 59, 60, 61] (by decide +kernel) (by decide +kernel)
set_option maxRecDepth 20000 in
theorem gX3_judgeFire_X3_bestCandidate : GoodIn wsX3_judgeFire (wsV RX3 54 RX3 yX3_bestCandidate wsX3_bestCandidate) := goodIn_app (goodIn_of _ (by decide +kernel)) ggX3_judgeFire_X3_bestCandidate
set_option maxRecDepth 20000 in
theorem ggX3_judgeFire_X3_judgeSuspicion : GoodIn wsX3_judgeFire wsX3_judgeSuspicion := goodIn_r _ [33, 1, 4, 34, 35, 36, 8, 37, 2, 15, 16, 17, 18, 19, 20, 21, 42, 43, 44, 45, 46, 47, 48, 49, 50, 51, 52, 53, 54, 55, 56, 57, 58, 59, 60, 61] (by decide +kernel) (by decide +kernel)
set_option maxRecDepth 20000 in
theorem gX3_judgeFire_X3_judgeSuspicion : GoodIn wsX3_judgeFire (wsV RX3 58 RX3 yX3_judgeSuspicion wsX3_judgeSuspicion) := goodIn_app (goodIn_of _ (by decide +kernel)) ggX3_judgeFire_X3_judgeSuspicion
set_option maxRecDepth 20000 in
theorem ggX3_judgeFire_X3_fireRank : GoodIn wsX3_judgeFire wsX3_fireRank := goodIn_r _ [41, 4, 2, 3, 42, 43, 44, 45, 46, 47, 48, 49, 50, 51, 52, 53, 54, 55, 56, 57, 58, 59, 60, 61] (by decide +kernel) (by decide +kernel)
set_option maxRecDepth 20000 in
theorem gX3_judgeFire_X3_fireRank : GoodIn wsX3_judgeFire (wsV RX3 64 RX3 yX3_fireRank wsX3_fireRank) := goodIn_app (goodIn_of _ (by decide +kernel)) ggX3_judgeFire_X3_fireRank
theorem dX3_judgeFire_0 : decode cX3_judgeFire 0 = .ok (.aload_n 0, 1) := by decide +kernel
theorem dX3_judgeFire_1 : decode cX3_judgeFire 1 = .ok (.invokevirtual 54, 3) := by decide +kernel
theorem dX3_judgeFire_4 : decode cX3_judgeFire 4 = .ok (.istore_n 1, 1) := by decide +kernel
theorem dX3_judgeFire_5 : decode cX3_judgeFire 5 = .ok (.iload_n 1, 1) := by decide +kernel
theorem dX3_judgeFire_6 : decode cX3_judgeFire 6 = .ok (.iconst (-1), 1) := by decide +kernel
theorem dX3_judgeFire_7 : decode cX3_judgeFire 7 = .ok (.if_icmp .ne 10, 3) := by decide +kernel
theorem dX3_judgeFire_10 : decode cX3_judgeFire 10 = .ok (.aload_n 0, 1) := by decide +kernel
theorem dX3_judgeFire_11 : decode cX3_judgeFire 11 = .ok (.invokevirtual 58, 3) := by decide +kernel
theorem dX3_judgeFire_14 : decode cX3_judgeFire 14 = .ok (.goto 37, 3) := by decide +kernel
theorem dX3_judgeFire_17 : decode cX3_judgeFire 17 = .ok (.aload_n 0, 1) := by decide +kernel
theorem dX3_judgeFire_18 : decode cX3_judgeFire 18 = .ok (.getfield 34, 3) := by decide +kernel
theorem dX3_judgeFire_21 : decode cX3_judgeFire 21 = .ok (.iconst 2, 1) := by decide +kernel
theorem dX3_judgeFire_22 : decode cX3_judgeFire 22 = .ok (.if_icmp .ne 19, 3) := by decide +kernel
theorem dX3_judgeFire_25 : decode cX3_judgeFire 25 = .ok (.aload_n 0, 1) := by decide +kernel
theorem dX3_judgeFire_26 : decode cX3_judgeFire 26 = .ok (.getfield 42, 3) := by decide +kernel
theorem dX3_judgeFire_29 : decode cX3_judgeFire 29 = .ok (.iload_n 1, 1) := by decide +kernel
theorem dX3_judgeFire_30 : decode cX3_judgeFire 30 = .ok (.aaload, 1) := by decide +kernel
theorem dX3_judgeFire_31 : decode cX3_judgeFire 31 = .ok (.getfield 61, 3) := by decide +kernel
theorem dX3_judgeFire_34 : decode cX3_judgeFire 34 = .ok (.aload_n 0, 1) := by decide +kernel
theorem dX3_judgeFire_35 : decode cX3_judgeFire 35 = .ok (.invokevirtual 64, 3) := by decide +kernel
theorem dX3_judgeFire_38 : decode cX3_judgeFire 38 = .ok (.if_icmp .le 13, 3) := by decide +kernel
theorem dX3_judgeFire_41 : decode cX3_judgeFire 41 = .ok (.aload_n 0, 1) := by decide +kernel
theorem dX3_judgeFire_42 : decode cX3_judgeFire 42 = .ok (.iconst 2, 1) := by decide +kernel
theorem dX3_judgeFire_43 : decode cX3_judgeFire 43 = .ok (.putfield 34, 3) := by decide +kernel
theorem dX3_judgeFire_46 : decode cX3_judgeFire 46 = .ok (.aload_n 0, 1) := by decide +kernel
theorem dX3_judgeFire_47 : decode cX3_judgeFire 47 = .ok (.iload_n 1, 1) := by decide +kernel
theorem dX3_judgeFire_48 : decode cX3_judgeFire 48 = .ok (.putfield 37, 3) := by decide +kernel
theorem dX3_judgeFire_51 : decode cX3_judgeFire 51 = .ok (.return_, 1) := by decide +kernel
set_option maxRecDepth 20000 in
theorem ggX3_judgeSuspicion_X3_leastOn : GoodIn wsX3_judgeSuspicion wsX3_leastOn := goodIn_r _ [7, 8, 9, 10, 11, 12, 13, 14, 15, 16, 17, 18, 19, 20, 21, 22, 23, 24, 25, 26, 27, 28, 29, 30, 31, 32, 33, 34, 35] (by decide +kernel) (by decide +kernel)
set_option maxRecDepth 20000 in
theorem gX3_judgeSuspicion_X3_leastOn : GoodIn wsX3_judgeSuspicion (wsV RX3 67 RX3 yX3_leastOn wsX3_leastOn) := goodIn_app (goodIn_of _ (by decide +kernel)) ggX3_judgeSuspicion_X3_leastOn
theorem dX3_judgeSuspicion_0 : decode cX3_judgeSuspicion 0 = .ok (.aload_n 0, 1) := by decide +kernel
theorem dX3_judgeSuspicion_1 : decode cX3_judgeSuspicion 1 = .ok (.getfield 34, 3) := by decide +kernel
theorem dX3_judgeSuspicion_4 : decode cX3_judgeSuspicion 4 = .ok (.iconst 2, 1) := by decide +kernel
theorem dX3_judgeSuspicion_5 : decode cX3_judgeSuspicion 5 = .ok (.if_icmp .eq 28, 3) := by decide +kernel
theorem dX3_judgeSuspicion_8 : decode cX3_judgeSuspicion 8 = .ok (.aload_n 0, 1) := by decide +kernel
theorem dX3_judgeSuspicion_9 : decode cX3_judgeSuspicion 9 = .ok (.aload_n 0, 1) := by decide +kernel
theorem dX3_judgeSuspicion_10 : decode cX3_judgeSuspicion 10 = .ok (.invokevirtual 67, 3) := by decide +kernel
theorem dX3_judgeSuspicion_13 : decode cX3_judgeSuspicion 13 = .ok (.putfield 37, 3) := by decide +kernel
theorem dX3_judgeSuspicion_16 : decode cX3_judgeSuspicion 16 = .ok (.aload_n 0, 1) := by decide +kernel
theorem dX3_judgeSuspicion_17 : decode cX3_judgeSuspicion 17 = .ok (.aload_n 0, 1) := by decide +kernel
theorem dX3_judgeSuspicion_18 : decode cX3_judgeSuspicion 18 = .ok (.getfield 37, 3) := by decide +kernel
theorem dX3_judgeSuspicion_21 : decode cX3_judgeSuspicion 21 = .ok (.iconst (-1), 1) := by decide +kernel
theorem dX3_judgeSuspicion_22 : decode cX3_judgeSuspicion 22 = .ok (.if_icmp .ne 7, 3) := by decide +kernel
theorem dX3_judgeSuspicion_25 : decode cX3_judgeSuspicion 25 = .ok (.iconst 0, 1) := by decide +kernel
theorem dX3_judgeSuspicion_26 : decode cX3_judgeSuspicion 26 = .ok (.goto 4, 3) := by decide +kernel
theorem dX3_judgeSuspicion_29 : decode cX3_judgeSuspicion 29 = .ok (.iconst 1, 1) := by decide +kernel
theorem dX3_judgeSuspicion_30 : decode cX3_judgeSuspicion 30 = .ok (.putfield 34, 3) := by decide +kernel
theorem dX3_judgeSuspicion_33 : decode cX3_judgeSuspicion 33 = .ok (.return_, 1) := by decide +kernel
set_option maxRecDepth 20000 in
theorem ggX3_bestCandidate_X3_leastOfPair : GoodIn wsX3_bestCandidate wsX3_leastOfPair := goodIn_r _ [8, 1, 9, 10, 11, 12, 13, 14, 15, 16, 17, 18, 7, 19, 20, 21, 22, 23, 24, 25, 26, 27, 28, 29, 30, 31, 32, 33, 34, 35, 36, 37, 38, 39, 40, 41, 42, 43] (by decide +kernel) (by decide +kernel)
set_option maxRecDepth 20000 in
theorem gX3_bestCandidate_X3_leastOfPair : GoodIn wsX3_bestCandidate (wsV RX3 70 RX3 yX3_leastOfPair wsX3_leastOfPair) := goodIn_app (goodIn_of _ (by decide +kernel)) ggX3_bestCandidate_X3_leastOfPair
theorem dX3_bestCandidate_0 : decode cX3_bestCandidate 0 = .ok (.aload_n 0, 1) := by decide +kernel
theorem dX3_bestCandidate_1 : decode cX3_bestCandidate 1 = .ok (.invokevirtual 70, 3) := by decide +kernel
theorem dX3_bestCandidate_4 : decode cX3_bestCandidate 4 = .ok (.istore_n 1, 1) := by decide +kernel
theorem dX3_bestCandidate_5 : decode cX3_bestCandidate 5 = .ok (.iconst (-1), 1) := by decide +kernel
theorem dX3_bestCandidate_6 : decode cX3_bestCandidate 6 = .ok (.istore_n 2, 1) := by decide +kernel
theorem dX3_bestCandidate_7 : decode cX3_bestCandidate 7 = .ok (.iconst 0, 1) := by decide +kernel
theorem dX3_bestCandidate_8 : decode cX3_bestCandidate 8 = .ok (.istore_n 3, 1) := by decide +kernel
theorem dX3_bestCandidate_9 : decode cX3_bestCandidate 9 = .ok (.iload_n 3, 1) := by decide +kernel
theorem dX3_bestCandidate_10 : decode cX3_bestCandidate 10 = .ok (.aload_n 0, 1) := by decide +kernel
theorem dX3_bestCandidate_11 : decode cX3_bestCandidate 11 = .ok (.getfield 42, 3) := by decide +kernel
theorem dX3_bestCandidate_14 : decode cX3_bestCandidate 14 = .ok (.arraylength, 1) := by decide +kernel
theorem dX3_bestCandidate_15 : decode cX3_bestCandidate 15 = .ok (.if_icmp .ge 66, 3) := by decide +kernel
theorem dX3_bestCandidate_18 : decode cX3_bestCandidate 18 = .ok (.aload_n 0, 1) := by decide +kernel
theorem dX3_bestCandidate_19 : decode cX3_bestCandidate 19 = .ok (.getfield 42, 3) := by decide +kernel
theorem dX3_bestCandidate_22 : decode cX3_bestCandidate 22 = .ok (.iload_n 3, 1) := by decide +kernel
theorem dX3_bestCandidate_23 : decode cX3_bestCandidate 23 = .ok (.aaload, 1) := by decide +kernel
theorem dX3_bestCandidate_24 : decode cX3_bestCandidate 24 = .ok (.getfield 73, 3) := by decide +kernel
theorem dX3_bestCandidate_27 : decode cX3_bestCandidate 27 = .ok (.ifCond .ne 8, 3) := by decide +kernel
theorem dX3_bestCandidate_30 : decode cX3_bestCandidate 30 = .ok (.iload_n 3, 1) := by decide +kernel
theorem dX3_bestCandidate_31 : decode cX3_bestCandidate 31 = .ok (.iload_n 1, 1) := by decide +kernel
theorem dX3_bestCandidate_32 : decode cX3_bestCandidate 32 = .ok (.if_icmp .ne 7, 3) := by decide +kernel
theorem dX3_bestCandidate_35 : decode cX3_bestCandidate 35 = .ok (.iconst 1, 1) := by decide +kernel
theorem dX3_bestCandidate_36 : decode cX3_bestCandidate 36 = .ok (.goto 4, 3) := by decide +kernel
theorem dX3_bestCandidate_39 : decode cX3_bestCandidate 39 = .ok (.iconst 0, 1) := by decide +kernel
theorem dX3_bestCandidate_40 : decode cX3_bestCandidate 40 = .ok (.istore 4, 2) := by decide +kernel
theorem dX3_bestCandidate_42 : decode cX3_bestCandidate 42 = .ok (.iload 4, 2) := by decide +kernel
theorem dX3_bestCandidate_44 : decode cX3_bestCandidate 44 = .ok (.ifCond .eq 31, 3) := by decide +kernel
theorem dX3_bestCandidate_47 : decode cX3_bestCandidate 47 = .ok (.iload_n 2, 1) := by decide +kernel
theorem dX3_bestCandidate_48 : decode cX3_bestCandidate 48 = .ok (.iconst (-1), 1) := by decide +kernel
theorem dX3_bestCandidate_49 : decode cX3_bestCandidate 49 = .ok (.if_icmp .eq 24, 3) := by decide +kernel
theorem dX3_bestCandidate_52 : decode cX3_bestCandidate 52 = .ok (.aload_n 0, 1) := by decide +kernel
theorem dX3_bestCandidate_53 : decode cX3_bestCandidate 53 = .ok (.getfield 42, 3) := by decide +kernel
theorem dX3_bestCandidate_56 : decode cX3_bestCandidate 56 = .ok (.iload_n 3, 1) := by decide +kernel
theorem dX3_bestCandidate_57 : decode cX3_bestCandidate 57 = .ok (.aaload, 1) := by decide +kernel
theorem dX3_bestCandidate_58 : decode cX3_bestCandidate 58 = .ok (.getfield 61, 3) := by decide +kernel
theorem dX3_bestCandidate_61 : decode cX3_bestCandidate 61 = .ok (.aload_n 0, 1) := by decide +kernel
theorem dX3_bestCandidate_62 : decode cX3_bestCandidate 62 = .ok (.getfield 42, 3) := by decide +kernel
theorem dX3_bestCandidate_65 : decode cX3_bestCandidate 65 = .ok (.iload_n 2, 1) := by decide +kernel
theorem dX3_bestCandidate_66 : decode cX3_bestCandidate 66 = .ok (.aaload, 1) := by decide +kernel
theorem dX3_bestCandidate_67 : decode cX3_bestCandidate 67 = .ok (.getfield 61, 3) := by decide +kernel
theorem dX3_bestCandidate_70 : decode cX3_bestCandidate 70 = .ok (.if_icmp .le 5, 3) := by decide +kernel
theorem dX3_bestCandidate_73 : decode cX3_bestCandidate 73 = .ok (.iload_n 3, 1) := by decide +kernel
theorem dX3_bestCandidate_74 : decode cX3_bestCandidate 74 = .ok (.istore_n 2, 1) := by decide +kernel
theorem dX3_bestCandidate_75 : decode cX3_bestCandidate 75 = .ok (.iinc 3 1, 3) := by decide +kernel
theorem dX3_bestCandidate_78 : decode cX3_bestCandidate 78 = .ok (.goto (-69), 3) := by decide +kernel
theorem dX3_bestCandidate_81 : decode cX3_bestCandidate 81 = .ok (.iload_n 2, 1) := by decide +kernel
theorem dX3_bestCandidate_82 : decode cX3_bestCandidate 82 = .ok (.ireturn, 1) := by decide +kernel
set_option maxRecDepth 20000 in
theorem ggX3_leastOfPair_X2_isOn : GoodIn wsX3_leastOfPair wsX2_isOn := goodIn_r _ [6, 7, 8, 30, 31, 32, 33, 34, 35, 36, 37] (by decide +kernel) (by decide +kernel)
set_option maxRecDepth 20000 in
theorem gX3_leastOfPair_X2_isOn : GoodIn wsX3_leastOfPair (wsV RX3 77 RX2 yX2_isOn wsX2_isOn) := goodIn_app (goodIn_of _ (by decide +kernel)) ggX3_leastOfPair_X2_isOn
set_option maxRecDepth 20000 in
theorem ggX3_leastOfPair_X3_isOnCloseAbove : GoodIn wsX3_leastOfPair wsX3_isOnCloseAbove := goodIn_r _ [13, 1, 14, 15, 16, 17, 2, 3, 4, 5, 6, 7, 8, 18, 19, 20, 21, 22, 23, 24, 25, 26, 27, 28, 29, 30, 31, 32, 33, 34, 35, 36, 37] (by decide +kernel) (by decide +kernel)
set_option maxRecDepth 20000 in
theorem gX3_leastOfPair_X3_isOnCloseAbove : GoodIn wsX3_leastOfPair (wsV RX3 81 RX3 yX3_isOnCloseAbove wsX3_isOnCloseAbove) := goodIn_app (goodIn_of _ (by decide +kernel)) ggX3_leastOfPair_X3_isOnCloseAbove
theorem dX3_leastOfPair_0 : decode cX3_leastOfPair 0 = .ok (.iconst 0, 1) := by decide +kernel
theorem dX3_leastOfPair_1 : decode cX3_leastOfPair 1 = .ok (.istore_n 1, 1) := by decide +kernel
theorem dX3_leastOfPair_2 : decode cX3_leastOfPair 2 = .ok (.iload_n 1, 1) := by decide +kernel
theorem dX3_leastOfPair_3 : decode cX3_leastOfPair 3 = .ok (.aload_n 0, 1) := by decide +kernel
theorem dX3_leastOfPair_4 : decode cX3_leastOfPair 4 = .ok (.getfield 42, 3) := by decide +kernel
theorem dX3_leastOfPair_7 : decode cX3_leastOfPair 7 = .ok (.arraylength, 1) := by decide +kernel
theorem dX3_leastOfPair_8 : decode cX3_leastOfPair 8 = .ok (.if_icmp .ge 31, 3) := by decide +kernel
theorem dX3_leastOfPair_11 : decode cX3_leastOfPair 11 = .ok (.aload_n 0, 1) := by decide +kernel
theorem dX3_leastOfPair_12 : decode cX3_leastOfPair 12 = .ok (.getfield 42, 3) := by decide +kernel
theorem dX3_leastOfPair_15 : decode cX3_leastOfPair 15 = .ok (.iload_n 1, 1) := by decide +kernel
theorem dX3_leastOfPair_16 : decode cX3_leastOfPair 16 = .ok (.aaload, 1) := by decide +kernel
theorem dX3_leastOfPair_17 : decode cX3_leastOfPair 17 = .ok (.invokevirtual 77, 3) := by decide +kernel
theorem dX3_leastOfPair_20 : decode cX3_leastOfPair 20 = .ok (.ifCond .eq 13, 3) := by decide +kernel
theorem dX3_leastOfPair_23 : decode cX3_leastOfPair 23 = .ok (.aload_n 0, 1) := by decide +kernel
theorem dX3_leastOfPair_24 : decode cX3_leastOfPair 24 = .ok (.iload_n 1, 1) := by decide +kernel
theorem dX3_leastOfPair_25 : decode cX3_leastOfPair 25 = .ok (.invokevirtual 81, 3) := by decide +kernel
theorem dX3_leastOfPair_28 : decode cX3_leastOfPair 28 = .ok (.ifCond .eq 5, 3) := by decide +kernel
theorem dX3_leastOfPair_31 : decode cX3_leastOfPair 31 = .ok (.iload_n 1, 1) := by decide +kernel
theorem dX3_leastOfPair_32 : decode cX3_leastOfPair 32 = .ok (.ireturn, 1) := by decide +kernel
theorem dX3_leastOfPair_33 : decode cX3_leastOfPair 33 = .ok (.iinc 1 1, 3) := by decide +kernel
theorem dX3_leastOfPair_36 : decode cX3_leastOfPair 36 = .ok (.goto (-34), 3) := by decide +kernel
theorem dX3_leastOfPair_39 : decode cX3_leastOfPair 39 = .ok (.iconst (-1), 1) := by decide +kernel
theorem dX3_leastOfPair_40 : decode cX3_leastOfPair 40 = .ok (.ireturn, 1) := by decide +kernel
set_option maxRecDepth 20000 in
theorem ggX3_isOnCloseAbove_X2_isOn : GoodIn wsX3_isOnCloseAbove wsX2_isOn := goodIn_r _ [10, 11, 12, 25, 26, 27, 28, 29, 30, 31, 32] (by decide +kernel) (by decide +kernel)
set_option maxRecDepth 20000 in
theorem gX3_isOnCloseAbove_X2_isOn : GoodIn wsX3_isOnCloseAbove (wsV RX3 77 RX2 yX2_isOn wsX2_isOn) := goodIn_app (goodIn_of _ (by decide +kernel)) ggX3_isOnCloseAbove_X2_isOn
theorem dX3_isOnCloseAbove_0 : decode cX3_isOnCloseAbove 0 = .ok (.iload_n 1, 1) := by decide +kernel
theorem dX3_isOnCloseAbove_1 : decode cX3_isOnCloseAbove 1 = .ok (.iconst 3, 1) := by decide +kernel
theorem dX3_isOnCloseAbove_2 : decode cX3_isOnCloseAbove 2 = .ok (.iadd, 1) := by decide +kernel
theorem dX3_isOnCloseAbove_3 : decode cX3_isOnCloseAbove 3 = .ok (.aload_n 0, 1) := by decide +kernel
theorem dX3_isOnCloseAbove_4 : decode cX3_isOnCloseAbove 4 = .ok (.getfield 42, 3) := by decide +kernel
theorem dX3_isOnCloseAbove_7 : decode cX3_isOnCloseAbove 7 = .ok (.arraylength, 1) := by decide +kernel
theorem dX3_isOnCloseAbove_8 : decode cX3_isOnCloseAbove 8 = .ok (.iconst 1, 1) := by decide +kernel
theorem dX3_isOnCloseAbove_9 : decode cX3_isOnCloseAbove 9 = .ok (.isub, 1) := by decide +kernel
theorem dX3_isOnCloseAbove_10 : decode cX3_isOnCloseAbove 10 = .ok (.invokestatic 85, 3) := by decide +kernel
theorem dX3_isOnCloseAbove_13 : decode cX3_isOnCloseAbove 13 = .ok (.istore_n 2, 1) := by decide +kernel
theorem dX3_isOnCloseAbove_14 : decode cX3_isOnCloseAbove 14 = .ok (.iload_n 1, 1) := by decide +kernel
theorem dX3_isOnCloseAbove_15 : decode cX3_isOnCloseAbove 15 = .ok (.iconst 1, 1) := by decide +kernel
theorem dX3_isOnCloseAbove_16 : decode cX3_isOnCloseAbove 16 = .ok (.iadd, 1) := by decide +kernel
theorem dX3_isOnCloseAbove_17 : decode cX3_isOnCloseAbove 17 = .ok (.istore_n 3, 1) := by decide +kernel
theorem dX3_isOnCloseAbove_18 : decode cX3_isOnCloseAbove 18 = .ok (.iload_n 3, 1) := by decide +kernel
theorem dX3_isOnCloseAbove_19 : decode cX3_isOnCloseAbove 19 = .ok (.iload_n 2, 1) := by decide +kernel
theorem dX3_isOnCloseAbove_20 : decode cX3_isOnCloseAbove 20 = .ok (.if_icmp .gt 23, 3) := by decide +kernel
theorem dX3_isOnCloseAbove_23 : decode cX3_isOnCloseAbove 23 = .ok (.aload_n 0, 1) := by decide +kernel
theorem dX3_isOnCloseAbove_24 : decode cX3_isOnCloseAbove 24 = .ok (.getfield 42, 3) := by decide +kernel
theorem dX3_isOnCloseAbove_27 : decode cX3_isOnCloseAbove 27 = .ok (.iload_n 3, 1) := by decide +kernel
theorem dX3_isOnCloseAbove_28 : decode cX3_isOnCloseAbove 28 = .ok (.aaload, 1) := by decide +kernel
theorem dX3_isOnCloseAbove_29 : decode cX3_isOnCloseAbove 29 = .ok (.invokevirtual 77, 3) := by decide +kernel
theorem dX3_isOnCloseAbove_32 : decode cX3_isOnCloseAbove 32 = .ok (.ifCond .eq 5, 3) := by decide +kernel
theorem dX3_isOnCloseAbove_35 : decode cX3_isOnCloseAbove 35 = .ok (.iconst 1, 1) := by decide +kernel
theorem dX3_isOnCloseAbove_36 : decode cX3_isOnCloseAbove 36 = .ok (.ireturn, 1) := by decide +kernel
theorem dX3_isOnCloseAbove_37 : decode cX3_isOnCloseAbove 37 = .ok (.iinc 3 1, 3) := by decide +kernel
theorem dX3_isOnCloseAbove_40 : decode cX3_isOnCloseAbove 40 = .ok (.goto (-22), 3) := by decide +kernel
theorem dX3_isOnCloseAbove_43 : decode cX3_isOnCloseAbove 43 = .ok (.iconst 0, 1) := by decide +kernel
theorem dX3_isOnCloseAbove_44 : decode cX3_isOnCloseAbove 44 = .ok (.ireturn, 1) := by decide +kernel
set_option maxRecDepth 20000 in
theorem ggX3_leastOn_X2_isOn : GoodIn wsX3_leastOn wsX2_isOn := goodIn_r _ [6, 7, 8, 21, 22, 23, 24, 25, 26, 27, 28] (by decide +kernel) (by decide +kernel)
set_option maxRecDepth 20000 in
theorem gX3_leastOn_X2_isOn : GoodIn wsX3_leastOn (wsV RX3 77 RX2 yX2_isOn wsX2_isOn) := goodIn_app (goodIn_of _ (by decide +kernel)) ggX3_leastOn_X2_isOn
theorem dX3_leastOn_0 : decode cX3_leastOn 0 = .ok (.iconst 0, 1) := by decide +kernel
theorem dX3_leastOn_1 : decode cX3_leastOn 1 = .ok (.istore_n 1, 1) := by decide +kernel
theorem dX3_leastOn_2 : decode cX3_leastOn 2 = .ok (.iload_n 1, 1) := by decide +kernel
theorem dX3_leastOn_3 : decode cX3_leastOn 3 = .ok (.aload_n 0, 1) := by decide +kernel
theorem dX3_leastOn_4 : decode cX3_leastOn 4 = .ok (.getfield 42, 3) := by decide +kernel
theorem dX3_leastOn_7 : decode cX3_leastOn 7 = .ok (.arraylength, 1) := by decide +kernel
theorem dX3_leastOn_8 : decode cX3_leastOn 8 = .ok (.if_icmp .ge 23, 3) := by decide +kernel
theorem dX3_leastOn_11 : decode cX3_leastOn 11 = .ok (.aload_n 0, 1) := by decide +kernel
theorem dX3_leastOn_12 : decode cX3_leastOn 12 = .ok (.getfield 42, 3) := by decide +kernel
theorem dX3_leastOn_15 : decode cX3_leastOn 15 = .ok (.iload_n 1, 1) := by decide +kernel
theorem dX3_leastOn_16 : decode cX3_leastOn 16 = .ok (.aaload, 1) := by decide +kernel
theorem dX3_leastOn_17 : decode cX3_leastOn 17 = .ok (.invokevirtual 77, 3) := by decide +kernel
theorem dX3_leastOn_20 : decode cX3_leastOn 20 = .ok (.ifCond .eq 5, 3) := by decide +kernel
theorem dX3_leastOn_23 : decode cX3_leastOn 23 = .ok (.iload_n 1, 1) := by decide +kernel
theorem dX3_leastOn_24 : decode cX3_leastOn 24 = .ok (.ireturn, 1) := by decide +kernel
theorem dX3_leastOn_25 : decode cX3_leastOn 25 = .ok (.iinc 1 1, 3) := by decide +kernel
theorem dX3_leastOn_28 : decode cX3_leastOn 28 = .ok (.goto (-26), 3) := by decide +kernel
theorem dX3_leastOn_31 : decode cX3_leastOn 31 = .ok (.iconst (-1), 1) := by decide +kernel
theorem dX3_leastOn_32 : decode cX3_leastOn 32 = .ok (.ireturn, 1) := by decide +kernel
theorem dX3_fireRank_0 : decode cX3_fireRank 0 = .ok (.aload_n 0, 1) := by decide +kernel
theorem dX3_fireRank_1 : decode cX3_fireRank 1 = .ok (.getfield 37, 3) := by decide +kernel
theorem dX3_fireRank_4 : decode cX3_fireRank 4 = .ok (.iconst (-1), 1) := by decide +kernel
theorem dX3_fireRank_5 : decode cX3_fireRank 5 = .ok (.if_icmp .ne 7, 3) := by decide +kernel
theorem dX3_fireRank_8 : decode cX3_fireRank 8 = .ok (.iconst (-1), 1) := by decide +kernel
theorem dX3_fireRank_9 : decode cX3_fireRank 9 = .ok (.goto 15, 3) := by decide +kernel
theorem dX3_fireRank_12 : decode cX3_fireRank 12 = .ok (.aload_n 0, 1) := by decide +kernel
theorem dX3_fireRank_13 : decode cX3_fireRank 13 = .ok (.getfield 42, 3) := by decide +kernel
theorem dX3_fireRank_16 : decode cX3_fireRank 16 = .ok (.aload_n 0, 1) := by decide +kernel
theorem dX3_fireRank_17 : decode cX3_fireRank 17 = .ok (.getfield 37, 3) := by decide +kernel
theorem dX3_fireRank_20 : decode cX3_fireRank 20 = .ok (.aaload, 1) := by decide +kernel
theorem dX3_fireRank_21 : decode cX3_fireRank 21 = .ok (.getfield 61, 3) := by decide +kernel
theorem dX3_fireRank_24 : decode cX3_fireRank 24 = .ok (.ireturn, 1) := by decide +kernel
theorem dX3_pullWhereSuspected_0 : decode cX3_pullWhereSuspected 0 = .ok (.aload_n 0, 1) := by decide +kernel
theorem dX3_pullWhereSuspected_1 : decode cX3_pullWhereSuspected 1 = .ok (.getfield 34, 3) := by decide +kernel
theorem dX3_pullWhereSuspected_4 : decode cX3_pullWhereSuspected 4 = .ok (.iconst 1, 1) := by decide +kernel
theorem dX3_pullWhereSuspected_5 : decode cX3_pullWhereSuspected 5 = .ok (.if_icmp .ne 11, 3) := by decide +kernel
theorem dX3_pullWhereSuspected_8 : decode cX3_pullWhereSuspected 8 = .ok (.aload_n 0, 1) := by decide +kernel
theorem dX3_pullWhereSuspected_9 : decode cX3_pullWhereSuspected 9 = .ok (.getfield 37, 3) := by decide +kernel
theorem dX3_pullWhereSuspected_12 : decode cX3_pullWhereSuspected 12 = .ok (.iconst (-1), 1) := by decide +kernel
theorem dX3_pullWhereSuspected_13 : decode cX3_pullWhereSuspected 13 = .ok (.if_icmp .ne 5, 3) := by decide +kernel
theorem dX3_pullWhereSuspected_16 : decode cX3_pullWhereSuspected 16 = .ok (.iconst 0, 1) := by decide +kernel
theorem dX3_pullWhereSuspected_17 : decode cX3_pullWhereSuspected 17 = .ok (.ireturn, 1) := by decide +kernel
theorem dX3_pullWhereSuspected_18 : decode cX3_pullWhereSuspected 18 = .ok (.aload_n 0, 1) := by decide +kernel
theorem dX3_pullWhereSuspected_19 : decode cX3_pullWhereSuspected 19 = .ok (.getfield 42, 3) := by decide +kernel
theorem dX3_pullWhereSuspected_22 : decode cX3_pullWhereSuspected 22 = .ok (.aload_n 0, 1) := by decide +kernel
theorem dX3_pullWhereSuspected_23 : decode cX3_pullWhereSuspected 23 = .ok (.getfield 37, 3) := by decide +kernel
theorem dX3_pullWhereSuspected_26 : decode cX3_pullWhereSuspected 26 = .ok (.aaload, 1) := by decide +kernel
theorem dX3_pullWhereSuspected_27 : decode cX3_pullWhereSuspected 27 = .ok (.iconst 1, 1) := by decide +kernel
theorem dX3_pullWhereSuspected_28 : decode cX3_pullWhereSuspected 28 = .ok (.putfield 73, 3) := by decide +kernel
theorem dX3_pullWhereSuspected_31 : decode cX3_pullWhereSuspected 31 = .ok (.iconst 1, 1) := by decide +kernel
theorem dX3_pullWhereSuspected_32 : decode cX3_pullWhereSuspected 32 = .ok (.ireturn, 1) := by decide +kernel
set_option maxRecDepth 20000 in
theorem ggX3_endFire_X3_leastOn : GoodIn wsX3_endFire wsX3_leastOn := goodIn_r _ [9, 1, 10, 11, 12, 13, 14, 15, 16, 17, 18, 19, 20, 21, 22, 23, 24, 25, 26, 27, 28, 29, 30, 31, 32, 33, 34, 35, 36] (by decide +kernel) (by decide +kernel)
set_option maxRecDepth 20000 in
theorem gX3_endFire_X3_leastOn : GoodIn wsX3_endFire (wsV RX3 67 RX3 yX3_leastOn wsX3_leastOn) := goodIn_app (goodIn_of _ (by decide +kernel)) ggX3_endFire_X3_leastOn
theorem dX3_endFire_0 : decode cX3_endFire 0 = .ok (.aload_n 0, 1) := by decide +kernel
theorem dX3_endFire_1 : decode cX3_endFire 1 = .ok (.invokevirtual 67, 3) := by decide +kernel
theorem dX3_endFire_4 : decode cX3_endFire 4 = .ok (.iconst (-1), 1) := by decide +kernel
theorem dX3_endFire_5 : decode cX3_endFire 5 = .ok (.if_icmp .eq 5, 3) := by decide +kernel
theorem dX3_endFire_8 : decode cX3_endFire 8 = .ok (.iconst 0, 1) := by decide +kernel
theorem dX3_endFire_9 : decode cX3_endFire 9 = .ok (.ireturn, 1) := by decide +kernel
theorem dX3_endFire_10 : decode cX3_endFire 10 = .ok (.iconst 0, 1) := by decide +kernel
theorem dX3_endFire_11 : decode cX3_endFire 11 = .ok (.istore_n 1, 1) := by decide +kernel
theorem dX3_endFire_12 : decode cX3_endFire 12 = .ok (.iload_n 1, 1) := by decide +kernel
theorem dX3_endFire_13 : decode cX3_endFire 13 = .ok (.aload_n 0, 1) := by decide +kernel
theorem dX3_endFire_14 : decode cX3_endFire 14 = .ok (.getfield 42, 3) := by decide +kernel
theorem dX3_endFire_17 : decode cX3_endFire 17 = .ok (.arraylength, 1) := by decide +kernel
theorem dX3_endFire_18 : decode cX3_endFire 18 = .ok (.if_icmp .ge 19, 3) := by decide +kernel
theorem dX3_endFire_21 : decode cX3_endFire 21 = .ok (.aload_n 0, 1) := by decide +kernel
theorem dX3_endFire_22 : decode cX3_endFire 22 = .ok (.getfield 42, 3) := by decide +kernel
theorem dX3_endFire_25 : decode cX3_endFire 25 = .ok (.iload_n 1, 1) := by decide +kernel
theorem dX3_endFire_26 : decode cX3_endFire 26 = .ok (.aaload, 1) := by decide +kernel
theorem dX3_endFire_27 : decode cX3_endFire 27 = .ok (.iconst 0, 1) := by decide +kernel
theorem dX3_endFire_28 : decode cX3_endFire 28 = .ok (.putfield 73, 3) := by decide +kernel
theorem dX3_endFire_31 : decode cX3_endFire 31 = .ok (.iinc 1 1, 3) := by decide +kernel
theorem dX3_endFire_34 : decode cX3_endFire 34 = .ok (.goto (-22), 3) := by decide +kernel
theorem dX3_endFire_37 : decode cX3_endFire 37 = .ok (.aload_n 0, 1) := by decide +kernel
theorem dX3_endFire_38 : decode cX3_endFire 38 = .ok (.iconst 0, 1) := by decide +kernel
theorem dX3_endFire_39 : decode cX3_endFire 39 = .ok (.putfield 34, 3) := by decide +kernel
theorem dX3_endFire_42 : decode cX3_endFire 42 = .ok (.aload_n 0, 1) := by decide +kernel
theorem dX3_endFire_43 : decode cX3_endFire 43 = .ok (.iconst (-1), 1) := by decide +kernel
theorem dX3_endFire_44 : decode cX3_endFire 44 = .ok (.putfield 37, 3) := by decide +kernel
theorem dX3_endFire_47 : decode cX3_endFire 47 = .ok (.iconst 1, 1) := by decide +kernel
theorem dX3_endFire_48 : decode cX3_endFire 48 = .ok (.ireturn, 1) := by decide +kernel
theorem dX3_want_0 : decode cX3_want 0 = .ok (.aload_n 0, 1) := by decide +kernel
theorem dX3_want_1 : decode cX3_want 1 = .ok (.iload_n 1, 1) := by decide +kernel
theorem dX3_want_2 : decode cX3_want 2 = .ok (.putfield 31, 3) := by decide +kernel
theorem dX3_want_5 : decode cX3_want 5 = .ok (.aload_n 0, 1) := by decide +kernel
theorem dX3_want_6 : decode cX3_want 6 = .ok (.iload_n 2, 1) := by decide +kernel
theorem dX3_want_7 : decode cX3_want 7 = .ok (.putfield 91, 3) := by decide +kernel
theorem dX3_want_10 : decode cX3_want 10 = .ok (.return_, 1) := by decide +kernel
set_option maxRecDepth 20000 in
theorem ggX3_settleDevices_X0_act : GoodIn wsX3_settleDevices wsX0_act := goodIn_r _ [9, 10, 11, 12, 13, 14, 55, 56, 57, 58, 59, 60, 61, 62, 63, 64, 65, 66, 67, 68, 69] (by decide +kernel) (by decide +kernel)
set_option maxRecDepth 20000 in
theorem gX3_settleDevices_X0_act : GoodIn wsX3_settleDevices (wsV RX3 94 RX0 yX0_act wsX0_act) := goodIn_app (goodIn_of _ (by decide +kernel)) ggX3_settleDevices_X0_act
set_option maxRecDepth 20000 in
theorem gX3_settleDevices_X0_act_u94X1 : GoodIn wsX3_settleDevices (va_wsU RX3 94 RX1 "TunnelWatch$Device" ⟨"TunnelWatch$Device", "act", "(I)V"⟩ yX0_act wsX0_act) := goodIn_app (goodIn_of _ (by decide +kernel)) ggX3_settleDevices_X0_act
set_option maxRecDepth 20000 in
theorem gX3_settleDevices_X0_act_u98X1 : GoodIn wsX3_settleDevices (va_wsU RX3 98 RX1 "TunnelWatch$Device" ⟨"TunnelWatch$Fan", "act", "(I)V"⟩ yX0_act wsX0_act) := goodIn_app (goodIn_of _ (by decide +kernel)) ggX3_settleDevices_X0_act
set_option maxRecDepth 20000 in
theorem ggX3_settleDevices_X1_judgeOut : GoodIn wsX3_settleDevices wsX1_judgeOut := goodIn_r _ [25, 26, 27, 28, 29, 30, 31, 32, 33, 34, 35, 36, 24, 37, 38, 39, 40, 41, 8, 42, 13, 11, 55, 56, 57, 58, 59, 60, 61, 62, 63, 64, 65, 66, 67, 68, 69] (by decide +kernel) (by decide +kernel)
set_option maxRecDepth 20000 in
theorem gX3_settleDevices_X1_judgeOut : GoodIn wsX3_settleDevices (wsV RX3 99 RX1 yX1_judgeOut wsX1_judgeOut) := goodIn_app (goodIn_of _ (by decide +kernel)) ggX3_settleDevices_X1_judgeOut
theorem dX3_settleDevices_0 : decode cX3_settleDevices 0 = .ok (.aload_n 0, 1) := by decide +kernel
theorem dX3_settleDevices_1 : decode cX3_settleDevices 1 = .ok (.getfield 12, 3) := by decide +kernel
theorem dX3_settleDevices_4 : decode cX3_settleDevices 4 = .ok (.iload_n 1, 1) := by decide +kernel
theorem dX3_settleDevices_5 : decode cX3_settleDevices 5 = .ok (.invokevirtual 94, 3) := by decide +kernel
theorem dX3_settleDevices_8 : decode cX3_settleDevices 8 = .ok (.aload_n 0, 1) := by decide +kernel
theorem dX3_settleDevices_9 : decode cX3_settleDevices 9 = .ok (.getfield 18, 3) := by decide +kernel
theorem dX3_settleDevices_12 : decode cX3_settleDevices 12 = .ok (.iload_n 1, 1) := by decide +kernel
theorem dX3_settleDevices_13 : decode cX3_settleDevices 13 = .ok (.invokevirtual 94, 3) := by decide +kernel
theorem dX3_settleDevices_16 : decode cX3_settleDevices 16 = .ok (.iconst 0, 1) := by decide +kernel
theorem dX3_settleDevices_17 : decode cX3_settleDevices 17 = .ok (.istore_n 2, 1) := by decide +kernel
theorem dX3_settleDevices_18 : decode cX3_settleDevices 18 = .ok (.iload_n 2, 1) := by decide +kernel
theorem dX3_settleDevices_19 : decode cX3_settleDevices 19 = .ok (.aload_n 0, 1) := by decide +kernel
theorem dX3_settleDevices_20 : decode cX3_settleDevices 20 = .ok (.getfield 48, 3) := by decide +kernel
theorem dX3_settleDevices_23 : decode cX3_settleDevices 23 = .ok (.if_icmp .ge 29, 3) := by decide +kernel
theorem dX3_settleDevices_26 : decode cX3_settleDevices 26 = .ok (.aload_n 0, 1) := by decide +kernel
theorem dX3_settleDevices_27 : decode cX3_settleDevices 27 = .ok (.getfield 23, 3) := by decide +kernel
theorem dX3_settleDevices_30 : decode cX3_settleDevices 30 = .ok (.iload_n 2, 1) := by decide +kernel
theorem dX3_settleDevices_31 : decode cX3_settleDevices 31 = .ok (.aaload, 1) := by decide +kernel
theorem dX3_settleDevices_32 : decode cX3_settleDevices 32 = .ok (.iload_n 1, 1) := by decide +kernel
theorem dX3_settleDevices_33 : decode cX3_settleDevices 33 = .ok (.invokevirtual 98, 3) := by decide +kernel
theorem dX3_settleDevices_36 : decode cX3_settleDevices 36 = .ok (.aload_n 0, 1) := by decide +kernel
theorem dX3_settleDevices_37 : decode cX3_settleDevices 37 = .ok (.getfield 23, 3) := by decide +kernel
theorem dX3_settleDevices_40 : decode cX3_settleDevices 40 = .ok (.iload_n 2, 1) := by decide +kernel
theorem dX3_settleDevices_41 : decode cX3_settleDevices 41 = .ok (.aaload, 1) := by decide +kernel
theorem dX3_settleDevices_42 : decode cX3_settleDevices 42 = .ok (.iload_n 1, 1) := by decide +kernel
theorem dX3_settleDevices_43 : decode cX3_settleDevices 43 = .ok (.invokevirtual 99, 3) := by decide +kernel
theorem dX3_settleDevices_46 : decode cX3_settleDevices 46 = .ok (.iinc 2 1, 3) := by decide +kernel
theorem dX3_settleDevices_49 : decode cX3_settleDevices 49 = .ok (.goto (-31), 3) := by decide +kernel
theorem dX3_settleDevices_52 : decode cX3_settleDevices 52 = .ok (.return_, 1) := by decide +kernel
set_option maxRecDepth 20000 in
theorem ggX3_commandTraffic_X0_send : GoodIn wsX3_commandTraffic wsX0_send := goodIn_r _ [11, 12, 13, 35, 36, 37, 38, 39, 40, 41, 42, 43, 44, 45, 46, 47, 48, 49] (by decide +kernel) (by decide +kernel)
set_option maxRecDepth 20000 in
theorem gX3_commandTraffic_X0_send : GoodIn wsX3_commandTraffic (wsV RX3 111 RX0 yX0_send wsX0_send) := goodIn_app (goodIn_of _ (by decide +kernel)) ggX3_commandTraffic_X0_send
set_option maxRecDepth 20000 in
theorem gX3_commandTraffic_X0_send_u111X1 : GoodIn wsX3_commandTraffic (va_wsU RX3 111 RX1 "TunnelWatch$Device" ⟨"TunnelWatch$Device", "send", "(II)V"⟩ yX0_send wsX0_send) := goodIn_app (goodIn_of _ (by decide +kernel)) ggX3_commandTraffic_X0_send
set_option maxRecDepth 20000 in
theorem ggX3_commandTraffic_X3_isHalted : GoodIn wsX3_commandTraffic wsX3_isHalted := goodIn_r _ [21, 6, 2, 3, 22, 23, 24, 25, 26, 27, 28, 29, 30, 31, 32, 33, 34, 35, 36, 37, 38, 39, 40, 41, 42, 43, 44, 45, 46, 47, 48, 49] (by decide +kernel) (by decide +kernel)
set_option maxRecDepth 20000 in
theorem gX3_commandTraffic_X3_isHalted : GoodIn wsX3_commandTraffic (wsV RX3 115 RX3 yX3_isHalted wsX3_isHalted) := goodIn_app (goodIn_of _ (by decide +kernel)) ggX3_commandTraffic_X3_isHalted
theorem dX3_commandTraffic_0 : decode cX3_commandTraffic 0 = .ok (.aload_n 0, 1) := by decide +kernel
theorem dX3_commandTraffic_1 : decode cX3_commandTraffic 1 = .ok (.getfield 18, 3) := by decide +kernel
theorem dX3_commandTraffic_4 : decode cX3_commandTraffic 4 = .ok (.getfield 102, 3) := by decide +kernel
theorem dX3_commandTraffic_7 : decode cX3_commandTraffic 7 = .ok (.iconst 1, 1) := by decide +kernel
theorem dX3_commandTraffic_8 : decode cX3_commandTraffic 8 = .ok (.if_icmp .eq 14, 3) := by decide +kernel
theorem dX3_commandTraffic_11 : decode cX3_commandTraffic 11 = .ok (.aload_n 0, 1) := by decide +kernel
theorem dX3_commandTraffic_12 : decode cX3_commandTraffic 12 = .ok (.getfield 18, 3) := by decide +kernel
theorem dX3_commandTraffic_15 : decode cX3_commandTraffic 15 = .ok (.getfield 105, 3) := by decide +kernel
theorem dX3_commandTraffic_18 : decode cX3_commandTraffic 18 = .ok (.iconst 1, 1) := by decide +kernel
theorem dX3_commandTraffic_19 : decode cX3_commandTraffic 19 = .ok (.if_icmp .ne 7, 3) := by decide +kernel
theorem dX3_commandTraffic_22 : decode cX3_commandTraffic 22 = .ok (.iconst 1, 1) := by decide +kernel
theorem dX3_commandTraffic_23 : decode cX3_commandTraffic 23 = .ok (.goto 4, 3) := by decide +kernel
theorem dX3_commandTraffic_26 : decode cX3_commandTraffic 26 = .ok (.iconst 0, 1) := by decide +kernel
theorem dX3_commandTraffic_27 : decode cX3_commandTraffic 27 = .ok (.istore_n 3, 1) := by decide +kernel
theorem dX3_commandTraffic_28 : decode cX3_commandTraffic 28 = .ok (.iload_n 1, 1) := by decide +kernel
theorem dX3_commandTraffic_29 : decode cX3_commandTraffic 29 = .ok (.ifCond .ne 22, 3) := by decide +kernel
theorem dX3_commandTraffic_32 : decode cX3_commandTraffic 32 = .ok (.aload_n 0, 1) := by decide +kernel
theorem dX3_commandTraffic_33 : decode cX3_commandTraffic 33 = .ok (.getfield 34, 3) := by decide +kernel
theorem dX3_commandTraffic_36 : decode cX3_commandTraffic 36 = .ok (.iconst 1, 1) := by decide +kernel
theorem dX3_commandTraffic_37 : decode cX3_commandTraffic 37 = .ok (.if_icmp .eq 14, 3) := by decide +kernel
theorem dX3_commandTraffic_40 : decode cX3_commandTraffic 40 = .ok (.aload_n 0, 1) := by decide +kernel
theorem dX3_commandTraffic_41 : decode cX3_commandTraffic 41 = .ok (.getfield 108, 3) := by decide +kernel
theorem dX3_commandTraffic_44 : decode cX3_commandTraffic 44 = .ok (.ifCond .ne 7, 3) := by decide +kernel
theorem dX3_commandTraffic_47 : decode cX3_commandTraffic 47 = .ok (.iload_n 3, 1) := by decide +kernel
theorem dX3_commandTraffic_48 : decode cX3_commandTraffic 48 = .ok (.ifCond .eq 7, 3) := by decide +kernel
theorem dX3_commandTraffic_51 : decode cX3_commandTraffic 51 = .ok (.iconst 1, 1) := by decide +kernel
theorem dX3_commandTraffic_52 : decode cX3_commandTraffic 52 = .ok (.goto 4, 3) := by decide +kernel
theorem dX3_commandTraffic_55 : decode cX3_commandTraffic 55 = .ok (.iconst 0, 1) := by decide +kernel
theorem dX3_commandTraffic_56 : decode cX3_commandTraffic 56 = .ok (.istore 4, 2) := by decide +kernel
theorem dX3_commandTraffic_58 : decode cX3_commandTraffic 58 = .ok (.aload_n 0, 1) := by decide +kernel
theorem dX3_commandTraffic_59 : decode cX3_commandTraffic 59 = .ok (.getfield 12, 3) := by decide +kernel
theorem dX3_commandTraffic_62 : decode cX3_commandTraffic 62 = .ok (.iload 4, 2) := by decide +kernel
theorem dX3_commandTraffic_64 : decode cX3_commandTraffic 64 = .ok (.ifCond .eq 7, 3) := by decide +kernel
theorem dX3_commandTraffic_67 : decode cX3_commandTraffic 67 = .ok (.iconst 1, 1) := by decide +kernel
theorem dX3_commandTraffic_68 : decode cX3_commandTraffic 68 = .ok (.goto 4, 3) := by decide +kernel
theorem dX3_commandTraffic_71 : decode cX3_commandTraffic 71 = .ok (.iconst 0, 1) := by decide +kernel
theorem dX3_commandTraffic_72 : decode cX3_commandTraffic 72 = .ok (.iload_n 2, 1) := by decide +kernel
theorem dX3_commandTraffic_73 : decode cX3_commandTraffic 73 = .ok (.invokevirtual 111, 3) := by decide +kernel
theorem dX3_commandTraffic_76 : decode cX3_commandTraffic 76 = .ok (.iload_n 1, 1) := by decide +kernel
theorem dX3_commandTraffic_77 : decode cX3_commandTraffic 77 = .ok (.ifCond .eq 26, 3) := by decide +kernel
theorem dX3_commandTraffic_80 : decode cX3_commandTraffic 80 = .ok (.aload_n 0, 1) := by decide +kernel
theorem dX3_commandTraffic_81 : decode cX3_commandTraffic 81 = .ok (.getfield 18, 3) := by decide +kernel
theorem dX3_commandTraffic_84 : decode cX3_commandTraffic 84 = .ok (.getfield 102, 3) := by decide +kernel
theorem dX3_commandTraffic_87 : decode cX3_commandTraffic 87 = .ok (.iconst 1, 1) := by decide +kernel
theorem dX3_commandTraffic_88 : decode cX3_commandTraffic 88 = .ok (.if_icmp .eq 11, 3) := by decide +kernel
theorem dX3_commandTraffic_91 : decode cX3_commandTraffic 91 = .ok (.aload_n 0, 1) := by decide +kernel
theorem dX3_commandTraffic_92 : decode cX3_commandTraffic 92 = .ok (.iload_n 2, 1) := by decide +kernel
theorem dX3_commandTraffic_93 : decode cX3_commandTraffic 93 = .ok (.invokevirtual 115, 3) := by decide +kernel
theorem dX3_commandTraffic_96 : decode cX3_commandTraffic 96 = .ok (.ifCond .eq 7, 3) := by decide +kernel
theorem dX3_commandTraffic_99 : decode cX3_commandTraffic 99 = .ok (.iconst 1, 1) := by decide +kernel
theorem dX3_commandTraffic_100 : decode cX3_commandTraffic 100 = .ok (.goto 4, 3) := by decide +kernel
theorem dX3_commandTraffic_103 : decode cX3_commandTraffic 103 = .ok (.iconst 0, 1) := by decide +kernel
theorem dX3_commandTraffic_104 : decode cX3_commandTraffic 104 = .ok (.istore 5, 2) := by decide +kernel
theorem dX3_commandTraffic_106 : decode cX3_commandTraffic 106 = .ok (.aload_n 0, 1) := by decide +kernel
theorem dX3_commandTraffic_107 : decode cX3_commandTraffic 107 = .ok (.getfield 18, 3) := by decide +kernel
theorem dX3_commandTraffic_110 : decode cX3_commandTraffic 110 = .ok (.iload 5, 2) := by decide +kernel
theorem dX3_commandTraffic_112 : decode cX3_commandTraffic 112 = .ok (.ifCond .eq 7, 3) := by decide +kernel
theorem dX3_commandTraffic_115 : decode cX3_commandTraffic 115 = .ok (.iconst 1, 1) := by decide +kernel
theorem dX3_commandTraffic_116 : decode cX3_commandTraffic 116 = .ok (.goto 4, 3) := by decide +kernel
theorem dX3_commandTraffic_119 : decode cX3_commandTraffic 119 = .ok (.iconst 0, 1) := by decide +kernel
theorem dX3_commandTraffic_120 : decode cX3_commandTraffic 120 = .ok (.iload_n 2, 1) := by decide +kernel
theorem dX3_commandTraffic_121 : decode cX3_commandTraffic 121 = .ok (.invokevirtual 111, 3) := by decide +kernel
theorem dX3_commandTraffic_124 : decode cX3_commandTraffic 124 = .ok (.return_, 1) := by decide +kernel
theorem dX3_isHalted_0 : decode cX3_isHalted 0 = .ok (.aload_n 0, 1) := by decide +kernel
theorem dX3_isHalted_1 : decode cX3_isHalted 1 = .ok (.getfield 12, 3) := by decide +kernel
theorem dX3_isHalted_4 : decode cX3_isHalted 4 = .ok (.getfield 102, 3) := by decide +kernel
theorem dX3_isHalted_7 : decode cX3_isHalted 7 = .ok (.iconst 1, 1) := by decide +kernel
theorem dX3_isHalted_8 : decode cX3_isHalted 8 = .ok (.if_icmp .ne 32, 3) := by decide +kernel
theorem dX3_isHalted_11 : decode cX3_isHalted 11 = .ok (.aload_n 0, 1) := by decide +kernel
theorem dX3_isHalted_12 : decode cX3_isHalted 12 = .ok (.getfield 12, 3) := by decide +kernel
theorem dX3_isHalted_15 : decode cX3_isHalted 15 = .ok (.getfield 105, 3) := by decide +kernel
theorem dX3_isHalted_18 : decode cX3_isHalted 18 = .ok (.iconst 1, 1) := by decide +kernel
theorem dX3_isHalted_19 : decode cX3_isHalted 19 = .ok (.if_icmp .eq 17, 3) := by decide +kernel
theorem dX3_isHalted_22 : decode cX3_isHalted 22 = .ok (.iload_n 1, 1) := by decide +kernel
theorem dX3_isHalted_23 : decode cX3_isHalted 23 = .ok (.aload_n 0, 1) := by decide +kernel
theorem dX3_isHalted_24 : decode cX3_isHalted 24 = .ok (.getfield 12, 3) := by decide +kernel
theorem dX3_isHalted_27 : decode cX3_isHalted 27 = .ok (.getfield 118, 3) := by decide +kernel
theorem dX3_isHalted_30 : decode cX3_isHalted 30 = .ok (.isub, 1) := by decide +kernel
theorem dX3_isHalted_31 : decode cX3_isHalted 31 = .ok (.bipush 60, 2) := by decide +kernel
theorem dX3_isHalted_33 : decode cX3_isHalted 33 = .ok (.if_icmp .lt 7, 3) := by decide +kernel
theorem dX3_isHalted_36 : decode cX3_isHalted 36 = .ok (.iconst 1, 1) := by decide +kernel
theorem dX3_isHalted_37 : decode cX3_isHalted 37 = .ok (.goto 4, 3) := by decide +kernel
theorem dX3_isHalted_40 : decode cX3_isHalted 40 = .ok (.iconst 0, 1) := by decide +kernel
theorem dX3_isHalted_41 : decode cX3_isHalted 41 = .ok (.ireturn, 1) := by decide +kernel
set_option maxRecDepth 20000 in
theorem ggX3_isUnsafe_X3_isHalted : GoodIn wsX3_isUnsafe wsX3_isHalted := goodIn_r _ [9, 4, 2, 10, 3, 19, 20, 21, 22, 23, 24, 25, 26, 27, 28, 29, 30, 31, 32, 33, 34, 35, 36, 37, 38, 39, 40, 41, 42, 43, 44, 45] (by decide +kernel) (by decide +kernel)
set_option maxRecDepth 20000 in
theorem gX3_isUnsafe_X3_isHalted : GoodIn wsX3_isUnsafe (wsV RX3 115 RX3 yX3_isHalted wsX3_isHalted) := goodIn_app (goodIn_of _ (by decide +kernel)) ggX3_isUnsafe_X3_isHalted
set_option maxRecDepth 20000 in
theorem ggX3_isUnsafe_X3_countBlowing : GoodIn wsX3_isUnsafe wsX3_countBlowing := goodIn_r _ [14, 15, 16, 17, 18, 19, 20, 21, 22, 23, 24, 25, 26, 27, 28, 29, 30, 31, 32, 33, 34, 35, 36, 37, 38, 39, 40, 41, 42, 43, 44, 45] (by decide +kernel) (by decide +kernel)
set_option maxRecDepth 20000 in
theorem gX3_isUnsafe_X3_countBlowing : GoodIn wsX3_isUnsafe (wsV RX3 121 RX3 yX3_countBlowing wsX3_countBlowing) := goodIn_app (goodIn_of _ (by decide +kernel)) ggX3_isUnsafe_X3_countBlowing
theorem dX3_isUnsafe_0 : decode cX3_isUnsafe 0 = .ok (.aload_n 0, 1) := by decide +kernel
theorem dX3_isUnsafe_1 : decode cX3_isUnsafe 1 = .ok (.getfield 18, 3) := by decide +kernel
theorem dX3_isUnsafe_4 : decode cX3_isUnsafe 4 = .ok (.getfield 102, 3) := by decide +kernel
theorem dX3_isUnsafe_7 : decode cX3_isUnsafe 7 = .ok (.iconst 1, 1) := by decide +kernel
theorem dX3_isUnsafe_8 : decode cX3_isUnsafe 8 = .ok (.if_icmp .ne 7, 3) := by decide +kernel
theorem dX3_isUnsafe_11 : decode cX3_isUnsafe 11 = .ok (.iconst 1, 1) := by decide +kernel
theorem dX3_isUnsafe_12 : decode cX3_isUnsafe 12 = .ok (.goto 4, 3) := by decide +kernel
theorem dX3_isUnsafe_15 : decode cX3_isUnsafe 15 = .ok (.iconst 0, 1) := by decide +kernel
theorem dX3_isUnsafe_16 : decode cX3_isUnsafe 16 = .ok (.istore_n 2, 1) := by decide +kernel
theorem dX3_isUnsafe_17 : decode cX3_isUnsafe 17 = .ok (.iload_n 2, 1) := by decide +kernel
theorem dX3_isUnsafe_18 : decode cX3_isUnsafe 18 = .ok (.ifCond .eq 26, 3) := by decide +kernel
theorem dX3_isUnsafe_21 : decode cX3_isUnsafe 21 = .ok (.aload_n 0, 1) := by decide +kernel
theorem dX3_isUnsafe_22 : decode cX3_isUnsafe 22 = .ok (.getfield 18, 3) := by decide +kernel
theorem dX3_isUnsafe_25 : decode cX3_isUnsafe 25 = .ok (.getfield 118, 3) := by decide +kernel
theorem dX3_isUnsafe_28 : decode cX3_isUnsafe 28 = .ok (.iload_n 1, 1) := by decide +kernel
theorem dX3_isUnsafe_29 : decode cX3_isUnsafe 29 = .ok (.if_icmp .ne 15, 3) := by decide +kernel
theorem dX3_isUnsafe_32 : decode cX3_isUnsafe 32 = .ok (.aload_n 0, 1) := by decide +kernel
theorem dX3_isUnsafe_33 : decode cX3_isUnsafe 33 = .ok (.iload_n 1, 1) := by decide +kernel
theorem dX3_isUnsafe_34 : decode cX3_isUnsafe 34 = .ok (.invokevirtual 115, 3) := by decide +kernel
theorem dX3_isUnsafe_37 : decode cX3_isUnsafe 37 = .ok (.ifCond .ne 7, 3) := by decide +kernel
theorem dX3_isUnsafe_40 : decode cX3_isUnsafe 40 = .ok (.iconst 1, 1) := by decide +kernel
theorem dX3_isUnsafe_41 : decode cX3_isUnsafe 41 = .ok (.goto 4, 3) := by decide +kernel
theorem dX3_isUnsafe_44 : decode cX3_isUnsafe 44 = .ok (.iconst 0, 1) := by decide +kernel
theorem dX3_isUnsafe_45 : decode cX3_isUnsafe 45 = .ok (.istore_n 3, 1) := by decide +kernel
theorem dX3_isUnsafe_46 : decode cX3_isUnsafe 46 = .ok (.iload_n 2, 1) := by decide +kernel
theorem dX3_isUnsafe_47 : decode cX3_isUnsafe 47 = .ok (.ifCond .eq 17, 3) := by decide +kernel
theorem dX3_isUnsafe_50 : decode cX3_isUnsafe 50 = .ok (.aload_n 0, 1) := by decide +kernel
theorem dX3_isUnsafe_51 : decode cX3_isUnsafe 51 = .ok (.getfield 12, 3) := by decide +kernel
theorem dX3_isUnsafe_54 : decode cX3_isUnsafe 54 = .ok (.getfield 102, 3) := by decide +kernel
theorem dX3_isUnsafe_57 : decode cX3_isUnsafe 57 = .ok (.ifCond .ne 7, 3) := by decide +kernel
theorem dX3_isUnsafe_60 : decode cX3_isUnsafe 60 = .ok (.iconst 1, 1) := by decide +kernel
theorem dX3_isUnsafe_61 : decode cX3_isUnsafe 61 = .ok (.goto 4, 3) := by decide +kernel
theorem dX3_isUnsafe_64 : decode cX3_isUnsafe 64 = .ok (.iconst 0, 1) := by decide +kernel
theorem dX3_isUnsafe_65 : decode cX3_isUnsafe 65 = .ok (.istore 4, 2) := by decide +kernel
theorem dX3_isUnsafe_67 : decode cX3_isUnsafe 67 = .ok (.aload_n 0, 1) := by decide +kernel
theorem dX3_isUnsafe_68 : decode cX3_isUnsafe 68 = .ok (.iconst (-1), 1) := by decide +kernel
theorem dX3_isUnsafe_69 : decode cX3_isUnsafe 69 = .ok (.invokevirtual 121, 3) := by decide +kernel
theorem dX3_isUnsafe_72 : decode cX3_isUnsafe 72 = .ok (.ifCond .le 15, 3) := by decide +kernel
theorem dX3_isUnsafe_75 : decode cX3_isUnsafe 75 = .ok (.aload_n 0, 1) := by decide +kernel
theorem dX3_isUnsafe_76 : decode cX3_isUnsafe 76 = .ok (.iconst 1, 1) := by decide +kernel
theorem dX3_isUnsafe_77 : decode cX3_isUnsafe 77 = .ok (.invokevirtual 121, 3) := by decide +kernel
theorem dX3_isUnsafe_80 : decode cX3_isUnsafe 80 = .ok (.ifCond .le 7, 3) := by decide +kernel
theorem dX3_isUnsafe_83 : decode cX3_isUnsafe 83 = .ok (.iconst 1, 1) := by decide +kernel
theorem dX3_isUnsafe_84 : decode cX3_isUnsafe 84 = .ok (.goto 4, 3) := by decide +kernel
theorem dX3_isUnsafe_87 : decode cX3_isUnsafe 87 = .ok (.iconst 0, 1) := by decide +kernel
theorem dX3_isUnsafe_88 : decode cX3_isUnsafe 88 = .ok (.istore 5, 2) := by decide +kernel
theorem dX3_isUnsafe_90 : decode cX3_isUnsafe 90 = .ok (.iload_n 3, 1) := by decide +kernel
theorem dX3_isUnsafe_91 : decode cX3_isUnsafe 91 = .ok (.ifCond .ne 13, 3) := by decide +kernel
theorem dX3_isUnsafe_94 : decode cX3_isUnsafe 94 = .ok (.iload 4, 2) := by decide +kernel
theorem dX3_isUnsafe_96 : decode cX3_isUnsafe 96 = .ok (.ifCond .ne 8, 3) := by decide +kernel
theorem dX3_isUnsafe_99 : decode cX3_isUnsafe 99 = .ok (.iload 5, 2) := by decide +kernel
theorem dX3_isUnsafe_101 : decode cX3_isUnsafe 101 = .ok (.ifCond .eq 7, 3) := by decide +kernel
theorem dX3_isUnsafe_104 : decode cX3_isUnsafe 104 = .ok (.iconst 1, 1) := by decide +kernel
theorem dX3_isUnsafe_105 : decode cX3_isUnsafe 105 = .ok (.goto 4, 3) := by decide +kernel
theorem dX3_isUnsafe_108 : decode cX3_isUnsafe 108 = .ok (.iconst 0, 1) := by decide +kernel
theorem dX3_isUnsafe_109 : decode cX3_isUnsafe 109 = .ok (.ireturn, 1) := by decide +kernel
theorem dX3_countBlowing_0 : decode cX3_countBlowing 0 = .ok (.iconst 0, 1) := by decide +kernel
theorem dX3_countBlowing_1 : decode cX3_countBlowing 1 = .ok (.istore_n 2, 1) := by decide +kernel
theorem dX3_countBlowing_2 : decode cX3_countBlowing 2 = .ok (.iconst 0, 1) := by decide +kernel
theorem dX3_countBlowing_3 : decode cX3_countBlowing 3 = .ok (.istore_n 3, 1) := by decide +kernel
theorem dX3_countBlowing_4 : decode cX3_countBlowing 4 = .ok (.iload_n 3, 1) := by decide +kernel
theorem dX3_countBlowing_5 : decode cX3_countBlowing 5 = .ok (.aload_n 0, 1) := by decide +kernel
theorem dX3_countBlowing_6 : decode cX3_countBlowing 6 = .ok (.getfield 48, 3) := by decide +kernel
theorem dX3_countBlowing_9 : decode cX3_countBlowing 9 = .ok (.if_icmp .ge 25, 3) := by decide +kernel
theorem dX3_countBlowing_12 : decode cX3_countBlowing 12 = .ok (.aload_n 0, 1) := by decide +kernel
theorem dX3_countBlowing_13 : decode cX3_countBlowing 13 = .ok (.getfield 23, 3) := by decide +kernel
theorem dX3_countBlowing_16 : decode cX3_countBlowing 16 = .ok (.iload_n 3, 1) := by decide +kernel
theorem dX3_countBlowing_17 : decode cX3_countBlowing 17 = .ok (.aaload, 1) := by decide +kernel
theorem dX3_countBlowing_18 : decode cX3_countBlowing 18 = .ok (.getfield 125, 3) := by decide +kernel
theorem dX3_countBlowing_21 : decode cX3_countBlowing 21 = .ok (.iload_n 1, 1) := by decide +kernel
theorem dX3_countBlowing_22 : decode cX3_countBlowing 22 = .ok (.if_icmp .ne 6, 3) := by decide +kernel
theorem dX3_countBlowing_25 : decode cX3_countBlowing 25 = .ok (.iinc 2 1, 3) := by decide +kernel
theorem dX3_countBlowing_28 : decode cX3_countBlowing 28 = .ok (.iinc 3 1, 3) := by decide +kernel
theorem dX3_countBlowing_31 : decode cX3_countBlowing 31 = .ok (.goto (-27), 3) := by decide +kernel
theorem dX3_countBlowing_34 : decode cX3_countBlowing 34 = .ok (.iload_n 2, 1) := by decide +kernel
theorem dX3_countBlowing_35 : decode cX3_countBlowing 35 = .ok (.ireturn, 1) := by decide +kernel
set_option maxRecDepth 20000 in
theorem ggX3_drawnKw_X1_drawnKw : GoodIn wsX3_drawnKw wsX1_drawnKw := goodIn_r _ [7, 8, 9, 10, 11, 12, 25, 26, 27, 28, 29, 30, 31, 32, 33, 34, 35, 36, 37, 38, 39] (by decide +kernel) (by decide +kernel)
set_option maxRecDepth 20000 in
theorem gX3_drawnKw_X1_drawnKw : GoodIn wsX3_drawnKw (wsV RX3 126 RX1 yX1_drawnKw wsX1_drawnKw) := goodIn_app (goodIn_of _ (by decide +kernel)) ggX3_drawnKw_X1_drawnKw
theorem dX3_drawnKw_0 : decode cX3_drawnKw 0 = .ok (.iconst 0, 1) := by decide +kernel
theorem dX3_drawnKw_1 : decode cX3_drawnKw 1 = .ok (.istore_n 2, 1) := by decide +kernel
theorem dX3_drawnKw_2 : decode cX3_drawnKw 2 = .ok (.iconst 0, 1) := by decide +kernel
theorem dX3_drawnKw_3 : decode cX3_drawnKw 3 = .ok (.istore_n 3, 1) := by decide +kernel
theorem dX3_drawnKw_4 : decode cX3_drawnKw 4 = .ok (.iload_n 3, 1) := by decide +kernel
theorem dX3_drawnKw_5 : decode cX3_drawnKw 5 = .ok (.aload_n 0, 1) := by decide +kernel
theorem dX3_drawnKw_6 : decode cX3_drawnKw 6 = .ok (.getfield 48, 3) := by decide +kernel
theorem dX3_drawnKw_9 : decode cX3_drawnKw 9 = .ok (.if_icmp .ge 22, 3) := by decide +kernel
theorem dX3_drawnKw_12 : decode cX3_drawnKw 12 = .ok (.iload_n 2, 1) := by decide +kernel
theorem dX3_drawnKw_13 : decode cX3_drawnKw 13 = .ok (.aload_n 0, 1) := by decide +kernel
theorem dX3_drawnKw_14 : decode cX3_drawnKw 14 = .ok (.getfield 23, 3) := by decide +kernel
theorem dX3_drawnKw_17 : decode cX3_drawnKw 17 = .ok (.iload_n 3, 1) := by decide +kernel
theorem dX3_drawnKw_18 : decode cX3_drawnKw 18 = .ok (.aaload, 1) := by decide +kernel
theorem dX3_drawnKw_19 : decode cX3_drawnKw 19 = .ok (.iload_n 1, 1) := by decide +kernel
theorem dX3_drawnKw_20 : decode cX3_drawnKw 20 = .ok (.invokevirtual 126, 3) := by decide +kernel
theorem dX3_drawnKw_23 : decode cX3_drawnKw 23 = .ok (.iadd, 1) := by decide +kernel
theorem dX3_drawnKw_24 : decode cX3_drawnKw 24 = .ok (.istore_n 2, 1) := by decide +kernel
theorem dX3_drawnKw_25 : decode cX3_drawnKw 25 = .ok (.iinc 3 1, 3) := by decide +kernel
theorem dX3_drawnKw_28 : decode cX3_drawnKw 28 = .ok (.goto (-24), 3) := by decide +kernel
theorem dX3_drawnKw_31 : decode cX3_drawnKw 31 = .ok (.iload_n 2, 1) := by decide +kernel
theorem dX3_drawnKw_32 : decode cX3_drawnKw 32 = .ok (.ireturn, 1) := by decide +kernel
set_option maxRecDepth 20000 in
theorem ggX3_stopFans_X3_isHalted : GoodIn wsX3_stopFans wsX3_isHalted := goodIn_r _ [7, 8, 9, 10, 11, 46, 47, 48, 49, 50, 51, 52, 53, 54, 55, 56, 57, 58, 59, 60, 61, 62, 63, 64, 65, 66, 67, 68, 69, 70, 71, 72] (by decide +kernel) (by decide +kernel)
set_option maxRecDepth 20000 in
theorem gX3_stopFans_X3_isHalted : GoodIn wsX3_stopFans (wsV RX3 115 RX3 yX3_isHalted wsX3_isHalted) := goodIn_app (goodIn_of _ (by decide +kernel)) ggX3_stopFans_X3_isHalted
set_option maxRecDepth 20000 in
theorem ggX3_stopFans_X3_stopBlowingAgainst : GoodIn wsX3_stopFans wsX3_stopBlowingAgainst := goodIn_r _ [15, 16, 17, 18, 19, 1, 20, 21, 22, 23, 24, 25, 26, 27, 28, 29, 30, 31, 32, 46, 47, 48, 49, 50, 51, 52, 53, 54, 55, 56, 57, 58, 59, 60, 61, 62, 63, 64, 65, 66, 67, 68, 69, 70, 71, 72] (by decide +kernel) (by decide +kernel)
set_option maxRecDepth 20000 in
theorem gX3_stopFans_X3_stopBlowingAgainst : GoodIn wsX3_stopFans (wsV RX3 129 RX3 yX3_stopBlowingAgainst wsX3_stopBlowingAgainst) := goodIn_app (goodIn_of _ (by decide +kernel)) ggX3_stopFans_X3_stopBlowingAgainst
set_option maxRecDepth 20000 in
theorem ggX3_stopFans_X3_countBlowing : GoodIn wsX3_stopFans wsX3_countBlowing := goodIn_r _ [36, 16, 17, 18, 19, 46, 47, 48, 49, 50, 51, 52, 53, 54, 55, 56, 57, 58, 59, 60, 61, 62, 63, 64, 65, 66, 67, 68, 69, 70, 71, 72] (by decide +kernel) (by decide +kernel)
set_option maxRecDepth 20000 in
theorem gX3_stopFans_X3_countBlowing : GoodIn wsX3_stopFans (wsV RX3 121 RX3 yX3_countBlowing wsX3_countBlowing) := goodIn_app (goodIn_of _ (by decide +kernel)) ggX3_stopFans_X3_countBlowing
set_option maxRecDepth 20000 in
theorem ggX3_stopFans_X3_longestRun : GoodIn wsX3_stopFans wsX3_longestRun := goodIn_r _ [40, 16, 17, 18, 19, 1, 41, 46, 47, 48, 49, 50, 51, 52, 53, 54, 55, 56, 57, 58, 59, 60, 61, 62, 63, 64, 65, 66, 67, 68, 69, 70, 71, 72] (by decide +kernel) (by decide +kernel)
set_option maxRecDepth 20000 in
theorem gX3_stopFans_X3_longestRun : GoodIn wsX3_stopFans (wsV RX3 132 RX3 yX3_longestRun wsX3_longestRun) := goodIn_app (goodIn_of _ (by decide +kernel)) ggX3_stopFans_X3_longestRun
set_option maxRecDepth 20000 in
theorem ggX3_stopFans_X3_stopAt : GoodIn wsX3_stopFans wsX3_stopAt := goodIn_r _ [45, 17, 20, 21, 22, 23, 24, 25, 26, 27, 28, 29, 30, 31, 32, 46, 47, 48, 49, 50, 51, 52, 53, 54, 55, 56, 57, 58, 59, 60, 61, 62, 63, 64, 65, 66, 67, 68, 69, 70, 71, 72] (by decide +kernel) (by decide +kernel)
set_option maxRecDepth 20000 in
theorem gX3_stopFans_X3_stopAt : GoodIn wsX3_stopFans (wsV RX3 136 RX3 yX3_stopAt wsX3_stopAt) := goodIn_app (goodIn_of _ (by decide +kernel)) ggX3_stopFans_X3_stopAt
theorem dX3_stopFans_0 : decode cX3_stopFans 0 = .ok (.iload_n 1, 1) := by decide +kernel
theorem dX3_stopFans_1 : decode cX3_stopFans 1 = .ok (.ifCond .eq 11, 3) := by decide +kernel
theorem dX3_stopFans_4 : decode cX3_stopFans 4 = .ok (.aload_n 0, 1) := by decide +kernel
theorem dX3_stopFans_5 : decode cX3_stopFans 5 = .ok (.iload_n 2, 1) := by decide +kernel
theorem dX3_stopFans_6 : decode cX3_stopFans 6 = .ok (.invokevirtual 115, 3) := by decide +kernel
theorem dX3_stopFans_9 : decode cX3_stopFans 9 = .ok (.ifCond .eq 8, 3) := by decide +kernel
theorem dX3_stopFans_12 : decode cX3_stopFans 12 = .ok (.aload_n 0, 1) := by decide +kernel
theorem dX3_stopFans_13 : decode cX3_stopFans 13 = .ok (.iload_n 2, 1) := by decide +kernel
theorem dX3_stopFans_14 : decode cX3_stopFans 14 = .ok (.invokevirtual 129, 3) := by decide +kernel
theorem dX3_stopFans_17 : decode cX3_stopFans 17 = .ok (.aload_n 0, 1) := by decide +kernel
theorem dX3_stopFans_18 : decode cX3_stopFans 18 = .ok (.aload_n 0, 1) := by decide +kernel
theorem dX3_stopFans_19 : decode cX3_stopFans 19 = .ok (.getfield 31, 3) := by decide +kernel
theorem dX3_stopFans_22 : decode cX3_stopFans 22 = .ok (.invokevirtual 121, 3) := by decide +kernel
theorem dX3_stopFans_25 : decode cX3_stopFans 25 = .ok (.aload_n 0, 1) := by decide +kernel
theorem dX3_stopFans_26 : decode cX3_stopFans 26 = .ok (.getfield 91, 3) := by decide +kernel
theorem dX3_stopFans_29 : decode cX3_stopFans 29 = .ok (.isub, 1) := by decide +kernel
theorem dX3_stopFans_30 : decode cX3_stopFans 30 = .ok (.istore_n 3, 1) := by decide +kernel
theorem dX3_stopFans_31 : decode cX3_stopFans 31 = .ok (.iconst 0, 1) := by decide +kernel
theorem dX3_stopFans_32 : decode cX3_stopFans 32 = .ok (.istore 4, 2) := by decide +kernel
theorem dX3_stopFans_34 : decode cX3_stopFans 34 = .ok (.iload 4, 2) := by decide +kernel
theorem dX3_stopFans_36 : decode cX3_stopFans 36 = .ok (.iload_n 3, 1) := by decide +kernel
theorem dX3_stopFans_37 : decode cX3_stopFans 37 = .ok (.if_icmp .ge 19, 3) := by decide +kernel
theorem dX3_stopFans_40 : decode cX3_stopFans 40 = .ok (.aload_n 0, 1) := by decide +kernel
theorem dX3_stopFans_41 : decode cX3_stopFans 41 = .ok (.aload_n 0, 1) := by decide +kernel
theorem dX3_stopFans_42 : decode cX3_stopFans 42 = .ok (.iconst 0, 1) := by decide +kernel
theorem dX3_stopFans_43 : decode cX3_stopFans 43 = .ok (.invokevirtual 132, 3) := by decide +kernel
theorem dX3_stopFans_46 : decode cX3_stopFans 46 = .ok (.iload_n 2, 1) := by decide +kernel
theorem dX3_stopFans_47 : decode cX3_stopFans 47 = .ok (.invokevirtual 136, 3) := by decide +kernel
theorem dX3_stopFans_50 : decode cX3_stopFans 50 = .ok (.iinc 4 1, 3) := by decide +kernel
theorem dX3_stopFans_53 : decode cX3_stopFans 53 = .ok (.goto (-19), 3) := by decide +kernel
theorem dX3_stopFans_56 : decode cX3_stopFans 56 = .ok (.return_, 1) := by decide +kernel
set_option maxRecDepth 20000 in
theorem ggX3_stopBlowingAgainst_X1_stand : GoodIn wsX3_stopBlowingAgainst wsX1_stand := goodIn_r _ [10, 11, 12, 13, 14, 15, 16, 17, 18, 31, 32, 33, 34, 35, 36, 37, 38, 39, 40, 41, 42, 43, 44, 45] (by decide +kernel) (by decide +kernel)
set_option maxRecDepth 20000 in
theorem gX3_stopBlowingAgainst_X1_stand : GoodIn wsX3_stopBlowingAgainst (wsV RX3 139 RX1 yX1_stand wsX1_stand) := goodIn_app (goodIn_of _ (by decide +kernel)) ggX3_stopBlowingAgainst_X1_stand
theorem dX3_stopBlowingAgainst_0 : decode cX3_stopBlowingAgainst 0 = .ok (.iconst 0, 1) := by decide +kernel
theorem dX3_stopBlowingAgainst_1 : decode cX3_stopBlowingAgainst 1 = .ok (.istore_n 2, 1) := by decide +kernel
theorem dX3_stopBlowingAgainst_2 : decode cX3_stopBlowingAgainst 2 = .ok (.iload_n 2, 1) := by decide +kernel
theorem dX3_stopBlowingAgainst_3 : decode cX3_stopBlowingAgainst 3 = .ok (.aload_n 0, 1) := by decide +kernel
theorem dX3_stopBlowingAgainst_4 : decode cX3_stopBlowingAgainst 4 = .ok (.getfield 48, 3) := by decide +kernel
theorem dX3_stopBlowingAgainst_7 : decode cX3_stopBlowingAgainst 7 = .ok (.if_icmp .ge 36, 3) := by decide +kernel
theorem dX3_stopBlowingAgainst_10 : decode cX3_stopBlowingAgainst 10 = .ok (.aload_n 0, 1) := by decide +kernel
theorem dX3_stopBlowingAgainst_11 : decode cX3_stopBlowingAgainst 11 = .ok (.getfield 23, 3) := by decide +kernel
theorem dX3_stopBlowingAgainst_14 : decode cX3_stopBlowingAgainst 14 = .ok (.iload_n 2, 1) := by decide +kernel
theorem dX3_stopBlowingAgainst_15 : decode cX3_stopBlowingAgainst 15 = .ok (.aaload, 1) := by decide +kernel
theorem dX3_stopBlowingAgainst_16 : decode cX3_stopBlowingAgainst 16 = .ok (.getfield 125, 3) := by decide +kernel
theorem dX3_stopBlowingAgainst_19 : decode cX3_stopBlowingAgainst 19 = .ok (.aload_n 0, 1) := by decide +kernel
theorem dX3_stopBlowingAgainst_20 : decode cX3_stopBlowingAgainst 20 = .ok (.getfield 31, 3) := by decide +kernel
theorem dX3_stopBlowingAgainst_23 : decode cX3_stopBlowingAgainst 23 = .ok (.ineg, 1) := by decide +kernel
theorem dX3_stopBlowingAgainst_24 : decode cX3_stopBlowingAgainst 24 = .ok (.if_icmp .ne 13, 3) := by decide +kernel
theorem dX3_stopBlowingAgainst_27 : decode cX3_stopBlowingAgainst 27 = .ok (.aload_n 0, 1) := by decide +kernel
theorem dX3_stopBlowingAgainst_28 : decode cX3_stopBlowingAgainst 28 = .ok (.getfield 23, 3) := by decide +kernel
theorem dX3_stopBlowingAgainst_31 : decode cX3_stopBlowingAgainst 31 = .ok (.iload_n 2, 1) := by decide +kernel
theorem dX3_stopBlowingAgainst_32 : decode cX3_stopBlowingAgainst 32 = .ok (.aaload, 1) := by decide +kernel
theorem dX3_stopBlowingAgainst_33 : decode cX3_stopBlowingAgainst 33 = .ok (.iload_n 1, 1) := by decide +kernel
theorem dX3_stopBlowingAgainst_34 : decode cX3_stopBlowingAgainst 34 = .ok (.invokevirtual 139, 3) := by decide +kernel
theorem dX3_stopBlowingAgainst_37 : decode cX3_stopBlowingAgainst 37 = .ok (.iinc 2 1, 3) := by decide +kernel
theorem dX3_stopBlowingAgainst_40 : decode cX3_stopBlowingAgainst 40 = .ok (.goto (-38), 3) := by decide +kernel
theorem dX3_stopBlowingAgainst_43 : decode cX3_stopBlowingAgainst 43 = .ok (.return_, 1) := by decide +kernel
set_option maxRecDepth 20000 in
theorem ggX3_stopLongestRun_X3_longestRun : GoodIn wsX3_stopLongestRun wsX3_longestRun := goodIn_r _ [5, 6, 7, 8, 9, 10, 11, 29, 30, 31, 32, 33, 34, 35, 36, 37, 38, 39, 40, 41, 42, 43, 44, 45, 46, 47, 48, 49, 50, 51, 52, 53, 54, 55] (by decide +kernel) (by decide +kernel)
set_option maxRecDepth 20000 in
theorem gX3_stopLongestRun_X3_longestRun : GoodIn wsX3_stopLongestRun (wsV RX3 132 RX3 yX3_longestRun wsX3_longestRun) := goodIn_app (goodIn_of _ (by decide +kernel)) ggX3_stopLongestRun_X3_longestRun
set_option maxRecDepth 20000 in
theorem ggX3_stopLongestRun_X3_stopAt : GoodIn wsX3_stopLongestRun wsX3_stopAt := goodIn_r _ [15, 7, 16, 17, 18, 19, 20, 21, 22, 23, 24, 25, 26, 27, 28, 29, 30, 31, 32, 33, 34, 35, 36, 37, 38, 39, 40, 41, 42, 43, 44, 45, 46, 47, 48, 49, 50, 51, 52, 53, 54, 55] (by decide +kernel) (by decide +kernel)
set_option maxRecDepth 20000 in
theorem gX3_stopLongestRun_X3_stopAt : GoodIn wsX3_stopLongestRun (wsV RX3 136 RX3 yX3_stopAt wsX3_stopAt) := goodIn_app (goodIn_of _ (by decide +kernel)) ggX3_stopLongestRun_X3_stopAt
theorem dX3_stopLongestRun_0 : decode cX3_stopLongestRun 0 = .ok (.aload_n 0, 1) := by decide +kernel
theorem dX3_stopLongestRun_1 : decode cX3_stopLongestRun 1 = .ok (.iconst 1, 1) := by decide +kernel
theorem dX3_stopLongestRun_2 : decode cX3_stopLongestRun 2 = .ok (.invokevirtual 132, 3) := by decide +kernel
theorem dX3_stopLongestRun_5 : decode cX3_stopLongestRun 5 = .ok (.istore_n 2, 1) := by decide +kernel
theorem dX3_stopLongestRun_6 : decode cX3_stopLongestRun 6 = .ok (.aload_n 0, 1) := by decide +kernel
theorem dX3_stopLongestRun_7 : decode cX3_stopLongestRun 7 = .ok (.iload_n 2, 1) := by decide +kernel
theorem dX3_stopLongestRun_8 : decode cX3_stopLongestRun 8 = .ok (.iload_n 1, 1) := by decide +kernel
theorem dX3_stopLongestRun_9 : decode cX3_stopLongestRun 9 = .ok (.invokevirtual 136, 3) := by decide +kernel
theorem dX3_stopLongestRun_12 : decode cX3_stopLongestRun 12 = .ok (.iload_n 2, 1) := by decide +kernel
theorem dX3_stopLongestRun_13 : decode cX3_stopLongestRun 13 = .ok (.iconst (-1), 1) := by decide +kernel
theorem dX3_stopLongestRun_14 : decode cX3_stopLongestRun 14 = .ok (.if_icmp .eq 7, 3) := by decide +kernel
theorem dX3_stopLongestRun_17 : decode cX3_stopLongestRun 17 = .ok (.iconst 1, 1) := by decide +kernel
theorem dX3_stopLongestRun_18 : decode cX3_stopLongestRun 18 = .ok (.goto 4, 3) := by decide +kernel
theorem dX3_stopLongestRun_21 : decode cX3_stopLongestRun 21 = .ok (.iconst 0, 1) := by decide +kernel
theorem dX3_stopLongestRun_22 : decode cX3_stopLongestRun 22 = .ok (.ireturn, 1) := by decide +kernel
set_option maxRecDepth 20000 in
theorem ggX3_stopAt_X1_stand : GoodIn wsX3_stopAt wsX1_stand := goodIn_r _ [6, 7, 8, 9, 10, 11, 12, 13, 14, 27, 28, 29, 30, 31, 32, 33, 34, 35, 36, 37, 38, 39, 40, 41] (by decide +kernel) (by decide +kernel)
set_option maxRecDepth 20000 in
theorem gX3_stopAt_X1_stand : GoodIn wsX3_stopAt (wsV RX3 139 RX1 yX1_stand wsX1_stand) := goodIn_app (goodIn_of _ (by decide +kernel)) ggX3_stopAt_X1_stand
theorem dX3_stopAt_0 : decode cX3_stopAt 0 = .ok (.iload_n 1, 1) := by decide +kernel
theorem dX3_stopAt_1 : decode cX3_stopAt 1 = .ok (.iconst (-1), 1) := by decide +kernel
theorem dX3_stopAt_2 : decode cX3_stopAt 2 = .ok (.if_icmp .eq 13, 3) := by decide +kernel
theorem dX3_stopAt_5 : decode cX3_stopAt 5 = .ok (.aload_n 0, 1) := by decide +kernel
theorem dX3_stopAt_6 : decode cX3_stopAt 6 = .ok (.getfield 23, 3) := by decide +kernel
theorem dX3_stopAt_9 : decode cX3_stopAt 9 = .ok (.iload_n 1, 1) := by decide +kernel
theorem dX3_stopAt_10 : decode cX3_stopAt 10 = .ok (.aaload, 1) := by decide +kernel
theorem dX3_stopAt_11 : decode cX3_stopAt 11 = .ok (.iload_n 2, 1) := by decide +kernel
theorem dX3_stopAt_12 : decode cX3_stopAt 12 = .ok (.invokevirtual 139, 3) := by decide +kernel
theorem dX3_stopAt_15 : decode cX3_stopAt 15 = .ok (.return_, 1) := by decide +kernel
theorem dX3_longestRun_0 : decode cX3_longestRun 0 = .ok (.iconst (-1), 1) := by decide +kernel
theorem dX3_longestRun_1 : decode cX3_longestRun 1 = .ok (.istore_n 2, 1) := by decide +kernel
theorem dX3_longestRun_2 : decode cX3_longestRun 2 = .ok (.iconst 0, 1) := by decide +kernel
theorem dX3_longestRun_3 : decode cX3_longestRun 3 = .ok (.istore_n 3, 1) := by decide +kernel
theorem dX3_longestRun_4 : decode cX3_longestRun 4 = .ok (.iload_n 3, 1) := by decide +kernel
theorem dX3_longestRun_5 : decode cX3_longestRun 5 = .ok (.aload_n 0, 1) := by decide +kernel
theorem dX3_longestRun_6 : decode cX3_longestRun 6 = .ok (.getfield 48, 3) := by decide +kernel
theorem dX3_longestRun_9 : decode cX3_longestRun 9 = .ok (.if_icmp .ge 86, 3) := by decide +kernel
theorem dX3_longestRun_12 : decode cX3_longestRun 12 = .ok (.aload_n 0, 1) := by decide +kernel
theorem dX3_longestRun_13 : decode cX3_longestRun 13 = .ok (.getfield 23, 3) := by decide +kernel
theorem dX3_longestRun_16 : decode cX3_longestRun 16 = .ok (.iload_n 3, 1) := by decide +kernel
theorem dX3_longestRun_17 : decode cX3_longestRun 17 = .ok (.aaload, 1) := by decide +kernel
theorem dX3_longestRun_18 : decode cX3_longestRun 18 = .ok (.getfield 125, 3) := by decide +kernel
theorem dX3_longestRun_21 : decode cX3_longestRun 21 = .ok (.istore 4, 2) := by decide +kernel
theorem dX3_longestRun_23 : decode cX3_longestRun 23 = .ok (.iload_n 1, 1) := by decide +kernel
theorem dX3_longestRun_24 : decode cX3_longestRun 24 = .ok (.ifCond .eq 16, 3) := by decide +kernel
theorem dX3_longestRun_27 : decode cX3_longestRun 27 = .ok (.iload 4, 2) := by decide +kernel
theorem dX3_longestRun_29 : decode cX3_longestRun 29 = .ok (.ifCond .eq 7, 3) := by decide +kernel
theorem dX3_longestRun_32 : decode cX3_longestRun 32 = .ok (.iconst 1, 1) := by decide +kernel
theorem dX3_longestRun_33 : decode cX3_longestRun 33 = .ok (.goto 21, 3) := by decide +kernel
theorem dX3_longestRun_36 : decode cX3_longestRun 36 = .ok (.iconst 0, 1) := by decide +kernel
theorem dX3_longestRun_37 : decode cX3_longestRun 37 = .ok (.goto 17, 3) := by decide +kernel
theorem dX3_longestRun_40 : decode cX3_longestRun 40 = .ok (.iload 4, 2) := by decide +kernel
theorem dX3_longestRun_42 : decode cX3_longestRun 42 = .ok (.aload_n 0, 1) := by decide +kernel
theorem dX3_longestRun_43 : decode cX3_longestRun 43 = .ok (.getfield 31, 3) := by decide +kernel
theorem dX3_longestRun_46 : decode cX3_longestRun 46 = .ok (.if_icmp .ne 7, 3) := by decide +kernel
theorem dX3_longestRun_49 : decode cX3_longestRun 49 = .ok (.iconst 1, 1) := by decide +kernel
theorem dX3_longestRun_50 : decode cX3_longestRun 50 = .ok (.goto 4, 3) := by decide +kernel
theorem dX3_longestRun_53 : decode cX3_longestRun 53 = .ok (.iconst 0, 1) := by decide +kernel
theorem dX3_longestRun_54 : decode cX3_longestRun 54 = .ok (.istore 5, 2) := by decide +kernel
theorem dX3_longestRun_56 : decode cX3_longestRun 56 = .ok (.iload 5, 2) := by decide +kernel
theorem dX3_longestRun_58 : decode cX3_longestRun 58 = .ok (.ifCond .eq 31, 3) := by decide +kernel
theorem dX3_longestRun_61 : decode cX3_longestRun 61 = .ok (.iload_n 2, 1) := by decide +kernel
theorem dX3_longestRun_62 : decode cX3_longestRun 62 = .ok (.iconst (-1), 1) := by decide +kernel
theorem dX3_longestRun_63 : decode cX3_longestRun 63 = .ok (.if_icmp .eq 24, 3) := by decide +kernel
theorem dX3_longestRun_66 : decode cX3_longestRun 66 = .ok (.aload_n 0, 1) := by decide +kernel
theorem dX3_longestRun_67 : decode cX3_longestRun 67 = .ok (.getfield 23, 3) := by decide +kernel
theorem dX3_longestRun_70 : decode cX3_longestRun 70 = .ok (.iload_n 3, 1) := by decide +kernel
theorem dX3_longestRun_71 : decode cX3_longestRun 71 = .ok (.aaload, 1) := by decide +kernel
theorem dX3_longestRun_72 : decode cX3_longestRun 72 = .ok (.getfield 142, 3) := by decide +kernel
theorem dX3_longestRun_75 : decode cX3_longestRun 75 = .ok (.aload_n 0, 1) := by decide +kernel
theorem dX3_longestRun_76 : decode cX3_longestRun 76 = .ok (.getfield 23, 3) := by decide +kernel
theorem dX3_longestRun_79 : decode cX3_longestRun 79 = .ok (.iload_n 2, 1) := by decide +kernel
theorem dX3_longestRun_80 : decode cX3_longestRun 80 = .ok (.aaload, 1) := by decide +kernel
theorem dX3_longestRun_81 : decode cX3_longestRun 81 = .ok (.getfield 142, 3) := by decide +kernel
theorem dX3_longestRun_84 : decode cX3_longestRun 84 = .ok (.if_icmp .le 5, 3) := by decide +kernel
theorem dX3_longestRun_87 : decode cX3_longestRun 87 = .ok (.iload_n 3, 1) := by decide +kernel
theorem dX3_longestRun_88 : decode cX3_longestRun 88 = .ok (.istore_n 2, 1) := by decide +kernel
theorem dX3_longestRun_89 : decode cX3_longestRun 89 = .ok (.iinc 3 1, 3) := by decide +kernel
theorem dX3_longestRun_92 : decode cX3_longestRun 92 = .ok (.goto (-88), 3) := by decide +kernel
theorem dX3_longestRun_95 : decode cX3_longestRun 95 = .ok (.iload_n 2, 1) := by decide +kernel
theorem dX3_longestRun_96 : decode cX3_longestRun 96 = .ok (.ireturn, 1) := by decide +kernel
set_option maxRecDepth 20000 in
theorem ggX3_leastRunReady_X3_isReady : GoodIn wsX3_leastRunReady wsX3_isReady := goodIn_r _ [8, 9, 10, 11, 12, 13, 14, 15, 16, 17, 18, 19, 20, 21, 22, 23, 24, 25, 26, 48, 49, 50, 51, 52, 53, 39, 40, 41, 42, 43, 44, 45, 46, 47, 27, 28, 29, 30, 31, 32, 33, 34, 35, 36, 37, 38] (by decide +kernel) (by decide +kernel)
set_option maxRecDepth 20000 in
theorem gX3_leastRunReady_X3_isReady : GoodIn wsX3_leastRunReady (wsV RX3 145 RX3 yX3_isReady wsX3_isReady) := goodIn_app (goodIn_of _ (by decide +kernel)) ggX3_leastRunReady_X3_isReady
theorem dX3_leastRunReady_0 : decode cX3_leastRunReady 0 = .ok (.iconst (-1), 1) := by decide +kernel
theorem dX3_leastRunReady_1 : decode cX3_leastRunReady 1 = .ok (.istore_n 3, 1) := by decide +kernel
theorem dX3_leastRunReady_2 : decode cX3_leastRunReady 2 = .ok (.iconst 0, 1) := by decide +kernel
theorem dX3_leastRunReady_3 : decode cX3_leastRunReady 3 = .ok (.istore 4, 2) := by decide +kernel
theorem dX3_leastRunReady_5 : decode cX3_leastRunReady 5 = .ok (.iload 4, 2) := by decide +kernel
theorem dX3_leastRunReady_7 : decode cX3_leastRunReady 7 = .ok (.aload_n 0, 1) := by decide +kernel
theorem dX3_leastRunReady_8 : decode cX3_leastRunReady 8 = .ok (.getfield 48, 3) := by decide +kernel
theorem dX3_leastRunReady_11 : decode cX3_leastRunReady 11 = .ok (.if_icmp .ge 55, 3) := by decide +kernel
theorem dX3_leastRunReady_14 : decode cX3_leastRunReady 14 = .ok (.aload_n 0, 1) := by decide +kernel
theorem dX3_leastRunReady_15 : decode cX3_leastRunReady 15 = .ok (.aload_n 0, 1) := by decide +kernel
theorem dX3_leastRunReady_16 : decode cX3_leastRunReady 16 = .ok (.getfield 23, 3) := by decide +kernel
theorem dX3_leastRunReady_19 : decode cX3_leastRunReady 19 = .ok (.iload 4, 2) := by decide +kernel
theorem dX3_leastRunReady_21 : decode cX3_leastRunReady 21 = .ok (.aaload, 1) := by decide +kernel
theorem dX3_leastRunReady_22 : decode cX3_leastRunReady 22 = .ok (.iload_n 1, 1) := by decide +kernel
theorem dX3_leastRunReady_23 : decode cX3_leastRunReady 23 = .ok (.iload_n 2, 1) := by decide +kernel
theorem dX3_leastRunReady_24 : decode cX3_leastRunReady 24 = .ok (.invokevirtual 145, 3) := by decide +kernel
theorem dX3_leastRunReady_27 : decode cX3_leastRunReady 27 = .ok (.ifCond .eq 33, 3) := by decide +kernel
theorem dX3_leastRunReady_30 : decode cX3_leastRunReady 30 = .ok (.iload_n 3, 1) := by decide +kernel
theorem dX3_leastRunReady_31 : decode cX3_leastRunReady 31 = .ok (.iconst (-1), 1) := by decide +kernel
theorem dX3_leastRunReady_32 : decode cX3_leastRunReady 32 = .ok (.if_icmp .eq 25, 3) := by decide +kernel
theorem dX3_leastRunReady_35 : decode cX3_leastRunReady 35 = .ok (.aload_n 0, 1) := by decide +kernel
theorem dX3_leastRunReady_36 : decode cX3_leastRunReady 36 = .ok (.getfield 23, 3) := by decide +kernel
theorem dX3_leastRunReady_39 : decode cX3_leastRunReady 39 = .ok (.iload 4, 2) := by decide +kernel
theorem dX3_leastRunReady_41 : decode cX3_leastRunReady 41 = .ok (.aaload, 1) := by decide +kernel
theorem dX3_leastRunReady_42 : decode cX3_leastRunReady 42 = .ok (.getfield 142, 3) := by decide +kernel
theorem dX3_leastRunReady_45 : decode cX3_leastRunReady 45 = .ok (.aload_n 0, 1) := by decide +kernel
theorem dX3_leastRunReady_46 : decode cX3_leastRunReady 46 = .ok (.getfield 23, 3) := by decide +kernel
theorem dX3_leastRunReady_49 : decode cX3_leastRunReady 49 = .ok (.iload_n 3, 1) := by decide +kernel
theorem dX3_leastRunReady_50 : decode cX3_leastRunReady 50 = .ok (.aaload, 1) := by decide +kernel
theorem dX3_leastRunReady_51 : decode cX3_leastRunReady 51 = .ok (.getfield 142, 3) := by decide +kernel
theorem dX3_leastRunReady_54 : decode cX3_leastRunReady 54 = .ok (.if_icmp .ge 6, 3) := by decide +kernel
theorem dX3_leastRunReady_57 : decode cX3_leastRunReady 57 = .ok (.iload 4, 2) := by decide +kernel
theorem dX3_leastRunReady_59 : decode cX3_leastRunReady 59 = .ok (.istore_n 3, 1) := by decide +kernel
theorem dX3_leastRunReady_60 : decode cX3_leastRunReady 60 = .ok (.iinc 4 1, 3) := by decide +kernel
theorem dX3_leastRunReady_63 : decode cX3_leastRunReady 63 = .ok (.goto (-58), 3) := by decide +kernel
theorem dX3_leastRunReady_66 : decode cX3_leastRunReady 66 = .ok (.iload_n 3, 1) := by decide +kernel
theorem dX3_leastRunReady_67 : decode cX3_leastRunReady 67 = .ok (.ireturn, 1) := by decide +kernel
set_option maxRecDepth 20000 in
theorem ggX3_isReady_X1_hasRested : GoodIn wsX3_isReady wsX1_hasRested := goodIn_r _ [10, 11, 12, 13, 14, 9, 15, 16, 2, 17, 18, 25, 26, 27, 28, 29, 30, 31, 32, 33, 19, 20, 21, 22, 23, 24] (by decide +kernel) (by decide +kernel)
set_option maxRecDepth 20000 in
theorem gX3_isReady_X1_hasRested : GoodIn wsX3_isReady (wsV RX3 152 RX1 yX1_hasRested wsX1_hasRested) := goodIn_app (goodIn_of _ (by decide +kernel)) ggX3_isReady_X1_hasRested
theorem dX3_isReady_0 : decode cX3_isReady 0 = .ok (.aload_n 1, 1) := by decide +kernel
theorem dX3_isReady_1 : decode cX3_isReady 1 = .ok (.getfield 125, 3) := by decide +kernel
theorem dX3_isReady_4 : decode cX3_isReady 4 = .ok (.ifCond .ne 27, 3) := by decide +kernel
theorem dX3_isReady_7 : decode cX3_isReady 7 = .ok (.aload_n 1, 1) := by decide +kernel
theorem dX3_isReady_8 : decode cX3_isReady 8 = .ok (.getfield 149, 3) := by decide +kernel
theorem dX3_isReady_11 : decode cX3_isReady 11 = .ok (.ifCond .ne 20, 3) := by decide +kernel
theorem dX3_isReady_14 : decode cX3_isReady 14 = .ok (.aload_n 1, 1) := by decide +kernel
theorem dX3_isReady_15 : decode cX3_isReady 15 = .ok (.aload_n 0, 1) := by decide +kernel
theorem dX3_isReady_16 : decode cX3_isReady 16 = .ok (.getfield 31, 3) := by decide +kernel
theorem dX3_isReady_19 : decode cX3_isReady 19 = .ok (.iload_n 2, 1) := by decide +kernel
theorem dX3_isReady_20 : decode cX3_isReady 20 = .ok (.iload_n 3, 1) := by decide +kernel
theorem dX3_isReady_21 : decode cX3_isReady 21 = .ok (.invokevirtual 152, 3) := by decide +kernel
theorem dX3_isReady_24 : decode cX3_isReady 24 = .ok (.ifCond .eq 7, 3) := by decide +kernel
theorem dX3_isReady_27 : decode cX3_isReady 27 = .ok (.iconst 1, 1) := by decide +kernel
theorem dX3_isReady_28 : decode cX3_isReady 28 = .ok (.goto 4, 3) := by decide +kernel
theorem dX3_isReady_31 : decode cX3_isReady 31 = .ok (.iconst 0, 1) := by decide +kernel
theorem dX3_isReady_32 : decode cX3_isReady 32 = .ok (.ireturn, 1) := by decide +kernel
theorem dX3_countRun_0 : decode cX3_countRun 0 = .ok (.iconst 0, 1) := by decide +kernel
theorem dX3_countRun_1 : decode cX3_countRun 1 = .ok (.istore_n 1, 1) := by decide +kernel
theorem dX3_countRun_2 : decode cX3_countRun 2 = .ok (.iload_n 1, 1) := by decide +kernel
theorem dX3_countRun_3 : decode cX3_countRun 3 = .ok (.aload_n 0, 1) := by decide +kernel
theorem dX3_countRun_4 : decode cX3_countRun 4 = .ok (.getfield 48, 3) := by decide +kernel
theorem dX3_countRun_7 : decode cX3_countRun 7 = .ok (.if_icmp .ge 36, 3) := by decide +kernel
theorem dX3_countRun_10 : decode cX3_countRun 10 = .ok (.aload_n 0, 1) := by decide +kernel
theorem dX3_countRun_11 : decode cX3_countRun 11 = .ok (.getfield 23, 3) := by decide +kernel
theorem dX3_countRun_14 : decode cX3_countRun 14 = .ok (.iload_n 1, 1) := by decide +kernel
theorem dX3_countRun_15 : decode cX3_countRun 15 = .ok (.aaload, 1) := by decide +kernel
theorem dX3_countRun_16 : decode cX3_countRun 16 = .ok (.getfield 125, 3) := by decide +kernel
theorem dX3_countRun_19 : decode cX3_countRun 19 = .ok (.ifCond .eq 18, 3) := by decide +kernel
theorem dX3_countRun_22 : decode cX3_countRun 22 = .ok (.aload_n 0, 1) := by decide +kernel
theorem dX3_countRun_23 : decode cX3_countRun 23 = .ok (.getfield 23, 3) := by decide +kernel
theorem dX3_countRun_26 : decode cX3_countRun 26 = .ok (.iload_n 1, 1) := by decide +kernel
theorem dX3_countRun_27 : decode cX3_countRun 27 = .ok (.aaload, 1) := by decide +kernel
theorem dX3_countRun_28 : decode cX3_countRun 28 = .ok (.dup, 1) := by decide +kernel
theorem dX3_countRun_29 : decode cX3_countRun 29 = .ok (.getfield 142, 3) := by decide +kernel
theorem dX3_countRun_32 : decode cX3_countRun 32 = .ok (.iconst 1, 1) := by decide +kernel
theorem dX3_countRun_33 : decode cX3_countRun 33 = .ok (.iadd, 1) := by decide +kernel
theorem dX3_countRun_34 : decode cX3_countRun 34 = .ok (.putfield 142, 3) := by decide +kernel
theorem dX3_countRun_37 : decode cX3_countRun 37 = .ok (.iinc 1 1, 3) := by decide +kernel
theorem dX3_countRun_40 : decode cX3_countRun 40 = .ok (.goto (-38), 3) := by decide +kernel
theorem dX3_countRun_43 : decode cX3_countRun 43 = .ok (.return_, 1) := by decide +kernel
end
section
def rmX0_send : Room := { frames := 0, cells := 0, slots := 0, locals := 0 }
theorem iX0_send_0 : ∀ w ∈ wsX00, w ∈ wsX0_send := by decide +kernel
theorem iX0_send_1 : ∀ w ∈ wsX10, w ∈ wsX0_send := by decide +kernel
def fX0_send (o : Nat) (p1 : Int32) (p2 : Int32) (v : Mem) : Option (Mem) := if (v o 0) = p1 then some v else some (up2 (up2 v o 0 p1) o 2 p2)
set_option maxRecDepth 100000 in
set_option maxHeartbeats 4000000 in
theorem kX0_send_0 {p : Program} {l : Launch} {e : Env} {s : State} {m : MethodId} {args : Array Value} {below : List Frame} {meth : Method} {c : Code} {D : va_G} {A : Nat → Prop} {cI cS cF cZ cJ : ClassId} {ad : Nat → Nat} {X : va_W} {n : Nat} {o : Nat} {p1 : Int32} {p2 : Int32} (G : cx p s m args meth c cX0_send 3 wsX0_send RX0 D (ty5 cI cS cF cZ cJ) A none) (hn : n ≤ 24) (ho : kC n o = 0 ∨ kC n o = 1) (v : Mem) : sk p l e rmX0_send s m args below meth c D A 3 0 0 (fun res => MQ below (qv D A (ty5 cI cS cF cZ cJ) (Wc cI cS cF ad n X) res) args s 0 0 A) (Wc cI cS cF ad n X v) 0 [(0, .ref (ad o)), (1, .int p1), (2, .int p2)] [] (fX0_send o p1 p2 v) := by
  obtain ⟨F, hK, hA, hZ, hr, hlocks⟩ := G
  refine sk_eq (K' := if (v o 0) = p1 then some v else some (up2 (up2 v o 0 p1) o 2 p2)) rfl ?_
  refine sk_aload_n F dX0_send_0 rfl 0 rfl ?_
  refine sk_gD F hK ho iX0_send_0 iX0_send_1 0 (by decide) (by decide +kernel) rfl rfl rfl rfl dX0_send_1 ?_
  refine sk_iload_n F dX0_send_4 rfl 1 rfl ?_
  refine sk_icmp_eq F 18 dX0_send_5 (by decide) (fun h1 => ?_) (fun h1 => ?_)
  · exact sk_vret F hK hr hlocks dX0_send_18
  · refine sk_aload_n F dX0_send_8 rfl 0 rfl ?_
    refine sk_iload_n F dX0_send_9 rfl 1 rfl ?_
    refine sk_pD (ty := .int) F hK ho iX0_send_0 iX0_send_1 0 (by decide) (by decide +kernel) rfl (by decide +kernel) rfl rfl rfl rfl rfl rfl dX0_send_10 ?_
    refine sk_aload_n F dX0_send_13 rfl 0 rfl ?_
    refine sk_iload_n F dX0_send_14 rfl 2 rfl ?_
    refine sk_pD (ty := .int) F hK ho iX0_send_0 iX0_send_1 2 (by decide) (by decide +kernel) rfl (by decide +kernel) rfl rfl rfl rfl rfl rfl dX0_send_15 ?_
    exact sk_vret F hK hr hlocks dX0_send_18
theorem tX0_send {l : Launch} {D : va_G} {A : Nat → Prop} {cI cS cF cZ cJ : ClassId} {ad : Nat → Nat} {X : va_W} {n : Nat} (hn : n ≤ 24) {o : Nat} {p1 : Int32} {p2 : Int32} (ho : kC n o = 0 ∨ kC n o = 1) (v : Mem) : CV l yX0_send wsX0_send rmX0_send D A (ty5 cI cS cF cZ cJ) (Wc cI cS cF ad n X) [.ref (ad o), .int p1, .int p2] v (fX0_send o p1 p2 v) :=
  CV_of (cc := cX0_send) (maxL := 3) (ret := none) (by decide) rfl (Nat.le_of_ble_eq_true rfl) (fun p e s m below meth c G => kX0_send_0 G hn ho v)
def rmX0_act : Room := { frames := 0, cells := 0, slots := 0, locals := 0 }
theorem iX0_act_0 : ∀ w ∈ wsX00, w ∈ wsX0_act := by decide +kernel
theorem iX0_act_1 : ∀ w ∈ wsX10, w ∈ wsX0_act := by decide +kernel
def fX0_act (o : Nat) (p1 : Int32) (v : Mem) : Option (Mem) := if (v o 4) = 0 then if (p1 - (v o 2)) < (v o 3) then some v else some (up2 v o 1 (v o 0)) else some v
set_option maxRecDepth 100000 in
set_option maxHeartbeats 4000000 in
theorem kX0_act_0 {p : Program} {l : Launch} {e : Env} {s : State} {m : MethodId} {args : Array Value} {below : List Frame} {meth : Method} {c : Code} {D : va_G} {A : Nat → Prop} {cI cS cF cZ cJ : ClassId} {ad : Nat → Nat} {X : va_W} {n : Nat} {o : Nat} {p1 : Int32} (G : cx p s m args meth c cX0_act 2 wsX0_act RX0 D (ty5 cI cS cF cZ cJ) A none) (hn : n ≤ 24) (ho : kC n o = 0 ∨ kC n o = 1) (v : Mem) : sk p l e rmX0_act s m args below meth c D A 2 0 0 (fun res => MQ below (qv D A (ty5 cI cS cF cZ cJ) (Wc cI cS cF ad n X) res) args s 0 0 A) (Wc cI cS cF ad n X v) 0 [(0, .ref (ad o)), (1, .int p1)] [] (fX0_act o p1 v) := by
  obtain ⟨F, hK, hA, hZ, hr, hlocks⟩ := G
  refine sk_eq (K' := if (v o 4) = 0 then if (p1 - (v o 2)) < (v o 3) then some v else some (up2 v o 1 (v o 0)) else some v) rfl ?_
  refine sk_aload_n F dX0_act_0 rfl 0 rfl ?_
  refine sk_gD F hK ho iX0_act_0 iX0_act_1 4 (by decide) (by decide +kernel) rfl rfl rfl rfl dX0_act_1 ?_
  refine sk_if_ne F 28 dX0_act_4 (by decide) (fun h1 => ?_) (fun h1 => ?_)
  · exact sk_vret F hK hr hlocks dX0_act_28
  · refine sk_iload_n F dX0_act_7 rfl 1 rfl ?_
    refine sk_aload_n F dX0_act_8 rfl 0 rfl ?_
    refine sk_gD F hK ho iX0_act_0 iX0_act_1 2 (by decide) (by decide +kernel) rfl rfl rfl rfl dX0_act_9 ?_
    refine sk_isub F dX0_act_12 ?_
    refine sk_aload_n F dX0_act_13 rfl 0 rfl ?_
    refine sk_gD F hK ho iX0_act_0 iX0_act_1 3 (by decide) (by decide +kernel) rfl rfl rfl rfl dX0_act_14 ?_
    refine sk_icmp_lt F 28 dX0_act_17 (by decide) (fun h2 => ?_) (fun h2 => ?_)
    · exact sk_vret F hK hr hlocks dX0_act_28
    · refine sk_aload_n F dX0_act_20 rfl 0 rfl ?_
      refine sk_aload_n F dX0_act_21 rfl 0 rfl ?_
      refine sk_gD F hK ho iX0_act_0 iX0_act_1 0 (by decide) (by decide +kernel) rfl rfl rfl rfl dX0_act_22 ?_
      refine sk_pD (ty := .int) F hK ho iX0_act_0 iX0_act_1 1 (by decide) (by decide +kernel) rfl (by decide +kernel) rfl rfl rfl rfl rfl rfl dX0_act_25 ?_
      exact sk_vret F hK hr hlocks dX0_act_28
theorem tX0_act {l : Launch} {D : va_G} {A : Nat → Prop} {cI cS cF cZ cJ : ClassId} {ad : Nat → Nat} {X : va_W} {n : Nat} (hn : n ≤ 24) {o : Nat} {p1 : Int32} (ho : kC n o = 0 ∨ kC n o = 1) (v : Mem) : CV l yX0_act wsX0_act rmX0_act D A (ty5 cI cS cF cZ cJ) (Wc cI cS cF ad n X) [.ref (ad o), .int p1] v (fX0_act o p1 v) :=
  CV_of (cc := cX0_act) (maxL := 2) (ret := none) (by decide) rfl (Nat.le_of_ble_eq_true rfl) (fun p e s m below meth c G => kX0_act_0 G hn ho v)
def rmX0_repair : Room := { frames := 0, cells := 0, slots := 0, locals := 0 }
theorem iX0_repair_0 : ∀ w ∈ wsX00, w ∈ wsX0_repair := by decide +kernel
theorem iX0_repair_1 : ∀ w ∈ wsX10, w ∈ wsX0_repair := by decide +kernel
def fX0_repair_19 (o : Nat) (v : Mem) (s0 : Int32) : Option (Int32 × Mem) := gd (bo s0) (some (s0, up2 (up2 (up2 v o 4 0) o 5 0) o 1 ((up2 (up2 v o 4 0) o 5 0) o 0)))
set_option maxRecDepth 100000 in
set_option maxHeartbeats 4000000 in
theorem kX0_repair_19 {p : Program} {l : Launch} {e : Env} {s : State} {m : MethodId} {args : Array Value} {below : List Frame} {meth : Method} {c : Code} {D : va_G} {A : Nat → Prop} {cI cS cF cZ cJ : ClassId} {ad : Nat → Nat} {X : va_W} {n : Nat} {o : Nat} (G : cx p s m args meth c cX0_repair 2 wsX0_repair RX0 D (ty5 cI cS cF cZ cJ) A (some .boolean)) (hn : n ≤ 24) (ho : kC n o = 0 ∨ kC n o = 1) (v : Mem) (s0 : Int32) : sk p l e rmX0_repair s m args below meth c D A 2 0 0 (fun res => MQ below (qi D A (ty5 cI cS cF cZ cJ) (Wc cI cS cF ad n X) res) args s 0 0 A) (Wc cI cS cF ad n X v) 19 [(0, .ref (ad o))] [.int s0] (fX0_repair_19 o v s0) := by
  obtain ⟨F, hK, hA, hZ, hr, hlocks⟩ := G
  refine sk_eq (K' := gd (bo s0) (some (s0, up2 (up2 (up2 v o 4 0) o 5 0) o 1 ((up2 (up2 v o 4 0) o 5 0) o 0)))) rfl ?_
  refine sk_istore_n F dX0_repair_19 rfl (by decide) rfl ?_
  refine sk_aload_n F dX0_repair_20 rfl 1 rfl ?_
  refine sk_iconst (x := 0) F dX0_repair_21 (by decide) ?_
  refine sk_pD (ty := .boolean) F hK ho iX0_repair_0 iX0_repair_1 4 (by decide) (by decide +kernel) rfl (by decide +kernel) rfl rfl rfl rfl rfl rfl dX0_repair_22 ?_
  refine sk_aload_n F dX0_repair_25 rfl 1 rfl ?_
  refine sk_iconst (x := 0) F dX0_repair_26 (by decide) ?_
  refine sk_pD (ty := .boolean) F hK ho iX0_repair_0 iX0_repair_1 5 (by decide) (by decide +kernel) rfl (by decide +kernel) rfl rfl rfl rfl rfl rfl dX0_repair_27 ?_
  refine sk_aload_n F dX0_repair_30 rfl 1 rfl ?_
  refine sk_aload_n F dX0_repair_31 rfl 1 rfl ?_
  refine sk_gD F hK ho iX0_repair_0 iX0_repair_1 0 (by decide) (by decide +kernel) rfl rfl rfl rfl dX0_repair_32 ?_
  refine sk_pD (ty := .int) F hK ho iX0_repair_0 iX0_repair_1 1 (by decide) (by decide +kernel) rfl (by decide +kernel) rfl rfl rfl rfl rfl rfl dX0_repair_35 ?_
  refine sk_iload_n F dX0_repair_38 rfl 0 rfl ?_
  exact sk_zret F hK hr hlocks dX0_repair_39
def fX0_repair (o : Nat) (v : Mem) : Option (Int32 × Mem) := if (v o 4) = 0 then if (v o 5) = 0 then fX0_repair_19 o v 0 else fX0_repair_19 o v 1 else fX0_repair_19 o v 1
set_option maxRecDepth 100000 in
set_option maxHeartbeats 4000000 in
theorem kX0_repair_0 {p : Program} {l : Launch} {e : Env} {s : State} {m : MethodId} {args : Array Value} {below : List Frame} {meth : Method} {c : Code} {D : va_G} {A : Nat → Prop} {cI cS cF cZ cJ : ClassId} {ad : Nat → Nat} {X : va_W} {n : Nat} {o : Nat} (G : cx p s m args meth c cX0_repair 2 wsX0_repair RX0 D (ty5 cI cS cF cZ cJ) A (some .boolean)) (hn : n ≤ 24) (ho : kC n o = 0 ∨ kC n o = 1) (v : Mem) : sk p l e rmX0_repair s m args below meth c D A 2 0 0 (fun res => MQ below (qi D A (ty5 cI cS cF cZ cJ) (Wc cI cS cF ad n X) res) args s 0 0 A) (Wc cI cS cF ad n X v) 0 [(0, .ref (ad o))] [] (fX0_repair o v) := by
  obtain ⟨F, hK, hA, hZ, hr, hlocks⟩ := G
  refine sk_eq (K' := if (v o 4) = 0 then if (v o 5) = 0 then fX0_repair_19 o v 0 else fX0_repair_19 o v 1 else fX0_repair_19 o v 1) rfl ?_
  refine sk_aload_n F dX0_repair_0 rfl 0 rfl ?_
  refine sk_gD F hK ho iX0_repair_0 iX0_repair_1 4 (by decide) (by decide +kernel) rfl rfl rfl rfl dX0_repair_1 ?_
  refine sk_if_ne F 14 dX0_repair_4 (by decide) (fun h1 => ?_) (fun h1 => ?_)
  · refine sk_iconst (x := 1) F dX0_repair_14 (by decide) ?_
    refine sk_goto F 19 dX0_repair_15 (by decide) ?_
    exact kX0_repair_19 ⟨F, hK, hA, hZ, hr, hlocks⟩ hn ho v 1
  · refine sk_aload_n F dX0_repair_7 rfl 0 rfl ?_
    refine sk_gD F hK ho iX0_repair_0 iX0_repair_1 5 (by decide) (by decide +kernel) rfl rfl rfl rfl dX0_repair_8 ?_
    refine sk_if_eq F 18 dX0_repair_11 (by decide) (fun h2 => ?_) (fun h2 => ?_)
    · refine sk_iconst (x := 0) F dX0_repair_18 (by decide) ?_
      exact kX0_repair_19 ⟨F, hK, hA, hZ, hr, hlocks⟩ hn ho v 0
    · refine sk_iconst (x := 1) F dX0_repair_14 (by decide) ?_
      refine sk_goto F 19 dX0_repair_15 (by decide) ?_
      exact kX0_repair_19 ⟨F, hK, hA, hZ, hr, hlocks⟩ hn ho v 1
theorem tX0_repair {l : Launch} {D : va_G} {A : Nat → Prop} {cI cS cF cZ cJ : ClassId} {ad : Nat → Nat} {X : va_W} {n : Nat} (hn : n ≤ 24) {o : Nat} (ho : kC n o = 0 ∨ kC n o = 1) (v : Mem) : CI l yX0_repair wsX0_repair rmX0_repair D A (ty5 cI cS cF cZ cJ) (Wc cI cS cF ad n X) [.ref (ad o)] v (fX0_repair o v) :=
  CI_of (cc := cX0_repair) (maxL := 2) (ret := (some .boolean)) (by decide) rfl (Nat.le_of_ble_eq_true rfl) (fun p e s m below meth c G => kX0_repair_0 G hn ho v)
end
section
def rmX1_blow : Room := { frames := 1, cells := 0, slots := 0, locals := 22 }
theorem iX1_blow_1 : ∀ w ∈ wsX10, w ∈ wsX1_blow := by decide +kernel
def fX1_blow (o : Nat) (p1 : Int32) (p2 : Int32) (v : Mem) : Option (Mem) := (fX0_send o p1 p2 v).bind fun v2 => some (up2 v2 o 8 p1)
set_option maxRecDepth 100000 in
set_option maxHeartbeats 4000000 in
theorem kX1_blow_0 {p : Program} {l : Launch} {e : Env} {s : State} {m : MethodId} {args : Array Value} {below : List Frame} {meth : Method} {c : Code} {D : va_G} {A : Nat → Prop} {cI cS cF cZ cJ : ClassId} {ad : Nat → Nat} {X : va_W} {n : Nat} {o : Nat} {p1 : Int32} {p2 : Int32} (G : cx p s m args meth c cX1_blow 3 wsX1_blow RX1 D (ty5 cI cS cF cZ cJ) A none) (hn : n ≤ 24) (ho : kC n o = 1) (v : Mem) : sk p l e rmX1_blow s m args below meth c D A 3 0 0 (fun res => MQ below (qv D A (ty5 cI cS cF cZ cJ) (Wc cI cS cF ad n X) res) args s 0 0 A) (Wc cI cS cF ad n X v) 0 [(0, .ref (ad o)), (1, .int p1), (2, .int p2)] [] (fX1_blow o p1 p2 v) := by
  obtain ⟨F, hK, hA, hZ, hr, hlocks⟩ := G
  refine sk_eq (K' := (fX0_send o p1 p2 v).bind fun v2 => some (up2 v2 o 8 p1)) rfl ?_
  refine sk_aload_n F dX1_blow_0 rfl 0 rfl ?_
  refine sk_iload_n F dX1_blow_1 rfl 1 rfl ?_
  refine sk_iload_n F dX1_blow_2 rfl 2 rfl ?_
  refine sk_callUv (As := [.int p1, .int p2]) (rest := []) F hK hA hZ _ (tX0_send hn (Or.inr ho) _) (va_cwU 2 F.2.2.2.2 gX1_blow_X0_send_u9X1 rfl rfl rfl rfl (by decide +kernel) ⟨Nat.le_of_ble_eq_true rfl, Nat.le_of_ble_eq_true rfl⟩) (rc1 hK ho) rfl rfl (Nat.le_of_ble_eq_true rfl) (by decide) dX1_blow_3 (fun v2 c1 => ?_)
  refine sk_aload_n F dX1_blow_6 rfl 0 rfl ?_
  refine sk_iload_n F dX1_blow_7 rfl 1 rfl ?_
  refine sk_p1 (ref := "TunnelWatch$Fan") (ty := .int) F hK ho iX1_blow_1 8 (by decide) (by decide +kernel) (fun _ h9 => h9) rfl (by decide +kernel) rfl rfl rfl dX1_blow_8 ?_
  exact sk_vret F hK hr hlocks dX1_blow_11
theorem tX1_blow {l : Launch} {D : va_G} {A : Nat → Prop} {cI cS cF cZ cJ : ClassId} {ad : Nat → Nat} {X : va_W} {n : Nat} (hn : n ≤ 24) {o : Nat} {p1 : Int32} {p2 : Int32} (ho : kC n o = 1) (v : Mem) : CV l yX1_blow wsX1_blow rmX1_blow D A (ty5 cI cS cF cZ cJ) (Wc cI cS cF ad n X) [.ref (ad o), .int p1, .int p2] v (fX1_blow o p1 p2 v) :=
  CV_of (cc := cX1_blow) (maxL := 3) (ret := none) (by decide) rfl (Nat.le_of_ble_eq_true rfl) (fun p e s m below meth c G => kX1_blow_0 G hn ho v)
def rmX1_stand : Room := { frames := 1, cells := 0, slots := 0, locals := 22 }
def fX1_stand (o : Nat) (p1 : Int32) (v : Mem) : Option (Mem) := (fX0_send o 0 p1 v).bind fun v2 => some v2
set_option maxRecDepth 100000 in
set_option maxHeartbeats 4000000 in
theorem kX1_stand_0 {p : Program} {l : Launch} {e : Env} {s : State} {m : MethodId} {args : Array Value} {below : List Frame} {meth : Method} {c : Code} {D : va_G} {A : Nat → Prop} {cI cS cF cZ cJ : ClassId} {ad : Nat → Nat} {X : va_W} {n : Nat} {o : Nat} {p1 : Int32} (G : cx p s m args meth c cX1_stand 2 wsX1_stand RX1 D (ty5 cI cS cF cZ cJ) A none) (hn : n ≤ 24) (ho : kC n o = 1) (v : Mem) : sk p l e rmX1_stand s m args below meth c D A 2 0 0 (fun res => MQ below (qv D A (ty5 cI cS cF cZ cJ) (Wc cI cS cF ad n X) res) args s 0 0 A) (Wc cI cS cF ad n X v) 0 [(0, .ref (ad o)), (1, .int p1)] [] (fX1_stand o p1 v) := by
  obtain ⟨F, hK, hA, hZ, hr, hlocks⟩ := G
  refine sk_eq (K' := (fX0_send o 0 p1 v).bind fun v2 => some v2) rfl ?_
  refine sk_aload_n F dX1_stand_0 rfl 0 rfl ?_
  refine sk_iconst (x := 0) F dX1_stand_1 (by decide) ?_
  refine sk_iload_n F dX1_stand_2 rfl 1 rfl ?_
  refine sk_callUv (As := [.int 0, .int p1]) (rest := []) F hK hA hZ _ (tX0_send hn (Or.inr ho) _) (va_cwU 2 F.2.2.2.2 gX1_stand_X0_send_u9X1 rfl rfl rfl rfl (by decide +kernel) ⟨Nat.le_of_ble_eq_true rfl, Nat.le_of_ble_eq_true rfl⟩) (rc1 hK ho) rfl rfl (Nat.le_of_ble_eq_true rfl) (by decide) dX1_stand_3 (fun v2 c1 => ?_)
  exact sk_vret F hK hr hlocks dX1_stand_6
theorem tX1_stand {l : Launch} {D : va_G} {A : Nat → Prop} {cI cS cF cZ cJ : ClassId} {ad : Nat → Nat} {X : va_W} {n : Nat} (hn : n ≤ 24) {o : Nat} {p1 : Int32} (ho : kC n o = 1) (v : Mem) : CV l yX1_stand wsX1_stand rmX1_stand D A (ty5 cI cS cF cZ cJ) (Wc cI cS cF ad n X) [.ref (ad o), .int p1] v (fX1_stand o p1 v) :=
  CV_of (cc := cX1_stand) (maxL := 2) (ret := none) (by decide) rfl (Nat.le_of_ble_eq_true rfl) (fun p e s m below meth c G => kX1_stand_0 G hn ho v)
def rmX1_judgeOut : Room := { frames := 2, cells := 0, slots := 0, locals := 43 }
theorem iX1_judgeOut_1 : ∀ w ∈ wsX10, w ∈ wsX1_judgeOut := by decide +kernel
def fX1_judgeOut (o : Nat) (p1 : Int32) (v : Mem) : Option (Mem) := if (v o 1) = (v o 0) then some v else if (p1 - (v o 2)) < 10 then some v else (fX1_stand o p1 (up2 v o 5 1)).bind fun v4 => some v4
set_option maxRecDepth 100000 in
set_option maxHeartbeats 4000000 in
theorem kX1_judgeOut_0 {p : Program} {l : Launch} {e : Env} {s : State} {m : MethodId} {args : Array Value} {below : List Frame} {meth : Method} {c : Code} {D : va_G} {A : Nat → Prop} {cI cS cF cZ cJ : ClassId} {ad : Nat → Nat} {X : va_W} {n : Nat} {o : Nat} {p1 : Int32} (G : cx p s m args meth c cX1_judgeOut 2 wsX1_judgeOut RX1 D (ty5 cI cS cF cZ cJ) A none) (hn : n ≤ 24) (ho : kC n o = 1) (v : Mem) : sk p l e rmX1_judgeOut s m args below meth c D A 2 0 0 (fun res => MQ below (qv D A (ty5 cI cS cF cZ cJ) (Wc cI cS cF ad n X) res) args s 0 0 A) (Wc cI cS cF ad n X v) 0 [(0, .ref (ad o)), (1, .int p1)] [] (fX1_judgeOut o p1 v) := by
  obtain ⟨F, hK, hA, hZ, hr, hlocks⟩ := G
  refine sk_eq (K' := if (v o 1) = (v o 0) then some v else if (p1 - (v o 2)) < 10 then some v else (fX1_stand o p1 (up2 v o 5 1)).bind fun v4 => some v4) rfl ?_
  refine sk_aload_n F dX1_judgeOut_0 rfl 0 rfl ?_
  refine sk_g1 (ref := "TunnelWatch$Fan") F hK ho iX1_judgeOut_1 1 (by decide) (by decide +kernel) (u_same (F.2.2.2.2 (.sameField "TunnelWatch$Fan" "TunnelWatch$Device" "actual" "I") (by decide +kernel))) rfl dX1_judgeOut_1 ?_
  refine sk_aload_n F dX1_judgeOut_4 rfl 0 rfl ?_
  refine sk_g1 (ref := "TunnelWatch$Fan") F hK ho iX1_judgeOut_1 0 (by decide) (by decide +kernel) (u_same (F.2.2.2.2 (.sameField "TunnelWatch$Fan" "TunnelWatch$Device" "command" "I") (by decide +kernel))) rfl dX1_judgeOut_5 ?_
  refine sk_icmp_eq F 32 dX1_judgeOut_8 (by decide) (fun h1 => ?_) (fun h1 => ?_)
  · exact sk_vret F hK hr hlocks dX1_judgeOut_32
  · refine sk_iload_n F dX1_judgeOut_11 rfl 1 rfl ?_
    refine sk_aload_n F dX1_judgeOut_12 rfl 0 rfl ?_
    refine sk_g1 (ref := "TunnelWatch$Fan") F hK ho iX1_judgeOut_1 2 (by decide) (by decide +kernel) (u_same (F.2.2.2.2 (.sameField "TunnelWatch$Fan" "TunnelWatch$Device" "sentTick" "I") (by decide +kernel))) rfl dX1_judgeOut_13 ?_
    refine sk_isub F dX1_judgeOut_16 ?_
    refine sk_bipush (x := 10) F dX1_judgeOut_17 (by decide) ?_
    refine sk_icmp_lt F 32 dX1_judgeOut_19 (by decide) (fun h2 => ?_) (fun h2 => ?_)
    · exact sk_vret F hK hr hlocks dX1_judgeOut_32
    · refine sk_aload_n F dX1_judgeOut_22 rfl 0 rfl ?_
      refine sk_iconst (x := 1) F dX1_judgeOut_23 (by decide) ?_
      refine sk_p1 (ref := "TunnelWatch$Fan") (ty := .boolean) F hK ho iX1_judgeOut_1 5 (by decide) (by decide +kernel) (u_same (F.2.2.2.2 (.sameField "TunnelWatch$Fan" "TunnelWatch$Device" "out" "Z") (by decide +kernel))) rfl (by decide +kernel) rfl rfl rfl dX1_judgeOut_24 ?_
      refine sk_aload_n F dX1_judgeOut_27 rfl 0 rfl ?_
      refine sk_iload_n F dX1_judgeOut_28 rfl 1 rfl ?_
      refine sk_callVv (As := [.int p1]) (rest := []) F hK hA hZ _ (tX1_stand hn ho _) (cwV 1 F.2.2.2.2 gX1_judgeOut_X1_stand rfl rfl rfl (by decide +kernel) ⟨Nat.le_of_ble_eq_true rfl, Nat.le_of_ble_eq_true rfl⟩) (rc1 hK ho) rfl rfl (Nat.le_of_ble_eq_true rfl) (by decide) dX1_judgeOut_29 (fun v4 c3 => ?_)
      exact sk_vret F hK hr hlocks dX1_judgeOut_32
theorem tX1_judgeOut {l : Launch} {D : va_G} {A : Nat → Prop} {cI cS cF cZ cJ : ClassId} {ad : Nat → Nat} {X : va_W} {n : Nat} (hn : n ≤ 24) {o : Nat} {p1 : Int32} (ho : kC n o = 1) (v : Mem) : CV l yX1_judgeOut wsX1_judgeOut rmX1_judgeOut D A (ty5 cI cS cF cZ cJ) (Wc cI cS cF ad n X) [.ref (ad o), .int p1] v (fX1_judgeOut o p1 v) :=
  CV_of (cc := cX1_judgeOut) (maxL := 2) (ret := none) (by decide) rfl (Nat.le_of_ble_eq_true rfl) (fun p e s m below meth c G => kX1_judgeOut_0 G hn ho v)
def rmX1_drawnKw : Room := { frames := 0, cells := 0, slots := 0, locals := 0 }
theorem iX1_drawnKw_1 : ∀ w ∈ wsX10, w ∈ wsX1_drawnKw := by decide +kernel
def fX1_drawnKw (o : Nat) (p1 : Int32) (v : Mem) : Option (Int32 × Mem) := if (v o 0) = 0 then some (0, v) else if 10 ≤ (p1 - (v o 2)) then some (v o 6, v) else some (3 * (v o 6), v)
set_option maxRecDepth 100000 in
set_option maxHeartbeats 4000000 in
theorem kX1_drawnKw_0 {p : Program} {l : Launch} {e : Env} {s : State} {m : MethodId} {args : Array Value} {below : List Frame} {meth : Method} {c : Code} {D : va_G} {A : Nat → Prop} {cI cS cF cZ cJ : ClassId} {ad : Nat → Nat} {X : va_W} {n : Nat} {o : Nat} {p1 : Int32} (G : cx p s m args meth c cX1_drawnKw 2 wsX1_drawnKw RX1 D (ty5 cI cS cF cZ cJ) A (some .int)) (hn : n ≤ 24) (ho : kC n o = 1) (v : Mem) : sk p l e rmX1_drawnKw s m args below meth c D A 2 0 0 (fun res => MQ below (qi D A (ty5 cI cS cF cZ cJ) (Wc cI cS cF ad n X) res) args s 0 0 A) (Wc cI cS cF ad n X v) 0 [(0, .ref (ad o)), (1, .int p1)] [] (fX1_drawnKw o p1 v) := by
  obtain ⟨F, hK, hA, hZ, hr, hlocks⟩ := G
  refine sk_eq (K' := if (v o 0) = 0 then some (0, v) else if 10 ≤ (p1 - (v o 2)) then some (v o 6, v) else some (3 * (v o 6), v)) rfl ?_
  refine sk_aload_n F dX1_drawnKw_0 rfl 0 rfl ?_
  refine sk_g1 (ref := "TunnelWatch$Fan") F hK ho iX1_drawnKw_1 0 (by decide) (by decide +kernel) (u_same (F.2.2.2.2 (.sameField "TunnelWatch$Fan" "TunnelWatch$Device" "command" "I") (by decide +kernel))) rfl dX1_drawnKw_1 ?_
  refine sk_if_ne F 9 dX1_drawnKw_4 (by decide) (fun h1 => ?_) (fun h1 => ?_)
  · refine sk_iload_n F dX1_drawnKw_9 rfl 1 rfl ?_
    refine sk_aload_n F dX1_drawnKw_10 rfl 0 rfl ?_
    refine sk_g1 (ref := "TunnelWatch$Fan") F hK ho iX1_drawnKw_1 2 (by decide) (by decide +kernel) (u_same (F.2.2.2.2 (.sameField "TunnelWatch$Fan" "TunnelWatch$Device" "sentTick" "I") (by decide +kernel))) rfl dX1_drawnKw_11 ?_
    refine sk_isub F dX1_drawnKw_14 ?_
    refine sk_bipush (x := 10) F dX1_drawnKw_15 (by decide) ?_
    refine sk_icmp_ge F 29 dX1_drawnKw_17 (by decide) (fun h2 => ?_) (fun h2 => ?_)
    · refine sk_aload_n F dX1_drawnKw_29 rfl 0 rfl ?_
      refine sk_g1 (ref := "TunnelWatch$Fan") F hK ho iX1_drawnKw_1 6 (by decide) (by decide +kernel) (fun _ h9 => h9) rfl dX1_drawnKw_30 ?_
      exact sk_iret F hK hr hlocks dX1_drawnKw_33
    · refine sk_iconst (x := 3) F dX1_drawnKw_20 (by decide) ?_
      refine sk_aload_n F dX1_drawnKw_21 rfl 0 rfl ?_
      refine sk_g1 (ref := "TunnelWatch$Fan") F hK ho iX1_drawnKw_1 6 (by decide) (by decide +kernel) (fun _ h9 => h9) rfl dX1_drawnKw_22 ?_
      refine sk_imul F dX1_drawnKw_25 ?_
      refine sk_goto F 33 dX1_drawnKw_26 (by decide) ?_
      exact sk_iret F hK hr hlocks dX1_drawnKw_33
  · refine sk_iconst (x := 0) F dX1_drawnKw_7 (by decide) ?_
    exact sk_iret F hK hr hlocks dX1_drawnKw_8
theorem tX1_drawnKw {l : Launch} {D : va_G} {A : Nat → Prop} {cI cS cF cZ cJ : ClassId} {ad : Nat → Nat} {X : va_W} {n : Nat} (hn : n ≤ 24) {o : Nat} {p1 : Int32} (ho : kC n o = 1) (v : Mem) : CI l yX1_drawnKw wsX1_drawnKw rmX1_drawnKw D A (ty5 cI cS cF cZ cJ) (Wc cI cS cF ad n X) [.ref (ad o), .int p1] v (fX1_drawnKw o p1 v) :=
  CI_of (cc := cX1_drawnKw) (maxL := 2) (ret := (some .int)) (by decide) rfl (Nat.le_of_ble_eq_true rfl) (fun p e s m below meth c G => kX1_drawnKw_0 G hn ho v)
def rmX1_restLeft : Room := { frames := 0, cells := 0, slots := 0, locals := 0 }
theorem iX1_restLeft_1 : ∀ w ∈ wsX10, w ∈ wsX1_restLeft := by decide +kernel
def fX1_restLeft (o : Nat) (p1 : Int32) (p2 : Int32) (v : Mem) : Option (Int32 × Mem) := if (v o 8) = 0 then some (0, v) else if (v o 0) = 0 then if (p1 - (p2 - (v o 2))) ≤ 0 then some (0, v) else some (p1 - (p2 - (v o 2)), v) else some (p1, v)
set_option maxRecDepth 100000 in
set_option maxHeartbeats 4000000 in
theorem kX1_restLeft_0 {p : Program} {l : Launch} {e : Env} {s : State} {m : MethodId} {args : Array Value} {below : List Frame} {meth : Method} {c : Code} {D : va_G} {A : Nat → Prop} {cI cS cF cZ cJ : ClassId} {ad : Nat → Nat} {X : va_W} {n : Nat} {o : Nat} {p1 : Int32} {p2 : Int32} (G : cx p s m args meth c cX1_restLeft 4 wsX1_restLeft RX1 D (ty5 cI cS cF cZ cJ) A (some .int)) (hn : n ≤ 24) (ho : kC n o = 1) (v : Mem) : sk p l e rmX1_restLeft s m args below meth c D A 4 0 0 (fun res => MQ below (qi D A (ty5 cI cS cF cZ cJ) (Wc cI cS cF ad n X) res) args s 0 0 A) (Wc cI cS cF ad n X v) 0 [(0, .ref (ad o)), (1, .int p1), (2, .int p2)] [] (fX1_restLeft o p1 p2 v) := by
  obtain ⟨F, hK, hA, hZ, hr, hlocks⟩ := G
  refine sk_eq (K' := if (v o 8) = 0 then some (0, v) else if (v o 0) = 0 then if (p1 - (p2 - (v o 2))) ≤ 0 then some (0, v) else some (p1 - (p2 - (v o 2)), v) else some (p1, v)) rfl ?_
  refine sk_aload_n F dX1_restLeft_0 rfl 0 rfl ?_
  refine sk_g1 (ref := "TunnelWatch$Fan") F hK ho iX1_restLeft_1 8 (by decide) (by decide +kernel) (fun _ h9 => h9) rfl dX1_restLeft_1 ?_
  refine sk_if_ne F 9 dX1_restLeft_4 (by decide) (fun h1 => ?_) (fun h1 => ?_)
  · refine sk_aload_n F dX1_restLeft_9 rfl 0 rfl ?_
    refine sk_g1 (ref := "TunnelWatch$Fan") F hK ho iX1_restLeft_1 0 (by decide) (by decide +kernel) (u_same (F.2.2.2.2 (.sameField "TunnelWatch$Fan" "TunnelWatch$Device" "command" "I") (by decide +kernel))) rfl dX1_restLeft_10 ?_
    refine sk_if_eq F 18 dX1_restLeft_13 (by decide) (fun h2 => ?_) (fun h2 => ?_)
    · refine sk_iload_n F dX1_restLeft_18 rfl 1 rfl ?_
      refine sk_iload_n F dX1_restLeft_19 rfl 2 rfl ?_
      refine sk_aload_n F dX1_restLeft_20 rfl 0 rfl ?_
      refine sk_g1 (ref := "TunnelWatch$Fan") F hK ho iX1_restLeft_1 2 (by decide) (by decide +kernel) (u_same (F.2.2.2.2 (.sameField "TunnelWatch$Fan" "TunnelWatch$Device" "sentTick" "I") (by decide +kernel))) rfl dX1_restLeft_21 ?_
      refine sk_isub F dX1_restLeft_24 ?_
      refine sk_isub F dX1_restLeft_25 ?_
      refine sk_istore_n F dX1_restLeft_26 rfl (by decide) rfl ?_
      refine sk_iload_n F dX1_restLeft_27 rfl 0 rfl ?_
      refine sk_if_le F 35 dX1_restLeft_28 (by decide) (fun h3 => ?_) (fun h3 => ?_)
      · refine sk_iconst (x := 0) F dX1_restLeft_35 (by decide) ?_
        exact sk_iret F hK hr hlocks dX1_restLeft_36
      · refine sk_iload_n F dX1_restLeft_31 rfl 0 rfl ?_
        refine sk_goto F 36 dX1_restLeft_32 (by decide) ?_
        exact sk_iret F hK hr hlocks dX1_restLeft_36
    · refine sk_iload_n F dX1_restLeft_16 rfl 1 rfl ?_
      exact sk_iret F hK hr hlocks dX1_restLeft_17
  · refine sk_iconst (x := 0) F dX1_restLeft_7 (by decide) ?_
    exact sk_iret F hK hr hlocks dX1_restLeft_8
theorem tX1_restLeft {l : Launch} {D : va_G} {A : Nat → Prop} {cI cS cF cZ cJ : ClassId} {ad : Nat → Nat} {X : va_W} {n : Nat} (hn : n ≤ 24) {o : Nat} {p1 : Int32} {p2 : Int32} (ho : kC n o = 1) (v : Mem) : CI l yX1_restLeft wsX1_restLeft rmX1_restLeft D A (ty5 cI cS cF cZ cJ) (Wc cI cS cF ad n X) [.ref (ad o), .int p1, .int p2] v (fX1_restLeft o p1 p2 v) :=
  CI_of (cc := cX1_restLeft) (maxL := 4) (ret := (some .int)) (by decide) rfl (Nat.le_of_ble_eq_true rfl) (fun p e s m below meth c G => kX1_restLeft_0 G hn ho v)
def rmX1_hasRested : Room := { frames := 1, cells := 0, slots := 0, locals := 23 }
theorem iX1_hasRested_1 : ∀ w ∈ wsX10, w ∈ wsX1_hasRested := by decide +kernel
def fX1_hasRested (o : Nat) (p1 : Int32) (p2 : Int32) (p3 : Int32) (v : Mem) : Option (Int32 × Mem) := if (v o 8) = p1 then some (1, v) else bd (fX1_restLeft o p2 p3 v) fun x4 v3 => if x4 = 0 then some (1, v3) else some (0, v3)
set_option maxRecDepth 100000 in
set_option maxHeartbeats 4000000 in
theorem kX1_hasRested_0 {p : Program} {l : Launch} {e : Env} {s : State} {m : MethodId} {args : Array Value} {below : List Frame} {meth : Method} {c : Code} {D : va_G} {A : Nat → Prop} {cI cS cF cZ cJ : ClassId} {ad : Nat → Nat} {X : va_W} {n : Nat} {o : Nat} {p1 : Int32} {p2 : Int32} {p3 : Int32} (G : cx p s m args meth c cX1_hasRested 4 wsX1_hasRested RX1 D (ty5 cI cS cF cZ cJ) A (some .boolean)) (hn : n ≤ 24) (ho : kC n o = 1) (v : Mem) : sk p l e rmX1_hasRested s m args below meth c D A 4 0 0 (fun res => MQ below (qi D A (ty5 cI cS cF cZ cJ) (Wc cI cS cF ad n X) res) args s 0 0 A) (Wc cI cS cF ad n X v) 0 [(0, .ref (ad o)), (1, .int p1), (2, .int p2), (3, .int p3)] [] (fX1_hasRested o p1 p2 p3 v) := by
  obtain ⟨F, hK, hA, hZ, hr, hlocks⟩ := G
  refine sk_eq (K' := if (v o 8) = p1 then some (1, v) else bd (fX1_restLeft o p2 p3 v) fun x4 v3 => if x4 = 0 then some (1, v3) else some (0, v3)) rfl ?_
  refine sk_aload_n F dX1_hasRested_0 rfl 0 rfl ?_
  refine sk_g1 (ref := "TunnelWatch$Fan") F hK ho iX1_hasRested_1 8 (by decide) (by decide +kernel) (fun _ h9 => h9) rfl dX1_hasRested_1 ?_
  refine sk_iload_n F dX1_hasRested_4 rfl 1 rfl ?_
  refine sk_icmp_eq F 17 dX1_hasRested_5 (by decide) (fun h1 => ?_) (fun h1 => ?_)
  · refine sk_iconst (x := 1) F dX1_hasRested_17 (by decide) ?_
    refine sk_goto F 22 dX1_hasRested_18 (by decide) ?_
    exact sk_zretc F hK hr hlocks (by decide) dX1_hasRested_22
  · refine sk_aload_n F dX1_hasRested_8 rfl 0 rfl ?_
    refine sk_iload_n F dX1_hasRested_9 rfl 2 rfl ?_
    refine sk_iload_n F dX1_hasRested_10 rfl 3 rfl ?_
    refine sk_callVi (As := [.int p2, .int p3]) (rest := []) F hK hA hZ _ (tX1_restLeft hn ho _) (cwV 2 F.2.2.2.2 gX1_hasRested_X1_restLeft rfl rfl rfl (by decide +kernel) ⟨Nat.le_of_ble_eq_true rfl, Nat.le_of_ble_eq_true rfl⟩) (rc1 hK ho) rfl rfl (Nat.le_of_ble_eq_true rfl) (by decide) dX1_hasRested_11 (fun x4 v3 c2 => ?_)
    refine sk_if_ne F 21 dX1_hasRested_14 (by decide) (fun h5 => ?_) (fun h5 => ?_)
    · refine sk_iconst (x := 0) F dX1_hasRested_21 (by decide) ?_
      exact sk_zretc F hK hr hlocks (by decide) dX1_hasRested_22
    · refine sk_iconst (x := 1) F dX1_hasRested_17 (by decide) ?_
      refine sk_goto F 22 dX1_hasRested_18 (by decide) ?_
      exact sk_zretc F hK hr hlocks (by decide) dX1_hasRested_22
theorem tX1_hasRested {l : Launch} {D : va_G} {A : Nat → Prop} {cI cS cF cZ cJ : ClassId} {ad : Nat → Nat} {X : va_W} {n : Nat} (hn : n ≤ 24) {o : Nat} {p1 : Int32} {p2 : Int32} {p3 : Int32} (ho : kC n o = 1) (v : Mem) : CI l yX1_hasRested wsX1_hasRested rmX1_hasRested D A (ty5 cI cS cF cZ cJ) (Wc cI cS cF ad n X) [.ref (ad o), .int p1, .int p2, .int p3] v (fX1_hasRested o p1 p2 p3 v) :=
  CI_of (cc := cX1_hasRested) (maxL := 4) (ret := (some .boolean)) (by decide) rfl (Nat.le_of_ble_eq_true rfl) (fun p e s m below meth c G => kX1_hasRested_0 G hn ho v)
end
section
def rmX2_isOn : Room := { frames := 0, cells := 0, slots := 0, locals := 0 }
theorem iX2_isOn_2 : ∀ w ∈ wsX20, w ∈ wsX2_isOn := by decide +kernel
def fX2_isOn_20 (o : Nat) (v : Mem) : Option (Int32 × Mem) := some (0, v)
set_option maxRecDepth 100000 in
set_option maxHeartbeats 4000000 in
theorem kX2_isOn_20 {p : Program} {l : Launch} {e : Env} {s : State} {m : MethodId} {args : Array Value} {below : List Frame} {meth : Method} {c : Code} {D : va_G} {A : Nat → Prop} {cI cS cF cZ cJ : ClassId} {ad : Nat → Nat} {X : va_W} {n : Nat} {o : Nat} (G : cx p s m args meth c cX2_isOn 1 wsX2_isOn RX2 D (ty5 cI cS cF cZ cJ) A (some .boolean)) (hn : n ≤ 24) (ho : kC n o = 2) (v : Mem) : sk p l e rmX2_isOn s m args below meth c D A 1 0 0 (fun res => MQ below (qi D A (ty5 cI cS cF cZ cJ) (Wc cI cS cF ad n X) res) args s 0 0 A) (Wc cI cS cF ad n X v) 20 [] [] (fX2_isOn_20 o v) := by
  obtain ⟨F, hK, hA, hZ, hr, hlocks⟩ := G
  refine sk_eq (K' := some (0, v)) rfl ?_
  refine sk_iconst (x := 0) F dX2_isOn_20 (by decide) ?_
  exact sk_zretc F hK hr hlocks (by decide) dX2_isOn_21
def fX2_isOn (o : Nat) (v : Mem) : Option (Int32 × Mem) := if (v o 0) < 50 then fX2_isOn_20 o v else if (v o 1) = 0 then some (1, v) else fX2_isOn_20 o v
set_option maxRecDepth 100000 in
set_option maxHeartbeats 4000000 in
theorem kX2_isOn_0 {p : Program} {l : Launch} {e : Env} {s : State} {m : MethodId} {args : Array Value} {below : List Frame} {meth : Method} {c : Code} {D : va_G} {A : Nat → Prop} {cI cS cF cZ cJ : ClassId} {ad : Nat → Nat} {X : va_W} {n : Nat} {o : Nat} (G : cx p s m args meth c cX2_isOn 1 wsX2_isOn RX2 D (ty5 cI cS cF cZ cJ) A (some .boolean)) (hn : n ≤ 24) (ho : kC n o = 2) (v : Mem) : sk p l e rmX2_isOn s m args below meth c D A 1 0 0 (fun res => MQ below (qi D A (ty5 cI cS cF cZ cJ) (Wc cI cS cF ad n X) res) args s 0 0 A) (Wc cI cS cF ad n X v) 0 [(0, .ref (ad o))] [] (fX2_isOn o v) := by
  obtain ⟨F, hK, hA, hZ, hr, hlocks⟩ := G
  refine sk_eq (K' := if (v o 0) < 50 then fX2_isOn_20 o v else if (v o 1) = 0 then some (1, v) else fX2_isOn_20 o v) rfl ?_
  refine sk_aload_n F dX2_isOn_0 rfl 0 rfl ?_
  refine sk_g2 (ref := "TunnelWatch$Section") F hK ho iX2_isOn_2 0 (by decide) (by decide +kernel) (fun _ h9 => h9) rfl dX2_isOn_1 ?_
  refine sk_bipush (x := 50) F dX2_isOn_4 (by decide) ?_
  refine sk_icmp_lt F 20 dX2_isOn_6 (by decide) (fun h1 => ?_) (fun h1 => ?_)
  · exact sk_lv [] rfl (kX2_isOn_20 ⟨F, hK, hA, hZ, hr, hlocks⟩ hn ho v)
  · refine sk_aload_n F dX2_isOn_9 rfl 0 rfl ?_
    refine sk_g2 (ref := "TunnelWatch$Section") F hK ho iX2_isOn_2 1 (by decide) (by decide +kernel) (fun _ h9 => h9) rfl dX2_isOn_10 ?_
    refine sk_if_ne F 20 dX2_isOn_13 (by decide) (fun h2 => ?_) (fun h2 => ?_)
    · exact sk_lv [] rfl (kX2_isOn_20 ⟨F, hK, hA, hZ, hr, hlocks⟩ hn ho v)
    · refine sk_iconst (x := 1) F dX2_isOn_16 (by decide) ?_
      refine sk_goto F 21 dX2_isOn_17 (by decide) ?_
      exact sk_zretc F hK hr hlocks (by decide) dX2_isOn_21
theorem tX2_isOn {l : Launch} {D : va_G} {A : Nat → Prop} {cI cS cF cZ cJ : ClassId} {ad : Nat → Nat} {X : va_W} {n : Nat} (hn : n ≤ 24) {o : Nat} (ho : kC n o = 2) (v : Mem) : CI l yX2_isOn wsX2_isOn rmX2_isOn D A (ty5 cI cS cF cZ cJ) (Wc cI cS cF ad n X) [.ref (ad o)] v (fX2_isOn o v) :=
  CI_of (cc := cX2_isOn) (maxL := 1) (ret := (some .boolean)) (by decide) rfl (Nat.le_of_ble_eq_true rfl) (fun p e s m below meth c G => kX2_isOn_0 G hn ho v)
end
section
def rmX3_addFan : Room := { frames := 0, cells := 0, slots := 0, locals := 0 }
theorem iX3_addFan_1 : ∀ w ∈ wsX10, w ∈ wsX3_addFan := by decide +kernel
theorem iX3_addFan_3 : ∀ w ∈ wsX30, w ∈ wsX3_addFan := by decide +kernel
def fX3_addFan (o : Nat) (p1 : Int32) (v : Mem) : Option (Int32 × Mem) := if 12 ≤ (v o 4) then some (v o 4, v) else gd (inb (v o 4) 12) (some (v o 4, up2 (up2 v (o + 5 + (v o 4).toNatClampNeg) 6 p1) o 4 (((up2 v (o + 5 + (v o 4).toNatClampNeg) 6 p1) o 4) + 1)))
set_option maxRecDepth 100000 in
set_option maxHeartbeats 4000000 in
theorem kX3_addFan_0 {p : Program} {l : Launch} {e : Env} {s : State} {m : MethodId} {args : Array Value} {below : List Frame} {meth : Method} {c : Code} {D : va_G} {A : Nat → Prop} {cI cS cF cZ cJ : ClassId} {ad : Nat → Nat} {X : va_W} {n : Nat} {o : Nat} {p1 : Int32} (G : cx p s m args meth c cX3_addFan 3 wsX3_addFan RX3 D (ty5 cI cS cF cZ cJ) A (some .int)) (hn : n ≤ 24) (ho : kC n o = 3) (v : Mem) : sk p l e rmX3_addFan s m args below meth c D A 3 0 0 (fun res => MQ below (qi D A (ty5 cI cS cF cZ cJ) (Wc cI cS cF ad n X) res) args s 0 0 A) (Wc cI cS cF ad n X v) 0 [(0, .ref (ad o)), (1, .int p1)] [] (fX3_addFan o p1 v) := by
  obtain ⟨F, hK, hA, hZ, hr, hlocks⟩ := G
  refine sk_eq (K' := if 12 ≤ (v o 4) then some (v o 4, v) else gd (inb (v o 4) 12) (some (v o 4, up2 (up2 v (o + 5 + (v o 4).toNatClampNeg) 6 p1) o 4 (((up2 v (o + 5 + (v o 4).toNatClampNeg) 6 p1) o 4) + 1)))) rfl ?_
  refine sk_aload_n F dX3_addFan_0 rfl 0 rfl ?_
  refine sk_g3 (ref := "TunnelWatch$Tube") F hK ho iX3_addFan_3 4 (by decide) (by decide +kernel) (fun _ h9 => h9) rfl dX3_addFan_1 ?_
  refine sk_istore_n F dX3_addFan_4 rfl (by decide) rfl ?_
  refine sk_iload_n F dX3_addFan_5 rfl 0 rfl ?_
  refine sk_aload_n F dX3_addFan_6 rfl 1 rfl ?_
  refine sk_g3 (ref := "TunnelWatch$Tube") F hK ho iX3_addFan_3 3 (by decide) (by decide +kernel) (fun _ h9 => h9) rfl dX3_addFan_7 ?_
  refine sk_lenF F hK ho dX3_addFan_10 ?_
  refine sk_icmp_ge F 34 dX3_addFan_11 (by decide) (fun h1 => ?_) (fun h1 => ?_)
  · refine sk_iload_n F dX3_addFan_34 rfl 0 rfl ?_
    exact sk_iret F hK hr hlocks dX3_addFan_35
  · refine sk_aload_n F dX3_addFan_14 rfl 1 rfl ?_
    refine sk_g3 (ref := "TunnelWatch$Tube") F hK ho iX3_addFan_3 3 (by decide) (by decide +kernel) (fun _ h9 => h9) rfl dX3_addFan_15 ?_
    refine sk_iload_n F dX3_addFan_18 rfl 0 rfl ?_
    refine sk_aldF F hK ho dX3_addFan_19 (fun h2 => ?_)
    refine sk_iload_n F dX3_addFan_20 rfl 2 rfl ?_
    refine sk_p1 (ref := "TunnelWatch$Fan") (ty := .int) F hK (kC_f ho (inb_lt h2)) iX3_addFan_1 6 (by decide) (by decide +kernel) (fun _ h9 => h9) rfl (by decide +kernel) rfl rfl rfl dX3_addFan_21 ?_
    refine sk_aload_n F dX3_addFan_24 rfl 1 rfl ?_
    refine sk_dup F dX3_addFan_25 rfl ?_
    refine sk_g3 (ref := "TunnelWatch$Tube") F hK ho iX3_addFan_3 4 (by decide) (by decide +kernel) (fun _ h9 => h9) rfl dX3_addFan_26 ?_
    refine sk_iconst (x := 1) F dX3_addFan_29 (by decide) ?_
    refine sk_iadd F dX3_addFan_30 ?_
    refine sk_p3 (ref := "TunnelWatch$Tube") (ty := .int) F hK ho iX3_addFan_3 4 (by decide) (by decide +kernel) (fun _ h9 => h9) rfl (by decide +kernel) rfl rfl rfl dX3_addFan_31 ?_
    refine sk_iload_n F dX3_addFan_34 rfl 0 rfl ?_
    exact sk_iret F hK hr hlocks dX3_addFan_35
theorem tX3_addFan {l : Launch} {D : va_G} {A : Nat → Prop} {cI cS cF cZ cJ : ClassId} {ad : Nat → Nat} {X : va_W} {n : Nat} (hn : n ≤ 24) {o : Nat} {p1 : Int32} (ho : kC n o = 3) (v : Mem) : CI l yX3_addFan wsX3_addFan rmX3_addFan D A (ty5 cI cS cF cZ cJ) (Wc cI cS cF ad n X) [.ref (ad o), .int p1] v (fX3_addFan o p1 v) :=
  CI_of (cc := cX3_addFan) (maxL := 3) (ret := (some .int)) (by decide) rfl (Nat.le_of_ble_eq_true rfl) (fun p e s m below meth c G => kX3_addFan_0 G hn ho v)
def rmX3_deviceAt : Room := { frames := 0, cells := 0, slots := 0, locals := 0 }
theorem iX3_deviceAt_3 : ∀ w ∈ wsX30, w ∈ wsX3_deviceAt := by decide +kernel
def fX3_deviceAt (o : Nat) (p1 : Int32) (v : Mem) : Option (Nat × Mem) := if p1 = 0 then some ((o + 3), v) else if p1 = 1 then some ((o + 4), v) else gd (inb (p1 - 2) 12) (some ((o + 5 + (p1 - 2).toNatClampNeg), v))
set_option maxRecDepth 100000 in
set_option maxHeartbeats 4000000 in
theorem kX3_deviceAt_0 {p : Program} {l : Launch} {e : Env} {s : State} {m : MethodId} {args : Array Value} {below : List Frame} {meth : Method} {c : Code} {D : va_G} {A : Nat → Prop} {cI cS cF cZ cJ : ClassId} {ad : Nat → Nat} {X : va_W} {n : Nat} {o : Nat} {p1 : Int32} (G : cx p s m args meth c cX3_deviceAt 2 wsX3_deviceAt RX3 D (ty5 cI cS cF cZ cJ) A (some (.object "TunnelWatch$Device"))) (hn : n ≤ 24) (ho : kC n o = 3) (v : Mem) : sk p l e rmX3_deviceAt s m args below meth c D A 2 0 0 (fun res => MQ below (qr D A (ty5 cI cS cF cZ cJ) ad (Wc cI cS cF ad n X) res) args s 0 0 A) (Wc cI cS cF ad n X v) 0 [(0, .ref (ad o)), (1, .int p1)] [] (fX3_deviceAt o p1 v) := by
  obtain ⟨F, hK, hA, hZ, hr, hlocks⟩ := G
  refine sk_eq (K' := if p1 = 0 then some ((o + 3), v) else if p1 = 1 then some ((o + 4), v) else gd (inb (p1 - 2) 12) (some ((o + 5 + (p1 - 2).toNatClampNeg), v))) rfl ?_
  refine sk_iload_n F dX3_deviceAt_0 rfl 1 rfl ?_
  refine sk_if_ne F 9 dX3_deviceAt_1 (by decide) (fun h1 => ?_) (fun h1 => ?_)
  · refine sk_iload_n F dX3_deviceAt_9 rfl 1 rfl ?_
    refine sk_iconst (x := 1) F dX3_deviceAt_10 (by decide) ?_
    refine sk_icmp_ne F 21 dX3_deviceAt_11 (by decide) (fun h2 => ?_) (fun h2 => ?_)
    · refine sk_aload_n F dX3_deviceAt_21 rfl 0 rfl ?_
      refine sk_g3 (ref := "TunnelWatch$Tube") F hK ho iX3_deviceAt_3 3 (by decide) (by decide +kernel) (fun _ h9 => h9) rfl dX3_deviceAt_22 ?_
      refine sk_iload_n F dX3_deviceAt_25 rfl 1 rfl ?_
      refine sk_iconst (x := 2) F dX3_deviceAt_26 (by decide) ?_
      refine sk_isub F dX3_deviceAt_27 ?_
      refine sk_aldF F hK ho dX3_deviceAt_28 (fun h3 => ?_)
      exact sk_aret F hK hr (Or.inl ⟨_, rfl⟩) hlocks dX3_deviceAt_29
    · refine sk_aload_n F dX3_deviceAt_14 rfl 0 rfl ?_
      refine sk_g3 (ref := "TunnelWatch$Tube") F hK ho iX3_deviceAt_3 2 (by decide) (by decide +kernel) (fun _ h9 => h9) rfl dX3_deviceAt_15 ?_
      refine sk_goto F 29 dX3_deviceAt_18 (by decide) ?_
      exact sk_aret F hK hr (Or.inl ⟨_, rfl⟩) hlocks dX3_deviceAt_29
  · refine sk_aload_n F dX3_deviceAt_4 rfl 0 rfl ?_
    refine sk_g3 (ref := "TunnelWatch$Tube") F hK ho iX3_deviceAt_3 1 (by decide) (by decide +kernel) (fun _ h9 => h9) rfl dX3_deviceAt_5 ?_
    exact sk_aret F hK hr (Or.inl ⟨_, rfl⟩) hlocks dX3_deviceAt_8
theorem tX3_deviceAt {l : Launch} {D : va_G} {A : Nat → Prop} {cI cS cF cZ cJ : ClassId} {ad : Nat → Nat} {X : va_W} {n : Nat} (hn : n ≤ 24) {o : Nat} {p1 : Int32} (ho : kC n o = 3) (v : Mem) : CR l yX3_deviceAt wsX3_deviceAt rmX3_deviceAt D A (ty5 cI cS cF cZ cJ) ad (Wc cI cS cF ad n X) [.ref (ad o), .int p1] v (fX3_deviceAt o p1 v) :=
  CR_of (cc := cX3_deviceAt) (maxL := 2) (ret := (some (.object "TunnelWatch$Device"))) (by decide) rfl (Nat.le_of_ble_eq_true rfl) (fun p e s m below meth c G => kX3_deviceAt_0 G hn ho v)
def rmX3_isOnCloseAbove : Room := { frames := 1, cells := 0, slots := 0, locals := 21 }
theorem iX3_isOnCloseAbove_3 : ∀ w ∈ wsX30, w ∈ wsX3_isOnCloseAbove := by decide +kernel
def fX3_isOnCloseAbove_18 (n : Nat) (o : Nat) (p1 : Int32) : Nat → Mem → Int32 → Int32 → Option (Int32 × Mem)
  | 0, _, _, _ => none
  | fuel + 1, v, l2, l3 => if l2 < l3 then some (0, v) else gd (inb l3 n) (bd (fX2_isOn (o + 17 + l3.toNatClampNeg) v) fun x5 v4 => if x5 = 0 then fX3_isOnCloseAbove_18 n o p1 fuel v4 l2 (l3 + 1) else some (1, v4))
set_option maxRecDepth 100000 in
set_option maxHeartbeats 4000000 in
theorem kX3_isOnCloseAbove_18 {p : Program} {l : Launch} {e : Env} {s : State} {m : MethodId} {args : Array Value} {below : List Frame} {meth : Method} {c : Code} {D : va_G} {A : Nat → Prop} {cI cS cF cZ cJ : ClassId} {ad : Nat → Nat} {X : va_W} {n : Nat} {o : Nat} {p1 : Int32} (G : cx p s m args meth c cX3_isOnCloseAbove 4 wsX3_isOnCloseAbove RX3 D (ty5 cI cS cF cZ cJ) A (some .boolean)) (hn : n ≤ 24) (ho : kC n o = 3) : ∀ (fuel : Nat) (v : Mem) (l2 : Int32) (l3 : Int32), sk p l e rmX3_isOnCloseAbove s m args below meth c D A 4 0 0 (fun res => MQ below (qi D A (ty5 cI cS cF cZ cJ) (Wc cI cS cF ad n X) res) args s 0 0 A) (Wc cI cS cF ad n X v) 18 [(0, .ref (ad o)), (2, .int l2), (3, .int l3)] [] (fX3_isOnCloseAbove_18 n o p1 fuel v l2 l3) := by
  obtain ⟨F, hK, hA, hZ, hr, hlocks⟩ := G
  intro fuel
  induction fuel with
  | zero => intro v l2 l3; exact sk_none
  | succ fuel ih =>
    intro v l2 l3
    refine sk_eq (K' := if l2 < l3 then some (0, v) else gd (inb l3 n) (bd (fX2_isOn (o + 17 + l3.toNatClampNeg) v) fun x5 v4 => if x5 = 0 then fX3_isOnCloseAbove_18 n o p1 fuel v4 l2 (l3 + 1) else some (1, v4))) rfl ?_
    refine sk_iload_n F dX3_isOnCloseAbove_18 rfl 2 rfl ?_
    refine sk_iload_n F dX3_isOnCloseAbove_19 rfl 1 rfl ?_
    refine sk_icmp_gt F 43 dX3_isOnCloseAbove_20 (by decide) (fun h1 => ?_) (fun h1 => ?_)
    · refine sk_iconst (x := 0) F dX3_isOnCloseAbove_43 (by decide) ?_
      exact sk_zretc F hK hr hlocks (by decide) dX3_isOnCloseAbove_44
    · refine sk_aload_n F dX3_isOnCloseAbove_23 rfl 0 rfl ?_
      refine sk_g3 (ref := "TunnelWatch$Tube") F hK ho iX3_isOnCloseAbove_3 0 (by decide) (by decide +kernel) (fun _ h9 => h9) rfl dX3_isOnCloseAbove_24 ?_
      refine sk_iload_n F dX3_isOnCloseAbove_27 rfl 2 rfl ?_
      refine sk_aldS F hK ho dX3_isOnCloseAbove_28 (fun h2 => ?_)
      refine sk_callVi (As := []) (rest := []) F hK hA hZ _ (tX2_isOn hn (kC_s ho hn (inb_lt h2)) _) (cwV 0 F.2.2.2.2 gX3_isOnCloseAbove_X2_isOn rfl rfl rfl (by decide +kernel) ⟨Nat.le_of_ble_eq_true rfl, Nat.le_of_ble_eq_true rfl⟩) (rc2 hK (kC_s ho hn (inb_lt h2))) rfl rfl (Nat.le_of_ble_eq_true rfl) (by decide) dX3_isOnCloseAbove_29 (fun x5 v4 c3 => ?_)
      refine sk_if_eq F 37 dX3_isOnCloseAbove_32 (by decide) (fun h6 => ?_) (fun h6 => ?_)
      · refine sk_iinc (y := l3 + 1) F dX3_isOnCloseAbove_37 2 rfl rfl (by decide) rfl ?_
        refine sk_goto F 18 dX3_isOnCloseAbove_40 (by decide) ?_
        exact sk_lv [1, 2, 0] rfl (ih v4 l2 (l3 + 1))
      · refine sk_iconst (x := 1) F dX3_isOnCloseAbove_35 (by decide) ?_
        exact sk_zretc F hK hr hlocks (by decide) dX3_isOnCloseAbove_36
def fX3_isOnCloseAbove (n : Nat) (o : Nat) (p1 : Int32) (v : Mem) : Option (Int32 × Mem) := fX3_isOnCloseAbove_18 n o p1 1000 v (if ((nI n) - 1) < (p1 + 3) then ((nI n) - 1) else (p1 + 3)) (p1 + 1)
set_option maxRecDepth 100000 in
set_option maxHeartbeats 4000000 in
theorem kX3_isOnCloseAbove_0 {p : Program} {l : Launch} {e : Env} {s : State} {m : MethodId} {args : Array Value} {below : List Frame} {meth : Method} {c : Code} {D : va_G} {A : Nat → Prop} {cI cS cF cZ cJ : ClassId} {ad : Nat → Nat} {X : va_W} {n : Nat} {o : Nat} {p1 : Int32} (G : cx p s m args meth c cX3_isOnCloseAbove 4 wsX3_isOnCloseAbove RX3 D (ty5 cI cS cF cZ cJ) A (some .boolean)) (hn : n ≤ 24) (ho : kC n o = 3) (v : Mem) : sk p l e rmX3_isOnCloseAbove s m args below meth c D A 4 0 0 (fun res => MQ below (qi D A (ty5 cI cS cF cZ cJ) (Wc cI cS cF ad n X) res) args s 0 0 A) (Wc cI cS cF ad n X v) 0 [(0, .ref (ad o)), (1, .int p1)] [] (fX3_isOnCloseAbove n o p1 v) := by
  obtain ⟨F, hK, hA, hZ, hr, hlocks⟩ := G
  refine sk_eq (K' := fX3_isOnCloseAbove_18 n o p1 1000 v (if ((nI n) - 1) < (p1 + 3) then ((nI n) - 1) else (p1 + 3)) (p1 + 1)) rfl ?_
  refine sk_iload_n F dX3_isOnCloseAbove_0 rfl 1 rfl ?_
  refine sk_iconst (x := 3) F dX3_isOnCloseAbove_1 (by decide) ?_
  refine sk_iadd F dX3_isOnCloseAbove_2 ?_
  refine sk_aload_n F dX3_isOnCloseAbove_3 rfl 0 rfl ?_
  refine sk_g3 (ref := "TunnelWatch$Tube") F hK ho iX3_isOnCloseAbove_3 0 (by decide) (by decide +kernel) (fun _ h9 => h9) rfl dX3_isOnCloseAbove_4 ?_
  refine sk_lenS F hK ho dX3_isOnCloseAbove_7 ?_
  refine sk_iconst (x := 1) F dX3_isOnCloseAbove_8 (by decide) ?_
  refine sk_isub F dX3_isOnCloseAbove_9 ?_
  refine sk_mmin F (by decide +kernel) (by decide +kernel) (by decide +kernel) (by decide +kernel) (by decide) (by decide) (by decide) (by decide) dX3_isOnCloseAbove_10 ?_
  refine sk_istore_n F dX3_isOnCloseAbove_13 rfl (by decide) rfl ?_
  refine sk_iload_n F dX3_isOnCloseAbove_14 rfl 2 rfl ?_
  refine sk_iconst (x := 1) F dX3_isOnCloseAbove_15 (by decide) ?_
  refine sk_iadd F dX3_isOnCloseAbove_16 ?_
  refine sk_istore_n F dX3_isOnCloseAbove_17 rfl (by decide) rfl ?_
  exact sk_lv [2, 1, 0] rfl (kX3_isOnCloseAbove_18 ⟨F, hK, hA, hZ, hr, hlocks⟩ hn ho 1000 v (if ((nI n) - 1) < (p1 + 3) then ((nI n) - 1) else (p1 + 3)) (p1 + 1))
theorem tX3_isOnCloseAbove {l : Launch} {D : va_G} {A : Nat → Prop} {cI cS cF cZ cJ : ClassId} {ad : Nat → Nat} {X : va_W} {n : Nat} (hn : n ≤ 24) {o : Nat} {p1 : Int32} (ho : kC n o = 3) (v : Mem) : CI l yX3_isOnCloseAbove wsX3_isOnCloseAbove rmX3_isOnCloseAbove D A (ty5 cI cS cF cZ cJ) (Wc cI cS cF ad n X) [.ref (ad o), .int p1] v (fX3_isOnCloseAbove n o p1 v) :=
  CI_of (cc := cX3_isOnCloseAbove) (maxL := 4) (ret := (some .boolean)) (by decide) rfl (Nat.le_of_ble_eq_true rfl) (fun p e s m below meth c G => kX3_isOnCloseAbove_0 G hn ho v)
def rmX3_leastOfPair : Room := { frames := 2, cells := 0, slots := 0, locals := 44 }
theorem iX3_leastOfPair_3 : ∀ w ∈ wsX30, w ∈ wsX3_leastOfPair := by decide +kernel
def fX3_leastOfPair_2 (n : Nat) (o : Nat) : Nat → Mem → Int32 → Option (Int32 × Mem)
  | 0, _, _ => none
  | fuel + 1, v, l1 => if (nI n) ≤ l1 then some ((-1), v) else gd (inb l1 n) (bd (fX2_isOn (o + 17 + l1.toNatClampNeg) v) fun x5 v4 => if x5 = 0 then fX3_leastOfPair_2 n o fuel v4 (l1 + 1) else bd (fX3_isOnCloseAbove n o l1 v4) fun x9 v8 => if x9 = 0 then fX3_leastOfPair_2 n o fuel v8 (l1 + 1) else some (l1, v8))
set_option maxRecDepth 100000 in
set_option maxHeartbeats 4000000 in
theorem kX3_leastOfPair_2 {p : Program} {l : Launch} {e : Env} {s : State} {m : MethodId} {args : Array Value} {below : List Frame} {meth : Method} {c : Code} {D : va_G} {A : Nat → Prop} {cI cS cF cZ cJ : ClassId} {ad : Nat → Nat} {X : va_W} {n : Nat} {o : Nat} (G : cx p s m args meth c cX3_leastOfPair 2 wsX3_leastOfPair RX3 D (ty5 cI cS cF cZ cJ) A (some .int)) (hn : n ≤ 24) (ho : kC n o = 3) : ∀ (fuel : Nat) (v : Mem) (l1 : Int32), sk p l e rmX3_leastOfPair s m args below meth c D A 2 0 0 (fun res => MQ below (qi D A (ty5 cI cS cF cZ cJ) (Wc cI cS cF ad n X) res) args s 0 0 A) (Wc cI cS cF ad n X v) 2 [(0, .ref (ad o)), (1, .int l1)] [] (fX3_leastOfPair_2 n o fuel v l1) := by
  obtain ⟨F, hK, hA, hZ, hr, hlocks⟩ := G
  intro fuel
  induction fuel with
  | zero => intro v l1; exact sk_none
  | succ fuel ih =>
    intro v l1
    refine sk_eq (K' := if (nI n) ≤ l1 then some ((-1), v) else gd (inb l1 n) (bd (fX2_isOn (o + 17 + l1.toNatClampNeg) v) fun x5 v4 => if x5 = 0 then fX3_leastOfPair_2 n o fuel v4 (l1 + 1) else bd (fX3_isOnCloseAbove n o l1 v4) fun x9 v8 => if x9 = 0 then fX3_leastOfPair_2 n o fuel v8 (l1 + 1) else some (l1, v8))) rfl ?_
    refine sk_iload_n F dX3_leastOfPair_2 rfl 1 rfl ?_
    refine sk_aload_n F dX3_leastOfPair_3 rfl 0 rfl ?_
    refine sk_g3 (ref := "TunnelWatch$Tube") F hK ho iX3_leastOfPair_3 0 (by decide) (by decide +kernel) (fun _ h9 => h9) rfl dX3_leastOfPair_4 ?_
    refine sk_lenS F hK ho dX3_leastOfPair_7 ?_
    refine sk_icmp_ge F 39 dX3_leastOfPair_8 (by decide) (fun h1 => ?_) (fun h1 => ?_)
    · refine sk_iconst (x := (-1)) F dX3_leastOfPair_39 (by decide) ?_
      exact sk_iret F hK hr hlocks dX3_leastOfPair_40
    · refine sk_aload_n F dX3_leastOfPair_11 rfl 0 rfl ?_
      refine sk_g3 (ref := "TunnelWatch$Tube") F hK ho iX3_leastOfPair_3 0 (by decide) (by decide +kernel) (fun _ h9 => h9) rfl dX3_leastOfPair_12 ?_
      refine sk_iload_n F dX3_leastOfPair_15 rfl 1 rfl ?_
      refine sk_aldS F hK ho dX3_leastOfPair_16 (fun h2 => ?_)
      refine sk_callVi (As := []) (rest := []) F hK hA hZ _ (tX2_isOn hn (kC_s ho hn (inb_lt h2)) _) (cwV 0 F.2.2.2.2 gX3_leastOfPair_X2_isOn rfl rfl rfl (by decide +kernel) ⟨Nat.le_of_ble_eq_true rfl, Nat.le_of_ble_eq_true rfl⟩) (rc2 hK (kC_s ho hn (inb_lt h2))) rfl rfl (Nat.le_of_ble_eq_true rfl) (by decide) dX3_leastOfPair_17 (fun x5 v4 c3 => ?_)
      refine sk_if_eq F 33 dX3_leastOfPair_20 (by decide) (fun h6 => ?_) (fun h6 => ?_)
      · refine sk_iinc (y := l1 + 1) F dX3_leastOfPair_33 1 rfl rfl (by decide) rfl ?_
        refine sk_goto F 2 dX3_leastOfPair_36 (by decide) ?_
        exact sk_lv [1, 0] rfl (ih v4 (l1 + 1))
      · refine sk_aload_n F dX3_leastOfPair_23 rfl 0 rfl ?_
        refine sk_iload_n F dX3_leastOfPair_24 rfl 1 rfl ?_
        refine sk_callVi (As := [.int l1]) (rest := []) F hK hA hZ _ (tX3_isOnCloseAbove hn ho _) (cwV 1 F.2.2.2.2 gX3_leastOfPair_X3_isOnCloseAbove rfl rfl rfl (by decide +kernel) ⟨Nat.le_of_ble_eq_true rfl, Nat.le_of_ble_eq_true rfl⟩) (rc3 hK ho) rfl rfl (Nat.le_of_ble_eq_true rfl) (by decide) dX3_leastOfPair_25 (fun x9 v8 c7 => ?_)
        refine sk_if_eq F 33 dX3_leastOfPair_28 (by decide) (fun h10 => ?_) (fun h10 => ?_)
        · refine sk_iinc (y := l1 + 1) F dX3_leastOfPair_33 1 rfl rfl (by decide) rfl ?_
          refine sk_goto F 2 dX3_leastOfPair_36 (by decide) ?_
          exact sk_lv [1, 0] rfl (ih v8 (l1 + 1))
        · refine sk_iload_n F dX3_leastOfPair_31 rfl 1 rfl ?_
          exact sk_iret F hK hr hlocks dX3_leastOfPair_32
def fX3_leastOfPair (n : Nat) (o : Nat) (v : Mem) : Option (Int32 × Mem) := fX3_leastOfPair_2 n o 1000 v 0
set_option maxRecDepth 100000 in
set_option maxHeartbeats 4000000 in
theorem kX3_leastOfPair_0 {p : Program} {l : Launch} {e : Env} {s : State} {m : MethodId} {args : Array Value} {below : List Frame} {meth : Method} {c : Code} {D : va_G} {A : Nat → Prop} {cI cS cF cZ cJ : ClassId} {ad : Nat → Nat} {X : va_W} {n : Nat} {o : Nat} (G : cx p s m args meth c cX3_leastOfPair 2 wsX3_leastOfPair RX3 D (ty5 cI cS cF cZ cJ) A (some .int)) (hn : n ≤ 24) (ho : kC n o = 3) (v : Mem) : sk p l e rmX3_leastOfPair s m args below meth c D A 2 0 0 (fun res => MQ below (qi D A (ty5 cI cS cF cZ cJ) (Wc cI cS cF ad n X) res) args s 0 0 A) (Wc cI cS cF ad n X v) 0 [(0, .ref (ad o))] [] (fX3_leastOfPair n o v) := by
  obtain ⟨F, hK, hA, hZ, hr, hlocks⟩ := G
  refine sk_eq (K' := fX3_leastOfPair_2 n o 1000 v 0) rfl ?_
  refine sk_iconst (x := 0) F dX3_leastOfPair_0 (by decide) ?_
  refine sk_istore_n F dX3_leastOfPair_1 rfl (by decide) rfl ?_
  exact sk_lv [1, 0] rfl (kX3_leastOfPair_2 ⟨F, hK, hA, hZ, hr, hlocks⟩ hn ho 1000 v 0)
theorem tX3_leastOfPair {l : Launch} {D : va_G} {A : Nat → Prop} {cI cS cF cZ cJ : ClassId} {ad : Nat → Nat} {X : va_W} {n : Nat} (hn : n ≤ 24) {o : Nat} (ho : kC n o = 3) (v : Mem) : CI l yX3_leastOfPair wsX3_leastOfPair rmX3_leastOfPair D A (ty5 cI cS cF cZ cJ) (Wc cI cS cF ad n X) [.ref (ad o)] v (fX3_leastOfPair n o v) :=
  CI_of (cc := cX3_leastOfPair) (maxL := 2) (ret := (some .int)) (by decide) rfl (Nat.le_of_ble_eq_true rfl) (fun p e s m below meth c G => kX3_leastOfPair_0 G hn ho v)
def rmX3_bestCandidate : Room := { frames := 3, cells := 0, slots := 0, locals := 65 }
theorem iX3_bestCandidate_2 : ∀ w ∈ wsX20, w ∈ wsX3_bestCandidate := by decide +kernel
theorem iX3_bestCandidate_3 : ∀ w ∈ wsX30, w ∈ wsX3_bestCandidate := by decide +kernel
def fX3_bestCandidate_73 (kb9 : Mem → Int32 → Int32 → Int32 → Option (Int32 × Mem)) (n : Nat) (o : Nat) (v : Mem) (l1 : Int32) (l3 : Int32) : Option (Int32 × Mem) := kb9 v l1 l3 (l3 + 1)
set_option maxRecDepth 100000 in
set_option maxHeartbeats 4000000 in
theorem kX3_bestCandidate_73 {p : Program} {l : Launch} {e : Env} {s : State} {m : MethodId} {args : Array Value} {below : List Frame} {meth : Method} {c : Code} {D : va_G} {A : Nat → Prop} {cI cS cF cZ cJ : ClassId} {ad : Nat → Nat} {X : va_W} {n : Nat} {o : Nat} {kb9 : Mem → Int32 → Int32 → Int32 → Option (Int32 × Mem)} (G : cx p s m args meth c cX3_bestCandidate 5 wsX3_bestCandidate RX3 D (ty5 cI cS cF cZ cJ) A (some .int)) (hn : n ≤ 24) (ho : kC n o = 3) (hkb9 : ∀ (v : Mem) (l1 : Int32) (l2 : Int32) (l3 : Int32), sk p l e rmX3_bestCandidate s m args below meth c D A 5 0 0 (fun res => MQ below (qi D A (ty5 cI cS cF cZ cJ) (Wc cI cS cF ad n X) res) args s 0 0 A) (Wc cI cS cF ad n X v) 9 [(0, .ref (ad o)), (1, .int l1), (2, .int l2), (3, .int l3)] [] (kb9 v l1 l2 l3)) (v : Mem) (l1 : Int32) (l3 : Int32) : sk p l e rmX3_bestCandidate s m args below meth c D A 5 0 0 (fun res => MQ below (qi D A (ty5 cI cS cF cZ cJ) (Wc cI cS cF ad n X) res) args s 0 0 A) (Wc cI cS cF ad n X v) 73 [(0, .ref (ad o)), (1, .int l1), (3, .int l3)] [] (fX3_bestCandidate_73 kb9 n o v l1 l3) := by
  obtain ⟨F, hK, hA, hZ, hr, hlocks⟩ := G
  refine sk_eq (K' := kb9 v l1 l3 (l3 + 1)) rfl ?_
  refine sk_iload_n F dX3_bestCandidate_73 rfl 2 rfl ?_
  refine sk_istore_n F dX3_bestCandidate_74 rfl (by decide) rfl ?_
  refine sk_iinc (y := l3 + 1) F dX3_bestCandidate_75 3 rfl rfl (by decide) rfl ?_
  refine sk_goto F 9 dX3_bestCandidate_78 (by decide) ?_
  exact sk_lv [2, 3, 1, 0] rfl (hkb9 v l1 l3 (l3 + 1))
def fX3_bestCandidate_40 (kb9 : Mem → Int32 → Int32 → Int32 → Option (Int32 × Mem)) (n : Nat) (o : Nat) (v : Mem) (l1 : Int32) (l2 : Int32) (l3 : Int32) (s0 : Int32) : Option (Int32 × Mem) := if s0 = 0 then kb9 v l1 l2 (l3 + 1) else if l2 = (-1) then fX3_bestCandidate_73 kb9 n o v l1 l3 else gd (inb l3 n) (gd (inb l2 n) (if (v (o + 17 + l3.toNatClampNeg) 3) ≤ (v (o + 17 + l2.toNatClampNeg) 3) then kb9 v l1 l2 (l3 + 1) else fX3_bestCandidate_73 kb9 n o v l1 l3))
set_option maxRecDepth 100000 in
set_option maxHeartbeats 4000000 in
theorem kX3_bestCandidate_40 {p : Program} {l : Launch} {e : Env} {s : State} {m : MethodId} {args : Array Value} {below : List Frame} {meth : Method} {c : Code} {D : va_G} {A : Nat → Prop} {cI cS cF cZ cJ : ClassId} {ad : Nat → Nat} {X : va_W} {n : Nat} {o : Nat} {kb9 : Mem → Int32 → Int32 → Int32 → Option (Int32 × Mem)} (G : cx p s m args meth c cX3_bestCandidate 5 wsX3_bestCandidate RX3 D (ty5 cI cS cF cZ cJ) A (some .int)) (hn : n ≤ 24) (ho : kC n o = 3) (hkb9 : ∀ (v : Mem) (l1 : Int32) (l2 : Int32) (l3 : Int32), sk p l e rmX3_bestCandidate s m args below meth c D A 5 0 0 (fun res => MQ below (qi D A (ty5 cI cS cF cZ cJ) (Wc cI cS cF ad n X) res) args s 0 0 A) (Wc cI cS cF ad n X v) 9 [(0, .ref (ad o)), (1, .int l1), (2, .int l2), (3, .int l3)] [] (kb9 v l1 l2 l3)) (v : Mem) (l1 : Int32) (l2 : Int32) (l3 : Int32) (s0 : Int32) : sk p l e rmX3_bestCandidate s m args below meth c D A 5 0 0 (fun res => MQ below (qi D A (ty5 cI cS cF cZ cJ) (Wc cI cS cF ad n X) res) args s 0 0 A) (Wc cI cS cF ad n X v) 40 [(0, .ref (ad o)), (1, .int l1), (2, .int l2), (3, .int l3)] [.int s0] (fX3_bestCandidate_40 kb9 n o v l1 l2 l3 s0) := by
  obtain ⟨F, hK, hA, hZ, hr, hlocks⟩ := G
  refine sk_eq (K' := if s0 = 0 then kb9 v l1 l2 (l3 + 1) else if l2 = (-1) then fX3_bestCandidate_73 kb9 n o v l1 l3 else gd (inb l3 n) (gd (inb l2 n) (if (v (o + 17 + l3.toNatClampNeg) 3) ≤ (v (o + 17 + l2.toNatClampNeg) 3) then kb9 v l1 l2 (l3 + 1) else fX3_bestCandidate_73 kb9 n o v l1 l3))) rfl ?_
  refine sk_istore F dX3_bestCandidate_40 (by decide) rfl ?_
  refine sk_iload F dX3_bestCandidate_42 0 rfl ?_
  refine sk_if_eq F 75 dX3_bestCandidate_44 (by decide) (fun h8 => ?_) (fun h8 => ?_)
  · refine sk_iinc (y := l3 + 1) F dX3_bestCandidate_75 4 rfl rfl (by decide) rfl ?_
    refine sk_goto F 9 dX3_bestCandidate_78 (by decide) ?_
    exact sk_lv [2, 3, 4, 0] rfl (hkb9 v l1 l2 (l3 + 1))
  · refine sk_iload_n F dX3_bestCandidate_47 rfl 3 rfl ?_
    refine sk_iconst (x := (-1)) F dX3_bestCandidate_48 (by decide) ?_
    refine sk_icmp_eq F 73 dX3_bestCandidate_49 (by decide) (fun h9 => ?_) (fun h9 => ?_)
    · exact sk_lv [1, 2, 4] rfl (kX3_bestCandidate_73 ⟨F, hK, hA, hZ, hr, hlocks⟩ hn ho hkb9 v l1 l3)
    · refine sk_aload_n F dX3_bestCandidate_52 rfl 1 rfl ?_
      refine sk_g3 (ref := "TunnelWatch$Tube") F hK ho iX3_bestCandidate_3 0 (by decide) (by decide +kernel) (fun _ h9 => h9) rfl dX3_bestCandidate_53 ?_
      refine sk_iload_n F dX3_bestCandidate_56 rfl 4 rfl ?_
      refine sk_aldS F hK ho dX3_bestCandidate_57 (fun h10 => ?_)
      refine sk_g2 (ref := "TunnelWatch$Section") F hK (kC_s ho hn (inb_lt h10)) iX3_bestCandidate_2 3 (by decide) (by decide +kernel) (fun _ h9 => h9) rfl dX3_bestCandidate_58 ?_
      refine sk_aload_n F dX3_bestCandidate_61 rfl 1 rfl ?_
      refine sk_g3 (ref := "TunnelWatch$Tube") F hK ho iX3_bestCandidate_3 0 (by decide) (by decide +kernel) (fun _ h9 => h9) rfl dX3_bestCandidate_62 ?_
      refine sk_iload_n F dX3_bestCandidate_65 rfl 3 rfl ?_
      refine sk_aldS F hK ho dX3_bestCandidate_66 (fun h11 => ?_)
      refine sk_g2 (ref := "TunnelWatch$Section") F hK (kC_s ho hn (inb_lt h11)) iX3_bestCandidate_2 3 (by decide) (by decide +kernel) (fun _ h9 => h9) rfl dX3_bestCandidate_67 ?_
      refine sk_icmp_le F 75 dX3_bestCandidate_70 (by decide) (fun h12 => ?_) (fun h12 => ?_)
      · refine sk_iinc (y := l3 + 1) F dX3_bestCandidate_75 4 rfl rfl (by decide) rfl ?_
        refine sk_goto F 9 dX3_bestCandidate_78 (by decide) ?_
        exact sk_lv [2, 3, 4, 0] rfl (hkb9 v l1 l2 (l3 + 1))
      · exact sk_lv [1, 2, 4] rfl (kX3_bestCandidate_73 ⟨F, hK, hA, hZ, hr, hlocks⟩ hn ho hkb9 v l1 l3)
def fX3_bestCandidate_9 (n : Nat) (o : Nat) : Nat → Mem → Int32 → Int32 → Int32 → Option (Int32 × Mem)
  | 0, _, _, _, _ => none
  | fuel + 1, v, l1, l2, l3 => if (nI n) ≤ l3 then some (l2, v) else gd (inb l3 n) (if (v (o + 17 + l3.toNatClampNeg) 2) = 0 then if l3 = l1 then fX3_bestCandidate_40 (fun v l1 l2 l3 => fX3_bestCandidate_9 n o fuel v l1 l2 l3) n o v l1 l2 l3 1 else fX3_bestCandidate_40 (fun v l1 l2 l3 => fX3_bestCandidate_9 n o fuel v l1 l2 l3) n o v l1 l2 l3 0 else fX3_bestCandidate_40 (fun v l1 l2 l3 => fX3_bestCandidate_9 n o fuel v l1 l2 l3) n o v l1 l2 l3 1)
set_option maxRecDepth 100000 in
set_option maxHeartbeats 4000000 in
theorem kX3_bestCandidate_9 {p : Program} {l : Launch} {e : Env} {s : State} {m : MethodId} {args : Array Value} {below : List Frame} {meth : Method} {c : Code} {D : va_G} {A : Nat → Prop} {cI cS cF cZ cJ : ClassId} {ad : Nat → Nat} {X : va_W} {n : Nat} {o : Nat} (G : cx p s m args meth c cX3_bestCandidate 5 wsX3_bestCandidate RX3 D (ty5 cI cS cF cZ cJ) A (some .int)) (hn : n ≤ 24) (ho : kC n o = 3) : ∀ (fuel : Nat) (v : Mem) (l1 : Int32) (l2 : Int32) (l3 : Int32), sk p l e rmX3_bestCandidate s m args below meth c D A 5 0 0 (fun res => MQ below (qi D A (ty5 cI cS cF cZ cJ) (Wc cI cS cF ad n X) res) args s 0 0 A) (Wc cI cS cF ad n X v) 9 [(0, .ref (ad o)), (1, .int l1), (2, .int l2), (3, .int l3)] [] (fX3_bestCandidate_9 n o fuel v l1 l2 l3) := by
  obtain ⟨F, hK, hA, hZ, hr, hlocks⟩ := G
  intro fuel
  induction fuel with
  | zero => intro v l1 l2 l3; exact sk_none
  | succ fuel ih =>
    intro v l1 l2 l3
    refine sk_eq (K' := if (nI n) ≤ l3 then some (l2, v) else gd (inb l3 n) (if (v (o + 17 + l3.toNatClampNeg) 2) = 0 then if l3 = l1 then fX3_bestCandidate_40 (fun v l1 l2 l3 => fX3_bestCandidate_9 n o fuel v l1 l2 l3) n o v l1 l2 l3 1 else fX3_bestCandidate_40 (fun v l1 l2 l3 => fX3_bestCandidate_9 n o fuel v l1 l2 l3) n o v l1 l2 l3 0 else fX3_bestCandidate_40 (fun v l1 l2 l3 => fX3_bestCandidate_9 n o fuel v l1 l2 l3) n o v l1 l2 l3 1)) rfl ?_
    refine sk_iload_n F dX3_bestCandidate_9 rfl 3 rfl ?_
    refine sk_aload_n F dX3_bestCandidate_10 rfl 0 rfl ?_
    refine sk_g3 (ref := "TunnelWatch$Tube") F hK ho iX3_bestCandidate_3 0 (by decide) (by decide +kernel) (fun _ h9 => h9) rfl dX3_bestCandidate_11 ?_
    refine sk_lenS F hK ho dX3_bestCandidate_14 ?_
    refine sk_icmp_ge F 81 dX3_bestCandidate_15 (by decide) (fun h4 => ?_) (fun h4 => ?_)
    · refine sk_iload_n F dX3_bestCandidate_81 rfl 2 rfl ?_
      exact sk_iret F hK hr hlocks dX3_bestCandidate_82
    · refine sk_aload_n F dX3_bestCandidate_18 rfl 0 rfl ?_
      refine sk_g3 (ref := "TunnelWatch$Tube") F hK ho iX3_bestCandidate_3 0 (by decide) (by decide +kernel) (fun _ h9 => h9) rfl dX3_bestCandidate_19 ?_
      refine sk_iload_n F dX3_bestCandidate_22 rfl 3 rfl ?_
      refine sk_aldS F hK ho dX3_bestCandidate_23 (fun h5 => ?_)
      refine sk_g2 (ref := "TunnelWatch$Section") F hK (kC_s ho hn (inb_lt h5)) iX3_bestCandidate_2 2 (by decide) (by decide +kernel) (fun _ h9 => h9) rfl dX3_bestCandidate_24 ?_
      refine sk_if_ne F 35 dX3_bestCandidate_27 (by decide) (fun h6 => ?_) (fun h6 => ?_)
      · refine sk_iconst (x := 1) F dX3_bestCandidate_35 (by decide) ?_
        refine sk_goto F 40 dX3_bestCandidate_36 (by decide) ?_
        exact kX3_bestCandidate_40 ⟨F, hK, hA, hZ, hr, hlocks⟩ hn ho ih v l1 l2 l3 1
      · refine sk_iload_n F dX3_bestCandidate_30 rfl 3 rfl ?_
        refine sk_iload_n F dX3_bestCandidate_31 rfl 1 rfl ?_
        refine sk_icmp_ne F 39 dX3_bestCandidate_32 (by decide) (fun h7 => ?_) (fun h7 => ?_)
        · refine sk_iconst (x := 0) F dX3_bestCandidate_39 (by decide) ?_
          exact kX3_bestCandidate_40 ⟨F, hK, hA, hZ, hr, hlocks⟩ hn ho ih v l1 l2 l3 0
        · refine sk_iconst (x := 1) F dX3_bestCandidate_35 (by decide) ?_
          refine sk_goto F 40 dX3_bestCandidate_36 (by decide) ?_
          exact kX3_bestCandidate_40 ⟨F, hK, hA, hZ, hr, hlocks⟩ hn ho ih v l1 l2 l3 1
def fX3_bestCandidate (n : Nat) (o : Nat) (v : Mem) : Option (Int32 × Mem) := bd (fX3_leastOfPair n o v) fun x3 v2 => fX3_bestCandidate_9 n o 1000 v2 x3 (-1) 0
set_option maxRecDepth 100000 in
set_option maxHeartbeats 4000000 in
theorem kX3_bestCandidate_0 {p : Program} {l : Launch} {e : Env} {s : State} {m : MethodId} {args : Array Value} {below : List Frame} {meth : Method} {c : Code} {D : va_G} {A : Nat → Prop} {cI cS cF cZ cJ : ClassId} {ad : Nat → Nat} {X : va_W} {n : Nat} {o : Nat} (G : cx p s m args meth c cX3_bestCandidate 5 wsX3_bestCandidate RX3 D (ty5 cI cS cF cZ cJ) A (some .int)) (hn : n ≤ 24) (ho : kC n o = 3) (v : Mem) : sk p l e rmX3_bestCandidate s m args below meth c D A 5 0 0 (fun res => MQ below (qi D A (ty5 cI cS cF cZ cJ) (Wc cI cS cF ad n X) res) args s 0 0 A) (Wc cI cS cF ad n X v) 0 [(0, .ref (ad o))] [] (fX3_bestCandidate n o v) := by
  obtain ⟨F, hK, hA, hZ, hr, hlocks⟩ := G
  refine sk_eq (K' := bd (fX3_leastOfPair n o v) fun x3 v2 => fX3_bestCandidate_9 n o 1000 v2 x3 (-1) 0) rfl ?_
  refine sk_aload_n F dX3_bestCandidate_0 rfl 0 rfl ?_
  refine sk_callVi (As := []) (rest := []) F hK hA hZ _ (tX3_leastOfPair hn ho _) (cwV 0 F.2.2.2.2 gX3_bestCandidate_X3_leastOfPair rfl rfl rfl (by decide +kernel) ⟨Nat.le_of_ble_eq_true rfl, Nat.le_of_ble_eq_true rfl⟩) (rc3 hK ho) rfl rfl (Nat.le_of_ble_eq_true rfl) (by decide) dX3_bestCandidate_1 (fun x3 v2 c1 => ?_)
  refine sk_istore_n F dX3_bestCandidate_4 rfl (by decide) rfl ?_
  refine sk_iconst (x := (-1)) F dX3_bestCandidate_5 (by decide) ?_
  refine sk_istore_n F dX3_bestCandidate_6 rfl (by decide) rfl ?_
  refine sk_iconst (x := 0) F dX3_bestCandidate_7 (by decide) ?_
  refine sk_istore_n F dX3_bestCandidate_8 rfl (by decide) rfl ?_
  exact sk_lv [3, 2, 1, 0] rfl (kX3_bestCandidate_9 ⟨F, hK, hA, hZ, hr, hlocks⟩ hn ho 1000 v2 x3 (-1) 0)
theorem tX3_bestCandidate {l : Launch} {D : va_G} {A : Nat → Prop} {cI cS cF cZ cJ : ClassId} {ad : Nat → Nat} {X : va_W} {n : Nat} (hn : n ≤ 24) {o : Nat} (ho : kC n o = 3) (v : Mem) : CI l yX3_bestCandidate wsX3_bestCandidate rmX3_bestCandidate D A (ty5 cI cS cF cZ cJ) (Wc cI cS cF ad n X) [.ref (ad o)] v (fX3_bestCandidate n o v) :=
  CI_of (cc := cX3_bestCandidate) (maxL := 5) (ret := (some .int)) (by decide) rfl (Nat.le_of_ble_eq_true rfl) (fun p e s m below meth c G => kX3_bestCandidate_0 G hn ho v)
def rmX3_leastOn : Room := { frames := 1, cells := 0, slots := 0, locals := 20 }
theorem iX3_leastOn_3 : ∀ w ∈ wsX30, w ∈ wsX3_leastOn := by decide +kernel
def fX3_leastOn_2 (n : Nat) (o : Nat) : Nat → Mem → Int32 → Option (Int32 × Mem)
  | 0, _, _ => none
  | fuel + 1, v, l1 => if (nI n) ≤ l1 then some ((-1), v) else gd (inb l1 n) (bd (fX2_isOn (o + 17 + l1.toNatClampNeg) v) fun x5 v4 => if x5 = 0 then fX3_leastOn_2 n o fuel v4 (l1 + 1) else some (l1, v4))
set_option maxRecDepth 100000 in
set_option maxHeartbeats 4000000 in
theorem kX3_leastOn_2 {p : Program} {l : Launch} {e : Env} {s : State} {m : MethodId} {args : Array Value} {below : List Frame} {meth : Method} {c : Code} {D : va_G} {A : Nat → Prop} {cI cS cF cZ cJ : ClassId} {ad : Nat → Nat} {X : va_W} {n : Nat} {o : Nat} (G : cx p s m args meth c cX3_leastOn 2 wsX3_leastOn RX3 D (ty5 cI cS cF cZ cJ) A (some .int)) (hn : n ≤ 24) (ho : kC n o = 3) : ∀ (fuel : Nat) (v : Mem) (l1 : Int32), sk p l e rmX3_leastOn s m args below meth c D A 2 0 0 (fun res => MQ below (qi D A (ty5 cI cS cF cZ cJ) (Wc cI cS cF ad n X) res) args s 0 0 A) (Wc cI cS cF ad n X v) 2 [(0, .ref (ad o)), (1, .int l1)] [] (fX3_leastOn_2 n o fuel v l1) := by
  obtain ⟨F, hK, hA, hZ, hr, hlocks⟩ := G
  intro fuel
  induction fuel with
  | zero => intro v l1; exact sk_none
  | succ fuel ih =>
    intro v l1
    refine sk_eq (K' := if (nI n) ≤ l1 then some ((-1), v) else gd (inb l1 n) (bd (fX2_isOn (o + 17 + l1.toNatClampNeg) v) fun x5 v4 => if x5 = 0 then fX3_leastOn_2 n o fuel v4 (l1 + 1) else some (l1, v4))) rfl ?_
    refine sk_iload_n F dX3_leastOn_2 rfl 1 rfl ?_
    refine sk_aload_n F dX3_leastOn_3 rfl 0 rfl ?_
    refine sk_g3 (ref := "TunnelWatch$Tube") F hK ho iX3_leastOn_3 0 (by decide) (by decide +kernel) (fun _ h9 => h9) rfl dX3_leastOn_4 ?_
    refine sk_lenS F hK ho dX3_leastOn_7 ?_
    refine sk_icmp_ge F 31 dX3_leastOn_8 (by decide) (fun h1 => ?_) (fun h1 => ?_)
    · refine sk_iconst (x := (-1)) F dX3_leastOn_31 (by decide) ?_
      exact sk_iret F hK hr hlocks dX3_leastOn_32
    · refine sk_aload_n F dX3_leastOn_11 rfl 0 rfl ?_
      refine sk_g3 (ref := "TunnelWatch$Tube") F hK ho iX3_leastOn_3 0 (by decide) (by decide +kernel) (fun _ h9 => h9) rfl dX3_leastOn_12 ?_
      refine sk_iload_n F dX3_leastOn_15 rfl 1 rfl ?_
      refine sk_aldS F hK ho dX3_leastOn_16 (fun h2 => ?_)
      refine sk_callVi (As := []) (rest := []) F hK hA hZ _ (tX2_isOn hn (kC_s ho hn (inb_lt h2)) _) (cwV 0 F.2.2.2.2 gX3_leastOn_X2_isOn rfl rfl rfl (by decide +kernel) ⟨Nat.le_of_ble_eq_true rfl, Nat.le_of_ble_eq_true rfl⟩) (rc2 hK (kC_s ho hn (inb_lt h2))) rfl rfl (Nat.le_of_ble_eq_true rfl) (by decide) dX3_leastOn_17 (fun x5 v4 c3 => ?_)
      refine sk_if_eq F 25 dX3_leastOn_20 (by decide) (fun h6 => ?_) (fun h6 => ?_)
      · refine sk_iinc (y := l1 + 1) F dX3_leastOn_25 1 rfl rfl (by decide) rfl ?_
        refine sk_goto F 2 dX3_leastOn_28 (by decide) ?_
        exact sk_lv [1, 0] rfl (ih v4 (l1 + 1))
      · refine sk_iload_n F dX3_leastOn_23 rfl 1 rfl ?_
        exact sk_iret F hK hr hlocks dX3_leastOn_24
def fX3_leastOn (n : Nat) (o : Nat) (v : Mem) : Option (Int32 × Mem) := fX3_leastOn_2 n o 1000 v 0
set_option maxRecDepth 100000 in
set_option maxHeartbeats 4000000 in
theorem kX3_leastOn_0 {p : Program} {l : Launch} {e : Env} {s : State} {m : MethodId} {args : Array Value} {below : List Frame} {meth : Method} {c : Code} {D : va_G} {A : Nat → Prop} {cI cS cF cZ cJ : ClassId} {ad : Nat → Nat} {X : va_W} {n : Nat} {o : Nat} (G : cx p s m args meth c cX3_leastOn 2 wsX3_leastOn RX3 D (ty5 cI cS cF cZ cJ) A (some .int)) (hn : n ≤ 24) (ho : kC n o = 3) (v : Mem) : sk p l e rmX3_leastOn s m args below meth c D A 2 0 0 (fun res => MQ below (qi D A (ty5 cI cS cF cZ cJ) (Wc cI cS cF ad n X) res) args s 0 0 A) (Wc cI cS cF ad n X v) 0 [(0, .ref (ad o))] [] (fX3_leastOn n o v) := by
  obtain ⟨F, hK, hA, hZ, hr, hlocks⟩ := G
  refine sk_eq (K' := fX3_leastOn_2 n o 1000 v 0) rfl ?_
  refine sk_iconst (x := 0) F dX3_leastOn_0 (by decide) ?_
  refine sk_istore_n F dX3_leastOn_1 rfl (by decide) rfl ?_
  exact sk_lv [1, 0] rfl (kX3_leastOn_2 ⟨F, hK, hA, hZ, hr, hlocks⟩ hn ho 1000 v 0)
theorem tX3_leastOn {l : Launch} {D : va_G} {A : Nat → Prop} {cI cS cF cZ cJ : ClassId} {ad : Nat → Nat} {X : va_W} {n : Nat} (hn : n ≤ 24) {o : Nat} (ho : kC n o = 3) (v : Mem) : CI l yX3_leastOn wsX3_leastOn rmX3_leastOn D A (ty5 cI cS cF cZ cJ) (Wc cI cS cF ad n X) [.ref (ad o)] v (fX3_leastOn n o v) :=
  CI_of (cc := cX3_leastOn) (maxL := 2) (ret := (some .int)) (by decide) rfl (Nat.le_of_ble_eq_true rfl) (fun p e s m below meth c G => kX3_leastOn_0 G hn ho v)
def rmX3_judgeSuspicion : Room := { frames := 2, cells := 0, slots := 0, locals := 41 }
theorem iX3_judgeSuspicion_3 : ∀ w ∈ wsX30, w ∈ wsX3_judgeSuspicion := by decide +kernel
def fX3_judgeSuspicion_30 (n : Nat) (o : Nat) (v : Mem) (s0 : Int32) (s1 : Nat) : Option (Mem) := some (up2 v s1 10 s0)
set_option maxRecDepth 100000 in
set_option maxHeartbeats 4000000 in
theorem kX3_judgeSuspicion_30 {p : Program} {l : Launch} {e : Env} {s : State} {m : MethodId} {args : Array Value} {below : List Frame} {meth : Method} {c : Code} {D : va_G} {A : Nat → Prop} {cI cS cF cZ cJ : ClassId} {ad : Nat → Nat} {X : va_W} {n : Nat} {o : Nat} (G : cx p s m args meth c cX3_judgeSuspicion 1 wsX3_judgeSuspicion RX3 D (ty5 cI cS cF cZ cJ) A none) (hn : n ≤ 24) (ho : kC n o = 3) (v : Mem) (s0 : Int32) (s1 : Nat) (hs1 : kC n s1 = 3) : sk p l e rmX3_judgeSuspicion s m args below meth c D A 1 0 0 (fun res => MQ below (qv D A (ty5 cI cS cF cZ cJ) (Wc cI cS cF ad n X) res) args s 0 0 A) (Wc cI cS cF ad n X v) 30 [] [.int s0, .ref (ad s1)] (fX3_judgeSuspicion_30 n o v s0 s1) := by
  obtain ⟨F, hK, hA, hZ, hr, hlocks⟩ := G
  refine sk_eq (K' := some (up2 v s1 10 s0)) rfl ?_
  refine sk_p3 (ref := "TunnelWatch$Tube") (ty := .int) F hK hs1 iX3_judgeSuspicion_3 10 (by decide) (by decide +kernel) (fun _ h9 => h9) rfl (by decide +kernel) rfl rfl rfl dX3_judgeSuspicion_30 ?_
  exact sk_vret F hK hr hlocks dX3_judgeSuspicion_33
def fX3_judgeSuspicion (n : Nat) (o : Nat) (v : Mem) : Option (Mem) := if (v o 10) = 2 then some v else bd (fX3_leastOn n o v) fun x4 v3 => if ((up2 v3 o 11 x4) o 11) = (-1) then fX3_judgeSuspicion_30 n o (up2 v3 o 11 x4) 0 o else fX3_judgeSuspicion_30 n o (up2 v3 o 11 x4) 1 o
set_option maxRecDepth 100000 in
set_option maxHeartbeats 4000000 in
theorem kX3_judgeSuspicion_0 {p : Program} {l : Launch} {e : Env} {s : State} {m : MethodId} {args : Array Value} {below : List Frame} {meth : Method} {c : Code} {D : va_G} {A : Nat → Prop} {cI cS cF cZ cJ : ClassId} {ad : Nat → Nat} {X : va_W} {n : Nat} {o : Nat} (G : cx p s m args meth c cX3_judgeSuspicion 1 wsX3_judgeSuspicion RX3 D (ty5 cI cS cF cZ cJ) A none) (hn : n ≤ 24) (ho : kC n o = 3) (v : Mem) : sk p l e rmX3_judgeSuspicion s m args below meth c D A 1 0 0 (fun res => MQ below (qv D A (ty5 cI cS cF cZ cJ) (Wc cI cS cF ad n X) res) args s 0 0 A) (Wc cI cS cF ad n X v) 0 [(0, .ref (ad o))] [] (fX3_judgeSuspicion n o v) := by
  obtain ⟨F, hK, hA, hZ, hr, hlocks⟩ := G
  refine sk_eq (K' := if (v o 10) = 2 then some v else bd (fX3_leastOn n o v) fun x4 v3 => if ((up2 v3 o 11 x4) o 11) = (-1) then fX3_judgeSuspicion_30 n o (up2 v3 o 11 x4) 0 o else fX3_judgeSuspicion_30 n o (up2 v3 o 11 x4) 1 o) rfl ?_
  refine sk_aload_n F dX3_judgeSuspicion_0 rfl 0 rfl ?_
  refine sk_g3 (ref := "TunnelWatch$Tube") F hK ho iX3_judgeSuspicion_3 10 (by decide) (by decide +kernel) (fun _ h9 => h9) rfl dX3_judgeSuspicion_1 ?_
  refine sk_iconst (x := 2) F dX3_judgeSuspicion_4 (by decide) ?_
  refine sk_icmp_eq F 33 dX3_judgeSuspicion_5 (by decide) (fun h1 => ?_) (fun h1 => ?_)
  · exact sk_vret F hK hr hlocks dX3_judgeSuspicion_33
  · refine sk_aload_n F dX3_judgeSuspicion_8 rfl 0 rfl ?_
    refine sk_aload_n F dX3_judgeSuspicion_9 rfl 0 rfl ?_
    refine sk_callVi (As := []) (rest := [.ref (ad o)]) F hK hA hZ _ (tX3_leastOn hn ho _) (cwV 0 F.2.2.2.2 gX3_judgeSuspicion_X3_leastOn rfl rfl rfl (by decide +kernel) ⟨Nat.le_of_ble_eq_true rfl, Nat.le_of_ble_eq_true rfl⟩) (rc3 hK ho) rfl rfl (Nat.le_of_ble_eq_true rfl) (by decide) dX3_judgeSuspicion_10 (fun x4 v3 c2 => ?_)
    refine sk_p3 (ref := "TunnelWatch$Tube") (ty := .int) F hK ho iX3_judgeSuspicion_3 11 (by decide) (by decide +kernel) (fun _ h9 => h9) rfl (by decide +kernel) rfl rfl rfl dX3_judgeSuspicion_13 ?_
    refine sk_aload_n F dX3_judgeSuspicion_16 rfl 0 rfl ?_
    refine sk_aload_n F dX3_judgeSuspicion_17 rfl 0 rfl ?_
    refine sk_g3 (ref := "TunnelWatch$Tube") F hK ho iX3_judgeSuspicion_3 11 (by decide) (by decide +kernel) (fun _ h9 => h9) rfl dX3_judgeSuspicion_18 ?_
    refine sk_iconst (x := (-1)) F dX3_judgeSuspicion_21 (by decide) ?_
    refine sk_icmp_ne F 29 dX3_judgeSuspicion_22 (by decide) (fun h5 => ?_) (fun h5 => ?_)
    · refine sk_iconst (x := 1) F dX3_judgeSuspicion_29 (by decide) ?_
      exact sk_lv [] rfl (kX3_judgeSuspicion_30 ⟨F, hK, hA, hZ, hr, hlocks⟩ hn ho (up2 v3 o 11 x4) 1 o ho)
    · refine sk_iconst (x := 0) F dX3_judgeSuspicion_25 (by decide) ?_
      refine sk_goto F 30 dX3_judgeSuspicion_26 (by decide) ?_
      exact sk_lv [] rfl (kX3_judgeSuspicion_30 ⟨F, hK, hA, hZ, hr, hlocks⟩ hn ho (up2 v3 o 11 x4) 0 o ho)
theorem tX3_judgeSuspicion {l : Launch} {D : va_G} {A : Nat → Prop} {cI cS cF cZ cJ : ClassId} {ad : Nat → Nat} {X : va_W} {n : Nat} (hn : n ≤ 24) {o : Nat} (ho : kC n o = 3) (v : Mem) : CV l yX3_judgeSuspicion wsX3_judgeSuspicion rmX3_judgeSuspicion D A (ty5 cI cS cF cZ cJ) (Wc cI cS cF ad n X) [.ref (ad o)] v (fX3_judgeSuspicion n o v) :=
  CV_of (cc := cX3_judgeSuspicion) (maxL := 1) (ret := none) (by decide) rfl (Nat.le_of_ble_eq_true rfl) (fun p e s m below meth c G => kX3_judgeSuspicion_0 G hn ho v)
def rmX3_fireRank : Room := { frames := 0, cells := 0, slots := 0, locals := 0 }
theorem iX3_fireRank_2 : ∀ w ∈ wsX20, w ∈ wsX3_fireRank := by decide +kernel
theorem iX3_fireRank_3 : ∀ w ∈ wsX30, w ∈ wsX3_fireRank := by decide +kernel
def fX3_fireRank (n : Nat) (o : Nat) (v : Mem) : Option (Int32 × Mem) := if (v o 11) = (-1) then some ((-1), v) else gd (inb (v o 11) n) (some (v (o + 17 + (v o 11).toNatClampNeg) 3, v))
set_option maxRecDepth 100000 in
set_option maxHeartbeats 4000000 in
theorem kX3_fireRank_0 {p : Program} {l : Launch} {e : Env} {s : State} {m : MethodId} {args : Array Value} {below : List Frame} {meth : Method} {c : Code} {D : va_G} {A : Nat → Prop} {cI cS cF cZ cJ : ClassId} {ad : Nat → Nat} {X : va_W} {n : Nat} {o : Nat} (G : cx p s m args meth c cX3_fireRank 1 wsX3_fireRank RX3 D (ty5 cI cS cF cZ cJ) A (some .int)) (hn : n ≤ 24) (ho : kC n o = 3) (v : Mem) : sk p l e rmX3_fireRank s m args below meth c D A 1 0 0 (fun res => MQ below (qi D A (ty5 cI cS cF cZ cJ) (Wc cI cS cF ad n X) res) args s 0 0 A) (Wc cI cS cF ad n X v) 0 [(0, .ref (ad o))] [] (fX3_fireRank n o v) := by
  obtain ⟨F, hK, hA, hZ, hr, hlocks⟩ := G
  refine sk_eq (K' := if (v o 11) = (-1) then some ((-1), v) else gd (inb (v o 11) n) (some (v (o + 17 + (v o 11).toNatClampNeg) 3, v))) rfl ?_
  refine sk_aload_n F dX3_fireRank_0 rfl 0 rfl ?_
  refine sk_g3 (ref := "TunnelWatch$Tube") F hK ho iX3_fireRank_3 11 (by decide) (by decide +kernel) (fun _ h9 => h9) rfl dX3_fireRank_1 ?_
  refine sk_iconst (x := (-1)) F dX3_fireRank_4 (by decide) ?_
  refine sk_icmp_ne F 12 dX3_fireRank_5 (by decide) (fun h1 => ?_) (fun h1 => ?_)
  · refine sk_aload_n F dX3_fireRank_12 rfl 0 rfl ?_
    refine sk_g3 (ref := "TunnelWatch$Tube") F hK ho iX3_fireRank_3 0 (by decide) (by decide +kernel) (fun _ h9 => h9) rfl dX3_fireRank_13 ?_
    refine sk_aload_n F dX3_fireRank_16 rfl 0 rfl ?_
    refine sk_g3 (ref := "TunnelWatch$Tube") F hK ho iX3_fireRank_3 11 (by decide) (by decide +kernel) (fun _ h9 => h9) rfl dX3_fireRank_17 ?_
    refine sk_aldS F hK ho dX3_fireRank_20 (fun h2 => ?_)
    refine sk_g2 (ref := "TunnelWatch$Section") F hK (kC_s ho hn (inb_lt h2)) iX3_fireRank_2 3 (by decide) (by decide +kernel) (fun _ h9 => h9) rfl dX3_fireRank_21 ?_
    exact sk_iret F hK hr hlocks dX3_fireRank_24
  · refine sk_iconst (x := (-1)) F dX3_fireRank_8 (by decide) ?_
    refine sk_goto F 24 dX3_fireRank_9 (by decide) ?_
    exact sk_iret F hK hr hlocks dX3_fireRank_24
theorem tX3_fireRank {l : Launch} {D : va_G} {A : Nat → Prop} {cI cS cF cZ cJ : ClassId} {ad : Nat → Nat} {X : va_W} {n : Nat} (hn : n ≤ 24) {o : Nat} (ho : kC n o = 3) (v : Mem) : CI l yX3_fireRank wsX3_fireRank rmX3_fireRank D A (ty5 cI cS cF cZ cJ) (Wc cI cS cF ad n X) [.ref (ad o)] v (fX3_fireRank n o v) :=
  CI_of (cc := cX3_fireRank) (maxL := 1) (ret := (some .int)) (by decide) rfl (Nat.le_of_ble_eq_true rfl) (fun p e s m below meth c G => kX3_fireRank_0 G hn ho v)
def rmX3_judgeFire : Room := { frames := 4, cells := 0, slots := 0, locals := 89 }
theorem iX3_judgeFire_2 : ∀ w ∈ wsX20, w ∈ wsX3_judgeFire := by decide +kernel
theorem iX3_judgeFire_3 : ∀ w ∈ wsX30, w ∈ wsX3_judgeFire := by decide +kernel
def fX3_judgeFire_41 (n : Nat) (o : Nat) (v : Mem) (l1 : Int32) : Option (Mem) := some (up2 (up2 v o 10 2) o 11 l1)
set_option maxRecDepth 100000 in
set_option maxHeartbeats 4000000 in
theorem kX3_judgeFire_41 {p : Program} {l : Launch} {e : Env} {s : State} {m : MethodId} {args : Array Value} {below : List Frame} {meth : Method} {c : Code} {D : va_G} {A : Nat → Prop} {cI cS cF cZ cJ : ClassId} {ad : Nat → Nat} {X : va_W} {n : Nat} {o : Nat} (G : cx p s m args meth c cX3_judgeFire 2 wsX3_judgeFire RX3 D (ty5 cI cS cF cZ cJ) A none) (hn : n ≤ 24) (ho : kC n o = 3) (v : Mem) (l1 : Int32) : sk p l e rmX3_judgeFire s m args below meth c D A 2 0 0 (fun res => MQ below (qv D A (ty5 cI cS cF cZ cJ) (Wc cI cS cF ad n X) res) args s 0 0 A) (Wc cI cS cF ad n X v) 41 [(0, .ref (ad o)), (1, .int l1)] [] (fX3_judgeFire_41 n o v l1) := by
  obtain ⟨F, hK, hA, hZ, hr, hlocks⟩ := G
  refine sk_eq (K' := some (up2 (up2 v o 10 2) o 11 l1)) rfl ?_
  refine sk_aload_n F dX3_judgeFire_41 rfl 0 rfl ?_
  refine sk_iconst (x := 2) F dX3_judgeFire_42 (by decide) ?_
  refine sk_p3 (ref := "TunnelWatch$Tube") (ty := .int) F hK ho iX3_judgeFire_3 10 (by decide) (by decide +kernel) (fun _ h9 => h9) rfl (by decide +kernel) rfl rfl rfl dX3_judgeFire_43 ?_
  refine sk_aload_n F dX3_judgeFire_46 rfl 0 rfl ?_
  refine sk_iload_n F dX3_judgeFire_47 rfl 1 rfl ?_
  refine sk_p3 (ref := "TunnelWatch$Tube") (ty := .int) F hK ho iX3_judgeFire_3 11 (by decide) (by decide +kernel) (fun _ h9 => h9) rfl (by decide +kernel) rfl rfl rfl dX3_judgeFire_48 ?_
  exact sk_vret F hK hr hlocks dX3_judgeFire_51
def fX3_judgeFire (n : Nat) (o : Nat) (v : Mem) : Option (Mem) := bd (fX3_bestCandidate n o v) fun x3 v2 => if x3 = (-1) then (fX3_judgeSuspicion n o v2).bind fun v12 => some v12 else if (v2 o 10) = 2 then gd (inb x3 n) (bd (fX3_fireRank n o v2) fun x9 v8 => if (v2 (o + 17 + x3.toNatClampNeg) 3) ≤ x9 then some v8 else fX3_judgeFire_41 n o v8 x3) else fX3_judgeFire_41 n o v2 x3
set_option maxRecDepth 100000 in
set_option maxHeartbeats 4000000 in
theorem kX3_judgeFire_0 {p : Program} {l : Launch} {e : Env} {s : State} {m : MethodId} {args : Array Value} {below : List Frame} {meth : Method} {c : Code} {D : va_G} {A : Nat → Prop} {cI cS cF cZ cJ : ClassId} {ad : Nat → Nat} {X : va_W} {n : Nat} {o : Nat} (G : cx p s m args meth c cX3_judgeFire 2 wsX3_judgeFire RX3 D (ty5 cI cS cF cZ cJ) A none) (hn : n ≤ 24) (ho : kC n o = 3) (v : Mem) : sk p l e rmX3_judgeFire s m args below meth c D A 2 0 0 (fun res => MQ below (qv D A (ty5 cI cS cF cZ cJ) (Wc cI cS cF ad n X) res) args s 0 0 A) (Wc cI cS cF ad n X v) 0 [(0, .ref (ad o))] [] (fX3_judgeFire n o v) := by
  obtain ⟨F, hK, hA, hZ, hr, hlocks⟩ := G
  refine sk_eq (K' := bd (fX3_bestCandidate n o v) fun x3 v2 => if x3 = (-1) then (fX3_judgeSuspicion n o v2).bind fun v12 => some v12 else if (v2 o 10) = 2 then gd (inb x3 n) (bd (fX3_fireRank n o v2) fun x9 v8 => if (v2 (o + 17 + x3.toNatClampNeg) 3) ≤ x9 then some v8 else fX3_judgeFire_41 n o v8 x3) else fX3_judgeFire_41 n o v2 x3) rfl ?_
  refine sk_aload_n F dX3_judgeFire_0 rfl 0 rfl ?_
  refine sk_callVi (As := []) (rest := []) F hK hA hZ _ (tX3_bestCandidate hn ho _) (cwV 0 F.2.2.2.2 gX3_judgeFire_X3_bestCandidate rfl rfl rfl (by decide +kernel) ⟨Nat.le_of_ble_eq_true rfl, Nat.le_of_ble_eq_true rfl⟩) (rc3 hK ho) rfl rfl (Nat.le_of_ble_eq_true rfl) (by decide) dX3_judgeFire_1 (fun x3 v2 c1 => ?_)
  refine sk_istore_n F dX3_judgeFire_4 rfl (by decide) rfl ?_
  refine sk_iload_n F dX3_judgeFire_5 rfl 0 rfl ?_
  refine sk_iconst (x := (-1)) F dX3_judgeFire_6 (by decide) ?_
  refine sk_icmp_ne F 17 dX3_judgeFire_7 (by decide) (fun h4 => ?_) (fun h4 => ?_)
  · refine sk_aload_n F dX3_judgeFire_17 rfl 1 rfl ?_
    refine sk_g3 (ref := "TunnelWatch$Tube") F hK ho iX3_judgeFire_3 10 (by decide) (by decide +kernel) (fun _ h9 => h9) rfl dX3_judgeFire_18 ?_
    refine sk_iconst (x := 2) F dX3_judgeFire_21 (by decide) ?_
    refine sk_icmp_ne F 41 dX3_judgeFire_22 (by decide) (fun h5 => ?_) (fun h5 => ?_)
    · exact sk_lv [1, 0] rfl (kX3_judgeFire_41 ⟨F, hK, hA, hZ, hr, hlocks⟩ hn ho v2 x3)
    · refine sk_aload_n F dX3_judgeFire_25 rfl 1 rfl ?_
      refine sk_g3 (ref := "TunnelWatch$Tube") F hK ho iX3_judgeFire_3 0 (by decide) (by decide +kernel) (fun _ h9 => h9) rfl dX3_judgeFire_26 ?_
      refine sk_iload_n F dX3_judgeFire_29 rfl 0 rfl ?_
      refine sk_aldS F hK ho dX3_judgeFire_30 (fun h6 => ?_)
      refine sk_g2 (ref := "TunnelWatch$Section") F hK (kC_s ho hn (inb_lt h6)) iX3_judgeFire_2 3 (by decide) (by decide +kernel) (fun _ h9 => h9) rfl dX3_judgeFire_31 ?_
      refine sk_aload_n F dX3_judgeFire_34 rfl 1 rfl ?_
      refine sk_callVi (As := []) (rest := [.int (v2 (o + 17 + x3.toNatClampNeg) 3)]) F hK hA hZ _ (tX3_fireRank hn ho _) (cwV 0 F.2.2.2.2 gX3_judgeFire_X3_fireRank rfl rfl rfl (by decide +kernel) ⟨Nat.le_of_ble_eq_true rfl, Nat.le_of_ble_eq_true rfl⟩) (rc3 hK ho) rfl rfl (Nat.le_of_ble_eq_true rfl) (by decide) dX3_judgeFire_35 (fun x9 v8 c7 => ?_)
      refine sk_icmp_le F 51 dX3_judgeFire_38 (by decide) (fun h10 => ?_) (fun h10 => ?_)
      · exact sk_vret F hK hr hlocks dX3_judgeFire_51
      · exact sk_lv [1, 0] rfl (kX3_judgeFire_41 ⟨F, hK, hA, hZ, hr, hlocks⟩ hn ho v8 x3)
  · refine sk_aload_n F dX3_judgeFire_10 rfl 1 rfl ?_
    refine sk_callVv (As := []) (rest := []) F hK hA hZ _ (tX3_judgeSuspicion hn ho _) (cwV 0 F.2.2.2.2 gX3_judgeFire_X3_judgeSuspicion rfl rfl rfl (by decide +kernel) ⟨Nat.le_of_ble_eq_true rfl, Nat.le_of_ble_eq_true rfl⟩) (rc3 hK ho) rfl rfl (Nat.le_of_ble_eq_true rfl) (by decide) dX3_judgeFire_11 (fun v12 c11 => ?_)
    refine sk_goto F 51 dX3_judgeFire_14 (by decide) ?_
    exact sk_vret F hK hr hlocks dX3_judgeFire_51
theorem tX3_judgeFire {l : Launch} {D : va_G} {A : Nat → Prop} {cI cS cF cZ cJ : ClassId} {ad : Nat → Nat} {X : va_W} {n : Nat} (hn : n ≤ 24) {o : Nat} (ho : kC n o = 3) (v : Mem) : CV l yX3_judgeFire wsX3_judgeFire rmX3_judgeFire D A (ty5 cI cS cF cZ cJ) (Wc cI cS cF ad n X) [.ref (ad o)] v (fX3_judgeFire n o v) :=
  CV_of (cc := cX3_judgeFire) (maxL := 2) (ret := none) (by decide) rfl (Nat.le_of_ble_eq_true rfl) (fun p e s m below meth c G => kX3_judgeFire_0 G hn ho v)
def rmX3_pullWhereSuspected : Room := { frames := 0, cells := 0, slots := 0, locals := 0 }
theorem iX3_pullWhereSuspected_2 : ∀ w ∈ wsX20, w ∈ wsX3_pullWhereSuspected := by decide +kernel
theorem iX3_pullWhereSuspected_3 : ∀ w ∈ wsX30, w ∈ wsX3_pullWhereSuspected := by decide +kernel
def fX3_pullWhereSuspected (n : Nat) (o : Nat) (v : Mem) : Option (Int32 × Mem) := if (v o 10) = 1 then if (v o 11) = (-1) then some (0, v) else gd (inb (v o 11) n) (some (1, up2 v (o + 17 + (v o 11).toNatClampNeg) 2 1)) else some (0, v)
set_option maxRecDepth 100000 in
set_option maxHeartbeats 4000000 in
theorem kX3_pullWhereSuspected_0 {p : Program} {l : Launch} {e : Env} {s : State} {m : MethodId} {args : Array Value} {below : List Frame} {meth : Method} {c : Code} {D : va_G} {A : Nat → Prop} {cI cS cF cZ cJ : ClassId} {ad : Nat → Nat} {X : va_W} {n : Nat} {o : Nat} (G : cx p s m args meth c cX3_pullWhereSuspected 1 wsX3_pullWhereSuspected RX3 D (ty5 cI cS cF cZ cJ) A (some .boolean)) (hn : n ≤ 24) (ho : kC n o = 3) (v : Mem) : sk p l e rmX3_pullWhereSuspected s m args below meth c D A 1 0 0 (fun res => MQ below (qi D A (ty5 cI cS cF cZ cJ) (Wc cI cS cF ad n X) res) args s 0 0 A) (Wc cI cS cF ad n X v) 0 [(0, .ref (ad o))] [] (fX3_pullWhereSuspected n o v) := by
  obtain ⟨F, hK, hA, hZ, hr, hlocks⟩ := G
  refine sk_eq (K' := if (v o 10) = 1 then if (v o 11) = (-1) then some (0, v) else gd (inb (v o 11) n) (some (1, up2 v (o + 17 + (v o 11).toNatClampNeg) 2 1)) else some (0, v)) rfl ?_
  refine sk_aload_n F dX3_pullWhereSuspected_0 rfl 0 rfl ?_
  refine sk_g3 (ref := "TunnelWatch$Tube") F hK ho iX3_pullWhereSuspected_3 10 (by decide) (by decide +kernel) (fun _ h9 => h9) rfl dX3_pullWhereSuspected_1 ?_
  refine sk_iconst (x := 1) F dX3_pullWhereSuspected_4 (by decide) ?_
  refine sk_icmp_ne F 16 dX3_pullWhereSuspected_5 (by decide) (fun h1 => ?_) (fun h1 => ?_)
  · refine sk_iconst (x := 0) F dX3_pullWhereSuspected_16 (by decide) ?_
    exact sk_zretc F hK hr hlocks (by decide) dX3_pullWhereSuspected_17
  · refine sk_aload_n F dX3_pullWhereSuspected_8 rfl 0 rfl ?_
    refine sk_g3 (ref := "TunnelWatch$Tube") F hK ho iX3_pullWhereSuspected_3 11 (by decide) (by decide +kernel) (fun _ h9 => h9) rfl dX3_pullWhereSuspected_9 ?_
    refine sk_iconst (x := (-1)) F dX3_pullWhereSuspected_12 (by decide) ?_
    refine sk_icmp_ne F 18 dX3_pullWhereSuspected_13 (by decide) (fun h2 => ?_) (fun h2 => ?_)
    · refine sk_aload_n F dX3_pullWhereSuspected_18 rfl 0 rfl ?_
      refine sk_g3 (ref := "TunnelWatch$Tube") F hK ho iX3_pullWhereSuspected_3 0 (by decide) (by decide +kernel) (fun _ h9 => h9) rfl dX3_pullWhereSuspected_19 ?_
      refine sk_aload_n F dX3_pullWhereSuspected_22 rfl 0 rfl ?_
      refine sk_g3 (ref := "TunnelWatch$Tube") F hK ho iX3_pullWhereSuspected_3 11 (by decide) (by decide +kernel) (fun _ h9 => h9) rfl dX3_pullWhereSuspected_23 ?_
      refine sk_aldS F hK ho dX3_pullWhereSuspected_26 (fun h3 => ?_)
      refine sk_iconst (x := 1) F dX3_pullWhereSuspected_27 (by decide) ?_
      refine sk_p2 (ref := "TunnelWatch$Section") (ty := .boolean) F hK (kC_s ho hn (inb_lt h3)) iX3_pullWhereSuspected_2 2 (by decide) (by decide +kernel) (fun _ h9 => h9) rfl (by decide +kernel) rfl rfl rfl dX3_pullWhereSuspected_28 ?_
      refine sk_iconst (x := 1) F dX3_pullWhereSuspected_31 (by decide) ?_
      exact sk_zretc F hK hr hlocks (by decide) dX3_pullWhereSuspected_32
    · refine sk_iconst (x := 0) F dX3_pullWhereSuspected_16 (by decide) ?_
      exact sk_zretc F hK hr hlocks (by decide) dX3_pullWhereSuspected_17
theorem tX3_pullWhereSuspected {l : Launch} {D : va_G} {A : Nat → Prop} {cI cS cF cZ cJ : ClassId} {ad : Nat → Nat} {X : va_W} {n : Nat} (hn : n ≤ 24) {o : Nat} (ho : kC n o = 3) (v : Mem) : CI l yX3_pullWhereSuspected wsX3_pullWhereSuspected rmX3_pullWhereSuspected D A (ty5 cI cS cF cZ cJ) (Wc cI cS cF ad n X) [.ref (ad o)] v (fX3_pullWhereSuspected n o v) :=
  CI_of (cc := cX3_pullWhereSuspected) (maxL := 1) (ret := (some .boolean)) (by decide) rfl (Nat.le_of_ble_eq_true rfl) (fun p e s m below meth c G => kX3_pullWhereSuspected_0 G hn ho v)
def rmX3_endFire : Room := { frames := 2, cells := 0, slots := 0, locals := 41 }
theorem iX3_endFire_2 : ∀ w ∈ wsX20, w ∈ wsX3_endFire := by decide +kernel
theorem iX3_endFire_3 : ∀ w ∈ wsX30, w ∈ wsX3_endFire := by decide +kernel
def fX3_endFire_12 (n : Nat) (o : Nat) : Nat → Mem → Int32 → Option (Int32 × Mem)
  | 0, _, _ => none
  | fuel + 1, v, l1 => if (nI n) ≤ l1 then some (1, up2 (up2 v o 10 0) o 11 (-1)) else gd (inb l1 n) (fX3_endFire_12 n o fuel (up2 v (o + 17 + l1.toNatClampNeg) 2 0) (l1 + 1))
set_option maxRecDepth 100000 in
set_option maxHeartbeats 4000000 in
theorem kX3_endFire_12 {p : Program} {l : Launch} {e : Env} {s : State} {m : MethodId} {args : Array Value} {below : List Frame} {meth : Method} {c : Code} {D : va_G} {A : Nat → Prop} {cI cS cF cZ cJ : ClassId} {ad : Nat → Nat} {X : va_W} {n : Nat} {o : Nat} (G : cx p s m args meth c cX3_endFire 2 wsX3_endFire RX3 D (ty5 cI cS cF cZ cJ) A (some .boolean)) (hn : n ≤ 24) (ho : kC n o = 3) : ∀ (fuel : Nat) (v : Mem) (l1 : Int32), sk p l e rmX3_endFire s m args below meth c D A 2 0 0 (fun res => MQ below (qi D A (ty5 cI cS cF cZ cJ) (Wc cI cS cF ad n X) res) args s 0 0 A) (Wc cI cS cF ad n X v) 12 [(0, .ref (ad o)), (1, .int l1)] [] (fX3_endFire_12 n o fuel v l1) := by
  obtain ⟨F, hK, hA, hZ, hr, hlocks⟩ := G
  intro fuel
  induction fuel with
  | zero => intro v l1; exact sk_none
  | succ fuel ih =>
    intro v l1
    refine sk_eq (K' := if (nI n) ≤ l1 then some (1, up2 (up2 v o 10 0) o 11 (-1)) else gd (inb l1 n) (fX3_endFire_12 n o fuel (up2 v (o + 17 + l1.toNatClampNeg) 2 0) (l1 + 1))) rfl ?_
    refine sk_iload_n F dX3_endFire_12 rfl 1 rfl ?_
    refine sk_aload_n F dX3_endFire_13 rfl 0 rfl ?_
    refine sk_g3 (ref := "TunnelWatch$Tube") F hK ho iX3_endFire_3 0 (by decide) (by decide +kernel) (fun _ h9 => h9) rfl dX3_endFire_14 ?_
    refine sk_lenS F hK ho dX3_endFire_17 ?_
    refine sk_icmp_ge F 37 dX3_endFire_18 (by decide) (fun h5 => ?_) (fun h5 => ?_)
    · refine sk_aload_n F dX3_endFire_37 rfl 0 rfl ?_
      refine sk_iconst (x := 0) F dX3_endFire_38 (by decide) ?_
      refine sk_p3 (ref := "TunnelWatch$Tube") (ty := .int) F hK ho iX3_endFire_3 10 (by decide) (by decide +kernel) (fun _ h9 => h9) rfl (by decide +kernel) rfl rfl rfl dX3_endFire_39 ?_
      refine sk_aload_n F dX3_endFire_42 rfl 0 rfl ?_
      refine sk_iconst (x := (-1)) F dX3_endFire_43 (by decide) ?_
      refine sk_p3 (ref := "TunnelWatch$Tube") (ty := .int) F hK ho iX3_endFire_3 11 (by decide) (by decide +kernel) (fun _ h9 => h9) rfl (by decide +kernel) rfl rfl rfl dX3_endFire_44 ?_
      refine sk_iconst (x := 1) F dX3_endFire_47 (by decide) ?_
      exact sk_zretc F hK hr hlocks (by decide) dX3_endFire_48
    · refine sk_aload_n F dX3_endFire_21 rfl 0 rfl ?_
      refine sk_g3 (ref := "TunnelWatch$Tube") F hK ho iX3_endFire_3 0 (by decide) (by decide +kernel) (fun _ h9 => h9) rfl dX3_endFire_22 ?_
      refine sk_iload_n F dX3_endFire_25 rfl 1 rfl ?_
      refine sk_aldS F hK ho dX3_endFire_26 (fun h6 => ?_)
      refine sk_iconst (x := 0) F dX3_endFire_27 (by decide) ?_
      refine sk_p2 (ref := "TunnelWatch$Section") (ty := .boolean) F hK (kC_s ho hn (inb_lt h6)) iX3_endFire_2 2 (by decide) (by decide +kernel) (fun _ h9 => h9) rfl (by decide +kernel) rfl rfl rfl dX3_endFire_28 ?_
      refine sk_iinc (y := l1 + 1) F dX3_endFire_31 1 rfl rfl (by decide) rfl ?_
      refine sk_goto F 12 dX3_endFire_34 (by decide) ?_
      exact sk_lv [1, 0] rfl (ih (up2 v (o + 17 + l1.toNatClampNeg) 2 0) (l1 + 1))
def fX3_endFire (n : Nat) (o : Nat) (v : Mem) : Option (Int32 × Mem) := bd (fX3_leastOn n o v) fun x3 v2 => if x3 = (-1) then fX3_endFire_12 n o 1000 v2 0 else some (0, v2)
set_option maxRecDepth 100000 in
set_option maxHeartbeats 4000000 in
theorem kX3_endFire_0 {p : Program} {l : Launch} {e : Env} {s : State} {m : MethodId} {args : Array Value} {below : List Frame} {meth : Method} {c : Code} {D : va_G} {A : Nat → Prop} {cI cS cF cZ cJ : ClassId} {ad : Nat → Nat} {X : va_W} {n : Nat} {o : Nat} (G : cx p s m args meth c cX3_endFire 2 wsX3_endFire RX3 D (ty5 cI cS cF cZ cJ) A (some .boolean)) (hn : n ≤ 24) (ho : kC n o = 3) (v : Mem) : sk p l e rmX3_endFire s m args below meth c D A 2 0 0 (fun res => MQ below (qi D A (ty5 cI cS cF cZ cJ) (Wc cI cS cF ad n X) res) args s 0 0 A) (Wc cI cS cF ad n X v) 0 [(0, .ref (ad o))] [] (fX3_endFire n o v) := by
  obtain ⟨F, hK, hA, hZ, hr, hlocks⟩ := G
  refine sk_eq (K' := bd (fX3_leastOn n o v) fun x3 v2 => if x3 = (-1) then fX3_endFire_12 n o 1000 v2 0 else some (0, v2)) rfl ?_
  refine sk_aload_n F dX3_endFire_0 rfl 0 rfl ?_
  refine sk_callVi (As := []) (rest := []) F hK hA hZ _ (tX3_leastOn hn ho _) (cwV 0 F.2.2.2.2 gX3_endFire_X3_leastOn rfl rfl rfl (by decide +kernel) ⟨Nat.le_of_ble_eq_true rfl, Nat.le_of_ble_eq_true rfl⟩) (rc3 hK ho) rfl rfl (Nat.le_of_ble_eq_true rfl) (by decide) dX3_endFire_1 (fun x3 v2 c1 => ?_)
  refine sk_iconst (x := (-1)) F dX3_endFire_4 (by decide) ?_
  refine sk_icmp_eq F 10 dX3_endFire_5 (by decide) (fun h4 => ?_) (fun h4 => ?_)
  · refine sk_iconst (x := 0) F dX3_endFire_10 (by decide) ?_
    refine sk_istore_n F dX3_endFire_11 rfl (by decide) rfl ?_
    exact sk_lv [1, 0] rfl (kX3_endFire_12 ⟨F, hK, hA, hZ, hr, hlocks⟩ hn ho 1000 v2 0)
  · refine sk_iconst (x := 0) F dX3_endFire_8 (by decide) ?_
    exact sk_zretc F hK hr hlocks (by decide) dX3_endFire_9
theorem tX3_endFire {l : Launch} {D : va_G} {A : Nat → Prop} {cI cS cF cZ cJ : ClassId} {ad : Nat → Nat} {X : va_W} {n : Nat} (hn : n ≤ 24) {o : Nat} (ho : kC n o = 3) (v : Mem) : CI l yX3_endFire wsX3_endFire rmX3_endFire D A (ty5 cI cS cF cZ cJ) (Wc cI cS cF ad n X) [.ref (ad o)] v (fX3_endFire n o v) :=
  CI_of (cc := cX3_endFire) (maxL := 2) (ret := (some .boolean)) (by decide) rfl (Nat.le_of_ble_eq_true rfl) (fun p e s m below meth c G => kX3_endFire_0 G hn ho v)
def rmX3_want : Room := { frames := 0, cells := 0, slots := 0, locals := 0 }
theorem iX3_want_3 : ∀ w ∈ wsX30, w ∈ wsX3_want := by decide +kernel
def fX3_want (o : Nat) (p1 : Int32) (p2 : Int32) (v : Mem) : Option (Mem) := some (up2 (up2 v o 8 p1) o 9 p2)
set_option maxRecDepth 100000 in
set_option maxHeartbeats 4000000 in
theorem kX3_want_0 {p : Program} {l : Launch} {e : Env} {s : State} {m : MethodId} {args : Array Value} {below : List Frame} {meth : Method} {c : Code} {D : va_G} {A : Nat → Prop} {cI cS cF cZ cJ : ClassId} {ad : Nat → Nat} {X : va_W} {n : Nat} {o : Nat} {p1 : Int32} {p2 : Int32} (G : cx p s m args meth c cX3_want 3 wsX3_want RX3 D (ty5 cI cS cF cZ cJ) A none) (hn : n ≤ 24) (ho : kC n o = 3) (v : Mem) : sk p l e rmX3_want s m args below meth c D A 3 0 0 (fun res => MQ below (qv D A (ty5 cI cS cF cZ cJ) (Wc cI cS cF ad n X) res) args s 0 0 A) (Wc cI cS cF ad n X v) 0 [(0, .ref (ad o)), (1, .int p1), (2, .int p2)] [] (fX3_want o p1 p2 v) := by
  obtain ⟨F, hK, hA, hZ, hr, hlocks⟩ := G
  refine sk_eq (K' := some (up2 (up2 v o 8 p1) o 9 p2)) rfl ?_
  refine sk_aload_n F dX3_want_0 rfl 0 rfl ?_
  refine sk_iload_n F dX3_want_1 rfl 1 rfl ?_
  refine sk_p3 (ref := "TunnelWatch$Tube") (ty := .int) F hK ho iX3_want_3 8 (by decide) (by decide +kernel) (fun _ h9 => h9) rfl (by decide +kernel) rfl rfl rfl dX3_want_2 ?_
  refine sk_aload_n F dX3_want_5 rfl 0 rfl ?_
  refine sk_iload_n F dX3_want_6 rfl 2 rfl ?_
  refine sk_p3 (ref := "TunnelWatch$Tube") (ty := .int) F hK ho iX3_want_3 9 (by decide) (by decide +kernel) (fun _ h9 => h9) rfl (by decide +kernel) rfl rfl rfl dX3_want_7 ?_
  exact sk_vret F hK hr hlocks dX3_want_10
theorem tX3_want {l : Launch} {D : va_G} {A : Nat → Prop} {cI cS cF cZ cJ : ClassId} {ad : Nat → Nat} {X : va_W} {n : Nat} (hn : n ≤ 24) {o : Nat} {p1 : Int32} {p2 : Int32} (ho : kC n o = 3) (v : Mem) : CV l yX3_want wsX3_want rmX3_want D A (ty5 cI cS cF cZ cJ) (Wc cI cS cF ad n X) [.ref (ad o), .int p1, .int p2] v (fX3_want o p1 p2 v) :=
  CV_of (cc := cX3_want) (maxL := 3) (ret := none) (by decide) rfl (Nat.le_of_ble_eq_true rfl) (fun p e s m below meth c G => kX3_want_0 G hn ho v)
end
section
def rmX3_settleDevices : Room := { frames := 3, cells := 0, slots := 0, locals := 64 }
theorem iX3_settleDevices_3 : ∀ w ∈ wsX30, w ∈ wsX3_settleDevices := by decide +kernel
def fX3_settleDevices_18 (o : Nat) (p1 : Int32) : Nat → Mem → Int32 → Option (Mem)
  | 0, _, _ => none
  | fuel + 1, v, l2 => if (v o 4) ≤ l2 then some v else gd (inb l2 12) ((fX0_act (o + 5 + l2.toNatClampNeg) p1 v).bind fun v10 => gd (inb l2 12) ((fX1_judgeOut (o + 5 + l2.toNatClampNeg) p1 v10).bind fun v14 => fX3_settleDevices_18 o p1 fuel v14 (l2 + 1)))
set_option maxRecDepth 100000 in
set_option maxHeartbeats 4000000 in
theorem kX3_settleDevices_18 {p : Program} {l : Launch} {e : Env} {s : State} {m : MethodId} {args : Array Value} {below : List Frame} {meth : Method} {c : Code} {D : va_G} {A : Nat → Prop} {cI cS cF cZ cJ : ClassId} {ad : Nat → Nat} {X : va_W} {n : Nat} {o : Nat} {p1 : Int32} (G : cx p s m args meth c cX3_settleDevices 3 wsX3_settleDevices RX3 D (ty5 cI cS cF cZ cJ) A none) (hn : n ≤ 24) (ho : kC n o = 3) : ∀ (fuel : Nat) (v : Mem) (l2 : Int32), sk p l e rmX3_settleDevices s m args below meth c D A 3 0 0 (fun res => MQ below (qv D A (ty5 cI cS cF cZ cJ) (Wc cI cS cF ad n X) res) args s 0 0 A) (Wc cI cS cF ad n X v) 18 [(0, .ref (ad o)), (1, .int p1), (2, .int l2)] [] (fX3_settleDevices_18 o p1 fuel v l2) := by
  obtain ⟨F, hK, hA, hZ, hr, hlocks⟩ := G
  intro fuel
  induction fuel with
  | zero => intro v l2; exact sk_none
  | succ fuel ih =>
    intro v l2
    refine sk_eq (K' := if (v o 4) ≤ l2 then some v else gd (inb l2 12) ((fX0_act (o + 5 + l2.toNatClampNeg) p1 v).bind fun v10 => gd (inb l2 12) ((fX1_judgeOut (o + 5 + l2.toNatClampNeg) p1 v10).bind fun v14 => fX3_settleDevices_18 o p1 fuel v14 (l2 + 1)))) rfl ?_
    refine sk_iload_n F dX3_settleDevices_18 rfl 2 rfl ?_
    refine sk_aload_n F dX3_settleDevices_19 rfl 0 rfl ?_
    refine sk_g3 (ref := "TunnelWatch$Tube") F hK ho iX3_settleDevices_3 4 (by decide) (by decide +kernel) (fun _ h9 => h9) rfl dX3_settleDevices_20 ?_
    refine sk_icmp_ge F 52 dX3_settleDevices_23 (by decide) (fun h7 => ?_) (fun h7 => ?_)
    · exact sk_vret F hK hr hlocks dX3_settleDevices_52
    · refine sk_aload_n F dX3_settleDevices_26 rfl 0 rfl ?_
      refine sk_g3 (ref := "TunnelWatch$Tube") F hK ho iX3_settleDevices_3 3 (by decide) (by decide +kernel) (fun _ h9 => h9) rfl dX3_settleDevices_27 ?_
      refine sk_iload_n F dX3_settleDevices_30 rfl 2 rfl ?_
      refine sk_aldF F hK ho dX3_settleDevices_31 (fun h8 => ?_)
      refine sk_iload_n F dX3_settleDevices_32 rfl 1 rfl ?_
      refine sk_callUv (As := [.int p1]) (rest := []) F hK hA hZ _ (tX0_act hn (Or.inr (kC_f ho (inb_lt h8))) _) (va_cwU 1 F.2.2.2.2 gX3_settleDevices_X0_act_u98X1 rfl rfl rfl rfl (by decide +kernel) ⟨Nat.le_of_ble_eq_true rfl, Nat.le_of_ble_eq_true rfl⟩) (rc1 hK (kC_f ho (inb_lt h8))) rfl rfl (Nat.le_of_ble_eq_true rfl) (by decide) dX3_settleDevices_33 (fun v10 c9 => ?_)
      refine sk_aload_n F dX3_settleDevices_36 rfl 0 rfl ?_
      refine sk_g3 (ref := "TunnelWatch$Tube") F hK ho iX3_settleDevices_3 3 (by decide) (by decide +kernel) (fun _ h9 => h9) rfl dX3_settleDevices_37 ?_
      refine sk_iload_n F dX3_settleDevices_40 rfl 2 rfl ?_
      refine sk_aldF F hK ho dX3_settleDevices_41 (fun h12 => ?_)
      refine sk_iload_n F dX3_settleDevices_42 rfl 1 rfl ?_
      refine sk_callVv (As := [.int p1]) (rest := []) F hK hA hZ _ (tX1_judgeOut hn (kC_f ho (inb_lt h12)) _) (cwV 1 F.2.2.2.2 gX3_settleDevices_X1_judgeOut rfl rfl rfl (by decide +kernel) ⟨Nat.le_of_ble_eq_true rfl, Nat.le_of_ble_eq_true rfl⟩) (rc1 hK (kC_f ho (inb_lt h12))) rfl rfl (Nat.le_of_ble_eq_true rfl) (by decide) dX3_settleDevices_43 (fun v14 c13 => ?_)
      refine sk_iinc (y := l2 + 1) F dX3_settleDevices_46 2 rfl rfl (by decide) rfl ?_
      refine sk_goto F 18 dX3_settleDevices_49 (by decide) ?_
      exact sk_lv [1, 2, 0] rfl (ih v14 (l2 + 1))
def fX3_settleDevices (o : Nat) (p1 : Int32) (v : Mem) : Option (Mem) := (fX0_act (o + 3) p1 v).bind fun v2 => (fX0_act (o + 4) p1 v2).bind fun v5 => fX3_settleDevices_18 o p1 1000 v5 0
set_option maxRecDepth 100000 in
set_option maxHeartbeats 4000000 in
theorem kX3_settleDevices_0 {p : Program} {l : Launch} {e : Env} {s : State} {m : MethodId} {args : Array Value} {below : List Frame} {meth : Method} {c : Code} {D : va_G} {A : Nat → Prop} {cI cS cF cZ cJ : ClassId} {ad : Nat → Nat} {X : va_W} {n : Nat} {o : Nat} {p1 : Int32} (G : cx p s m args meth c cX3_settleDevices 3 wsX3_settleDevices RX3 D (ty5 cI cS cF cZ cJ) A none) (hn : n ≤ 24) (ho : kC n o = 3) (v : Mem) : sk p l e rmX3_settleDevices s m args below meth c D A 3 0 0 (fun res => MQ below (qv D A (ty5 cI cS cF cZ cJ) (Wc cI cS cF ad n X) res) args s 0 0 A) (Wc cI cS cF ad n X v) 0 [(0, .ref (ad o)), (1, .int p1)] [] (fX3_settleDevices o p1 v) := by
  obtain ⟨F, hK, hA, hZ, hr, hlocks⟩ := G
  refine sk_eq (K' := (fX0_act (o + 3) p1 v).bind fun v2 => (fX0_act (o + 4) p1 v2).bind fun v5 => fX3_settleDevices_18 o p1 1000 v5 0) rfl ?_
  refine sk_aload_n F dX3_settleDevices_0 rfl 0 rfl ?_
  refine sk_g3 (ref := "TunnelWatch$Tube") F hK ho iX3_settleDevices_3 1 (by decide) (by decide +kernel) (fun _ h9 => h9) rfl dX3_settleDevices_1 ?_
  refine sk_iload_n F dX3_settleDevices_4 rfl 1 rfl ?_
  refine sk_callVv (As := [.int p1]) (rest := []) F hK hA hZ _ (tX0_act hn (Or.inl (kC_sig ho)) _) (cwV 1 F.2.2.2.2 gX3_settleDevices_X0_act rfl rfl rfl (by decide +kernel) ⟨Nat.le_of_ble_eq_true rfl, Nat.le_of_ble_eq_true rfl⟩) (rc0 hK (kC_sig ho)) rfl rfl (Nat.le_of_ble_eq_true rfl) (by decide) dX3_settleDevices_5 (fun v2 c1 => ?_)
  refine sk_aload_n F dX3_settleDevices_8 rfl 0 rfl ?_
  refine sk_g3 (ref := "TunnelWatch$Tube") F hK ho iX3_settleDevices_3 2 (by decide) (by decide +kernel) (fun _ h9 => h9) rfl dX3_settleDevices_9 ?_
  refine sk_iload_n F dX3_settleDevices_12 rfl 1 rfl ?_
  refine sk_callVv (As := [.int p1]) (rest := []) F hK hA hZ _ (tX0_act hn (Or.inl (kC_bar ho)) _) (cwV 1 F.2.2.2.2 gX3_settleDevices_X0_act rfl rfl rfl (by decide +kernel) ⟨Nat.le_of_ble_eq_true rfl, Nat.le_of_ble_eq_true rfl⟩) (rc0 hK (kC_bar ho)) rfl rfl (Nat.le_of_ble_eq_true rfl) (by decide) dX3_settleDevices_13 (fun v5 c4 => ?_)
  refine sk_iconst (x := 0) F dX3_settleDevices_16 (by decide) ?_
  refine sk_istore_n F dX3_settleDevices_17 rfl (by decide) rfl ?_
  exact sk_lv [1, 2, 0] rfl (kX3_settleDevices_18 ⟨F, hK, hA, hZ, hr, hlocks⟩ hn ho 1000 v5 0)
theorem tX3_settleDevices {l : Launch} {D : va_G} {A : Nat → Prop} {cI cS cF cZ cJ : ClassId} {ad : Nat → Nat} {X : va_W} {n : Nat} (hn : n ≤ 24) {o : Nat} {p1 : Int32} (ho : kC n o = 3) (v : Mem) : CV l yX3_settleDevices wsX3_settleDevices rmX3_settleDevices D A (ty5 cI cS cF cZ cJ) (Wc cI cS cF ad n X) [.ref (ad o), .int p1] v (fX3_settleDevices o p1 v) :=
  CV_of (cc := cX3_settleDevices) (maxL := 3) (ret := none) (by decide) rfl (Nat.le_of_ble_eq_true rfl) (fun p e s m below meth c G => kX3_settleDevices_0 G hn ho v)
def rmX3_isHalted : Room := { frames := 0, cells := 0, slots := 0, locals := 0 }
theorem iX3_isHalted_0 : ∀ w ∈ wsX00, w ∈ wsX3_isHalted := by decide +kernel
theorem iX3_isHalted_3 : ∀ w ∈ wsX30, w ∈ wsX3_isHalted := by decide +kernel
def fX3_isHalted_40 (o : Nat) (p1 : Int32) (v : Mem) : Option (Int32 × Mem) := some (0, v)
set_option maxRecDepth 100000 in
set_option maxHeartbeats 4000000 in
theorem kX3_isHalted_40 {p : Program} {l : Launch} {e : Env} {s : State} {m : MethodId} {args : Array Value} {below : List Frame} {meth : Method} {c : Code} {D : va_G} {A : Nat → Prop} {cI cS cF cZ cJ : ClassId} {ad : Nat → Nat} {X : va_W} {n : Nat} {o : Nat} {p1 : Int32} (G : cx p s m args meth c cX3_isHalted 2 wsX3_isHalted RX3 D (ty5 cI cS cF cZ cJ) A (some .boolean)) (hn : n ≤ 24) (ho : kC n o = 3) (v : Mem) : sk p l e rmX3_isHalted s m args below meth c D A 2 0 0 (fun res => MQ below (qi D A (ty5 cI cS cF cZ cJ) (Wc cI cS cF ad n X) res) args s 0 0 A) (Wc cI cS cF ad n X v) 40 [] [] (fX3_isHalted_40 o p1 v) := by
  obtain ⟨F, hK, hA, hZ, hr, hlocks⟩ := G
  refine sk_eq (K' := some (0, v)) rfl ?_
  refine sk_iconst (x := 0) F dX3_isHalted_40 (by decide) ?_
  exact sk_zretc F hK hr hlocks (by decide) dX3_isHalted_41
def fX3_isHalted (o : Nat) (p1 : Int32) (v : Mem) : Option (Int32 × Mem) := if (v (o + 3) 0) = 1 then if (v (o + 3) 1) = 1 then some (1, v) else if (p1 - (v (o + 3) 2)) < 60 then fX3_isHalted_40 o p1 v else some (1, v) else fX3_isHalted_40 o p1 v
set_option maxRecDepth 100000 in
set_option maxHeartbeats 4000000 in
theorem kX3_isHalted_0 {p : Program} {l : Launch} {e : Env} {s : State} {m : MethodId} {args : Array Value} {below : List Frame} {meth : Method} {c : Code} {D : va_G} {A : Nat → Prop} {cI cS cF cZ cJ : ClassId} {ad : Nat → Nat} {X : va_W} {n : Nat} {o : Nat} {p1 : Int32} (G : cx p s m args meth c cX3_isHalted 2 wsX3_isHalted RX3 D (ty5 cI cS cF cZ cJ) A (some .boolean)) (hn : n ≤ 24) (ho : kC n o = 3) (v : Mem) : sk p l e rmX3_isHalted s m args below meth c D A 2 0 0 (fun res => MQ below (qi D A (ty5 cI cS cF cZ cJ) (Wc cI cS cF ad n X) res) args s 0 0 A) (Wc cI cS cF ad n X v) 0 [(0, .ref (ad o)), (1, .int p1)] [] (fX3_isHalted o p1 v) := by
  obtain ⟨F, hK, hA, hZ, hr, hlocks⟩ := G
  refine sk_eq (K' := if (v (o + 3) 0) = 1 then if (v (o + 3) 1) = 1 then some (1, v) else if (p1 - (v (o + 3) 2)) < 60 then fX3_isHalted_40 o p1 v else some (1, v) else fX3_isHalted_40 o p1 v) rfl ?_
  refine sk_aload_n F dX3_isHalted_0 rfl 0 rfl ?_
  refine sk_g3 (ref := "TunnelWatch$Tube") F hK ho iX3_isHalted_3 1 (by decide) (by decide +kernel) (fun _ h9 => h9) rfl dX3_isHalted_1 ?_
  refine sk_g0 (ref := "TunnelWatch$Device") F hK (kC_sig ho) iX3_isHalted_0 0 (by decide) (by decide +kernel) (fun _ h9 => h9) rfl dX3_isHalted_4 ?_
  refine sk_iconst (x := 1) F dX3_isHalted_7 (by decide) ?_
  refine sk_icmp_ne F 40 dX3_isHalted_8 (by decide) (fun h1 => ?_) (fun h1 => ?_)
  · exact sk_lv [] rfl (kX3_isHalted_40 ⟨F, hK, hA, hZ, hr, hlocks⟩ hn ho v)
  · refine sk_aload_n F dX3_isHalted_11 rfl 0 rfl ?_
    refine sk_g3 (ref := "TunnelWatch$Tube") F hK ho iX3_isHalted_3 1 (by decide) (by decide +kernel) (fun _ h9 => h9) rfl dX3_isHalted_12 ?_
    refine sk_g0 (ref := "TunnelWatch$Device") F hK (kC_sig ho) iX3_isHalted_0 1 (by decide) (by decide +kernel) (fun _ h9 => h9) rfl dX3_isHalted_15 ?_
    refine sk_iconst (x := 1) F dX3_isHalted_18 (by decide) ?_
    refine sk_icmp_eq F 36 dX3_isHalted_19 (by decide) (fun h2 => ?_) (fun h2 => ?_)
    · refine sk_iconst (x := 1) F dX3_isHalted_36 (by decide) ?_
      refine sk_goto F 41 dX3_isHalted_37 (by decide) ?_
      exact sk_zretc F hK hr hlocks (by decide) dX3_isHalted_41
    · refine sk_iload_n F dX3_isHalted_22 rfl 1 rfl ?_
      refine sk_aload_n F dX3_isHalted_23 rfl 0 rfl ?_
      refine sk_g3 (ref := "TunnelWatch$Tube") F hK ho iX3_isHalted_3 1 (by decide) (by decide +kernel) (fun _ h9 => h9) rfl dX3_isHalted_24 ?_
      refine sk_g0 (ref := "TunnelWatch$Device") F hK (kC_sig ho) iX3_isHalted_0 2 (by decide) (by decide +kernel) (fun _ h9 => h9) rfl dX3_isHalted_27 ?_
      refine sk_isub F dX3_isHalted_30 ?_
      refine sk_bipush (x := 60) F dX3_isHalted_31 (by decide) ?_
      refine sk_icmp_lt F 40 dX3_isHalted_33 (by decide) (fun h3 => ?_) (fun h3 => ?_)
      · exact sk_lv [] rfl (kX3_isHalted_40 ⟨F, hK, hA, hZ, hr, hlocks⟩ hn ho v)
      · refine sk_iconst (x := 1) F dX3_isHalted_36 (by decide) ?_
        refine sk_goto F 41 dX3_isHalted_37 (by decide) ?_
        exact sk_zretc F hK hr hlocks (by decide) dX3_isHalted_41
theorem tX3_isHalted {l : Launch} {D : va_G} {A : Nat → Prop} {cI cS cF cZ cJ : ClassId} {ad : Nat → Nat} {X : va_W} {n : Nat} (hn : n ≤ 24) {o : Nat} {p1 : Int32} (ho : kC n o = 3) (v : Mem) : CI l yX3_isHalted wsX3_isHalted rmX3_isHalted D A (ty5 cI cS cF cZ cJ) (Wc cI cS cF ad n X) [.ref (ad o), .int p1] v (fX3_isHalted o p1 v) :=
  CI_of (cc := cX3_isHalted) (maxL := 2) (ret := (some .boolean)) (by decide) rfl (Nat.le_of_ble_eq_true rfl) (fun p e s m below meth c G => kX3_isHalted_0 G hn ho v)
def rmX3_commandTraffic : Room := { frames := 1, cells := 0, slots := 0, locals := 22 }
theorem iX3_commandTraffic_0 : ∀ w ∈ wsX00, w ∈ wsX3_commandTraffic := by decide +kernel
theorem iX3_commandTraffic_3 : ∀ w ∈ wsX30, w ∈ wsX3_commandTraffic := by decide +kernel
def fX3_commandTraffic_120 (o : Nat) (p1 : Int32) (p2 : Int32) (v : Mem) (s0 : Int32) (s1 : Nat) : Option (Mem) := (fX0_send s1 s0 p2 v).bind fun v19 => some v19
set_option maxRecDepth 100000 in
set_option maxHeartbeats 4000000 in
theorem kX3_commandTraffic_120 {p : Program} {l : Launch} {e : Env} {s : State} {m : MethodId} {args : Array Value} {below : List Frame} {meth : Method} {c : Code} {D : va_G} {A : Nat → Prop} {cI cS cF cZ cJ : ClassId} {ad : Nat → Nat} {X : va_W} {n : Nat} {o : Nat} {p1 : Int32} {p2 : Int32} (G : cx p s m args meth c cX3_commandTraffic 6 wsX3_commandTraffic RX3 D (ty5 cI cS cF cZ cJ) A none) (hn : n ≤ 24) (ho : kC n o = 3) (v : Mem) (s0 : Int32) (s1 : Nat) (hs1 : kC n s1 = 0) : sk p l e rmX3_commandTraffic s m args below meth c D A 6 0 0 (fun res => MQ below (qv D A (ty5 cI cS cF cZ cJ) (Wc cI cS cF ad n X) res) args s 0 0 A) (Wc cI cS cF ad n X v) 120 [(2, .int p2)] [.int s0, .ref (ad s1)] (fX3_commandTraffic_120 o p1 p2 v s0 s1) := by
  obtain ⟨F, hK, hA, hZ, hr, hlocks⟩ := G
  refine sk_eq (K' := (fX0_send s1 s0 p2 v).bind fun v19 => some v19) rfl ?_
  refine sk_iload_n F dX3_commandTraffic_120 rfl 0 rfl ?_
  refine sk_callVv (As := [.int s0, .int p2]) (rest := []) F hK hA hZ _ (tX0_send hn (Or.inl hs1) _) (cwV 2 F.2.2.2.2 gX3_commandTraffic_X0_send rfl rfl rfl (by decide +kernel) ⟨Nat.le_of_ble_eq_true rfl, Nat.le_of_ble_eq_true rfl⟩) (rc0 hK hs1) rfl rfl (Nat.le_of_ble_eq_true rfl) (by decide) dX3_commandTraffic_121 (fun v19 c18 => ?_)
  exact sk_vret F hK hr hlocks dX3_commandTraffic_124
def fX3_commandTraffic_104 (o : Nat) (p1 : Int32) (p2 : Int32) (v : Mem) (s0 : Int32) : Option (Mem) := if s0 = 0 then fX3_commandTraffic_120 o p1 p2 v 0 (o + 4) else fX3_commandTraffic_120 o p1 p2 v 1 (o + 4)
set_option maxRecDepth 100000 in
set_option maxHeartbeats 4000000 in
theorem kX3_commandTraffic_104 {p : Program} {l : Launch} {e : Env} {s : State} {m : MethodId} {args : Array Value} {below : List Frame} {meth : Method} {c : Code} {D : va_G} {A : Nat → Prop} {cI cS cF cZ cJ : ClassId} {ad : Nat → Nat} {X : va_W} {n : Nat} {o : Nat} {p1 : Int32} {p2 : Int32} (G : cx p s m args meth c cX3_commandTraffic 6 wsX3_commandTraffic RX3 D (ty5 cI cS cF cZ cJ) A none) (hn : n ≤ 24) (ho : kC n o = 3) (v : Mem) (s0 : Int32) : sk p l e rmX3_commandTraffic s m args below meth c D A 6 0 0 (fun res => MQ below (qv D A (ty5 cI cS cF cZ cJ) (Wc cI cS cF ad n X) res) args s 0 0 A) (Wc cI cS cF ad n X v) 104 [(0, .ref (ad o)), (2, .int p2)] [.int s0] (fX3_commandTraffic_104 o p1 p2 v s0) := by
  obtain ⟨F, hK, hA, hZ, hr, hlocks⟩ := G
  refine sk_eq (K' := if s0 = 0 then fX3_commandTraffic_120 o p1 p2 v 0 (o + 4) else fX3_commandTraffic_120 o p1 p2 v 1 (o + 4)) rfl ?_
  refine sk_istore F dX3_commandTraffic_104 (by decide) rfl ?_
  refine sk_aload_n F dX3_commandTraffic_106 rfl 1 rfl ?_
  refine sk_g3 (ref := "TunnelWatch$Tube") F hK ho iX3_commandTraffic_3 2 (by decide) (by decide +kernel) (fun _ h9 => h9) rfl dX3_commandTraffic_107 ?_
  refine sk_iload F dX3_commandTraffic_110 0 rfl ?_
  refine sk_if_eq F 119 dX3_commandTraffic_112 (by decide) (fun h17 => ?_) (fun h17 => ?_)
  · refine sk_iconst (x := 0) F dX3_commandTraffic_119 (by decide) ?_
    exact sk_lv [2] rfl (kX3_commandTraffic_120 ⟨F, hK, hA, hZ, hr, hlocks⟩ hn ho v 0 (o + 4) (kC_bar ho))
  · refine sk_iconst (x := 1) F dX3_commandTraffic_115 (by decide) ?_
    refine sk_goto F 120 dX3_commandTraffic_116 (by decide) ?_
    exact sk_lv [2] rfl (kX3_commandTraffic_120 ⟨F, hK, hA, hZ, hr, hlocks⟩ hn ho v 1 (o + 4) (kC_bar ho))
def fX3_commandTraffic_103 (o : Nat) (p1 : Int32) (p2 : Int32) (v : Mem) : Option (Mem) := fX3_commandTraffic_104 o p1 p2 v 0
set_option maxRecDepth 100000 in
set_option maxHeartbeats 4000000 in
theorem kX3_commandTraffic_103 {p : Program} {l : Launch} {e : Env} {s : State} {m : MethodId} {args : Array Value} {below : List Frame} {meth : Method} {c : Code} {D : va_G} {A : Nat → Prop} {cI cS cF cZ cJ : ClassId} {ad : Nat → Nat} {X : va_W} {n : Nat} {o : Nat} {p1 : Int32} {p2 : Int32} (G : cx p s m args meth c cX3_commandTraffic 6 wsX3_commandTraffic RX3 D (ty5 cI cS cF cZ cJ) A none) (hn : n ≤ 24) (ho : kC n o = 3) (v : Mem) : sk p l e rmX3_commandTraffic s m args below meth c D A 6 0 0 (fun res => MQ below (qv D A (ty5 cI cS cF cZ cJ) (Wc cI cS cF ad n X) res) args s 0 0 A) (Wc cI cS cF ad n X v) 103 [(0, .ref (ad o)), (2, .int p2)] [] (fX3_commandTraffic_103 o p1 p2 v) := by
  obtain ⟨F, hK, hA, hZ, hr, hlocks⟩ := G
  refine sk_eq (K' := fX3_commandTraffic_104 o p1 p2 v 0) rfl ?_
  refine sk_iconst (x := 0) F dX3_commandTraffic_103 (by decide) ?_
  exact kX3_commandTraffic_104 ⟨F, hK, hA, hZ, hr, hlocks⟩ hn ho v 0
def fX3_commandTraffic_72 (o : Nat) (p1 : Int32) (p2 : Int32) (v : Mem) (s0 : Int32) (s1 : Nat) : Option (Mem) := (fX0_send s1 s0 p2 v).bind fun v9 => if p1 = 0 then fX3_commandTraffic_103 o p1 p2 v9 else if (v9 (o + 4) 0) = 1 then fX3_commandTraffic_104 o p1 p2 v9 1 else bd (fX3_isHalted o p2 v9) fun x15 v14 => if x15 = 0 then fX3_commandTraffic_103 o p1 p2 v14 else fX3_commandTraffic_104 o p1 p2 v14 1
set_option maxRecDepth 100000 in
set_option maxHeartbeats 4000000 in
theorem kX3_commandTraffic_72 {p : Program} {l : Launch} {e : Env} {s : State} {m : MethodId} {args : Array Value} {below : List Frame} {meth : Method} {c : Code} {D : va_G} {A : Nat → Prop} {cI cS cF cZ cJ : ClassId} {ad : Nat → Nat} {X : va_W} {n : Nat} {o : Nat} {p1 : Int32} {p2 : Int32} (G : cx p s m args meth c cX3_commandTraffic 6 wsX3_commandTraffic RX3 D (ty5 cI cS cF cZ cJ) A none) (hn : n ≤ 24) (ho : kC n o = 3) (v : Mem) (s0 : Int32) (s1 : Nat) (hs1 : kC n s1 = 0) : sk p l e rmX3_commandTraffic s m args below meth c D A 6 0 0 (fun res => MQ below (qv D A (ty5 cI cS cF cZ cJ) (Wc cI cS cF ad n X) res) args s 0 0 A) (Wc cI cS cF ad n X v) 72 [(0, .ref (ad o)), (1, .int p1), (2, .int p2)] [.int s0, .ref (ad s1)] (fX3_commandTraffic_72 o p1 p2 v s0 s1) := by
  obtain ⟨F, hK, hA, hZ, hr, hlocks⟩ := G
  refine sk_eq (K' := (fX0_send s1 s0 p2 v).bind fun v9 => if p1 = 0 then fX3_commandTraffic_103 o p1 p2 v9 else if (v9 (o + 4) 0) = 1 then fX3_commandTraffic_104 o p1 p2 v9 1 else bd (fX3_isHalted o p2 v9) fun x15 v14 => if x15 = 0 then fX3_commandTraffic_103 o p1 p2 v14 else fX3_commandTraffic_104 o p1 p2 v14 1) rfl ?_
  refine sk_iload_n F dX3_commandTraffic_72 rfl 2 rfl ?_
  refine sk_callVv (As := [.int s0, .int p2]) (rest := []) F hK hA hZ _ (tX0_send hn (Or.inl hs1) _) (cwV 2 F.2.2.2.2 gX3_commandTraffic_X0_send rfl rfl rfl (by decide +kernel) ⟨Nat.le_of_ble_eq_true rfl, Nat.le_of_ble_eq_true rfl⟩) (rc0 hK hs1) rfl rfl (Nat.le_of_ble_eq_true rfl) (by decide) dX3_commandTraffic_73 (fun v9 c8 => ?_)
  refine sk_iload_n F dX3_commandTraffic_76 rfl 1 rfl ?_
  refine sk_if_eq F 103 dX3_commandTraffic_77 (by decide) (fun h11 => ?_) (fun h11 => ?_)
  · exact sk_lv [0, 2] rfl (kX3_commandTraffic_103 ⟨F, hK, hA, hZ, hr, hlocks⟩ hn ho v9)
  · refine sk_aload_n F dX3_commandTraffic_80 rfl 0 rfl ?_
    refine sk_g3 (ref := "TunnelWatch$Tube") F hK ho iX3_commandTraffic_3 2 (by decide) (by decide +kernel) (fun _ h9 => h9) rfl dX3_commandTraffic_81 ?_
    refine sk_g0 (ref := "TunnelWatch$Device") F hK (kC_bar ho) iX3_commandTraffic_0 0 (by decide) (by decide +kernel) (fun _ h9 => h9) rfl dX3_commandTraffic_84 ?_
    refine sk_iconst (x := 1) F dX3_commandTraffic_87 (by decide) ?_
    refine sk_icmp_eq F 99 dX3_commandTraffic_88 (by decide) (fun h12 => ?_) (fun h12 => ?_)
    · refine sk_iconst (x := 1) F dX3_commandTraffic_99 (by decide) ?_
      refine sk_goto F 104 dX3_commandTraffic_100 (by decide) ?_
      exact sk_lv [0, 2] rfl (kX3_commandTraffic_104 ⟨F, hK, hA, hZ, hr, hlocks⟩ hn ho v9 1)
    · refine sk_aload_n F dX3_commandTraffic_91 rfl 0 rfl ?_
      refine sk_iload_n F dX3_commandTraffic_92 rfl 2 rfl ?_
      refine sk_callVi (As := [.int p2]) (rest := []) F hK hA hZ _ (tX3_isHalted hn ho _) (cwV 1 F.2.2.2.2 gX3_commandTraffic_X3_isHalted rfl rfl rfl (by decide +kernel) ⟨Nat.le_of_ble_eq_true rfl, Nat.le_of_ble_eq_true rfl⟩) (rc3 hK ho) rfl rfl (Nat.le_of_ble_eq_true rfl) (by decide) dX3_commandTraffic_93 (fun x15 v14 c13 => ?_)
      refine sk_if_eq F 103 dX3_commandTraffic_96 (by decide) (fun h16 => ?_) (fun h16 => ?_)
      · exact sk_lv [0, 2] rfl (kX3_commandTraffic_103 ⟨F, hK, hA, hZ, hr, hlocks⟩ hn ho v14)
      · refine sk_iconst (x := 1) F dX3_commandTraffic_99 (by decide) ?_
        refine sk_goto F 104 dX3_commandTraffic_100 (by decide) ?_
        exact sk_lv [0, 2] rfl (kX3_commandTraffic_104 ⟨F, hK, hA, hZ, hr, hlocks⟩ hn ho v14 1)
def fX3_commandTraffic_56 (o : Nat) (p1 : Int32) (p2 : Int32) (v : Mem) (s0 : Int32) : Option (Mem) := if s0 = 0 then fX3_commandTraffic_72 o p1 p2 v 0 (o + 3) else fX3_commandTraffic_72 o p1 p2 v 1 (o + 3)
set_option maxRecDepth 100000 in
set_option maxHeartbeats 4000000 in
theorem kX3_commandTraffic_56 {p : Program} {l : Launch} {e : Env} {s : State} {m : MethodId} {args : Array Value} {below : List Frame} {meth : Method} {c : Code} {D : va_G} {A : Nat → Prop} {cI cS cF cZ cJ : ClassId} {ad : Nat → Nat} {X : va_W} {n : Nat} {o : Nat} {p1 : Int32} {p2 : Int32} (G : cx p s m args meth c cX3_commandTraffic 6 wsX3_commandTraffic RX3 D (ty5 cI cS cF cZ cJ) A none) (hn : n ≤ 24) (ho : kC n o = 3) (v : Mem) (s0 : Int32) : sk p l e rmX3_commandTraffic s m args below meth c D A 6 0 0 (fun res => MQ below (qv D A (ty5 cI cS cF cZ cJ) (Wc cI cS cF ad n X) res) args s 0 0 A) (Wc cI cS cF ad n X v) 56 [(0, .ref (ad o)), (1, .int p1), (2, .int p2)] [.int s0] (fX3_commandTraffic_56 o p1 p2 v s0) := by
  obtain ⟨F, hK, hA, hZ, hr, hlocks⟩ := G
  refine sk_eq (K' := if s0 = 0 then fX3_commandTraffic_72 o p1 p2 v 0 (o + 3) else fX3_commandTraffic_72 o p1 p2 v 1 (o + 3)) rfl ?_
  refine sk_istore F dX3_commandTraffic_56 (by decide) rfl ?_
  refine sk_aload_n F dX3_commandTraffic_58 rfl 1 rfl ?_
  refine sk_g3 (ref := "TunnelWatch$Tube") F hK ho iX3_commandTraffic_3 1 (by decide) (by decide +kernel) (fun _ h9 => h9) rfl dX3_commandTraffic_59 ?_
  refine sk_iload F dX3_commandTraffic_62 0 rfl ?_
  refine sk_if_eq F 71 dX3_commandTraffic_64 (by decide) (fun h7 => ?_) (fun h7 => ?_)
  · refine sk_iconst (x := 0) F dX3_commandTraffic_71 (by decide) ?_
    exact sk_lv [1, 2, 3] rfl (kX3_commandTraffic_72 ⟨F, hK, hA, hZ, hr, hlocks⟩ hn ho v 0 (o + 3) (kC_sig ho))
  · refine sk_iconst (x := 1) F dX3_commandTraffic_67 (by decide) ?_
    refine sk_goto F 72 dX3_commandTraffic_68 (by decide) ?_
    exact sk_lv [1, 2, 3] rfl (kX3_commandTraffic_72 ⟨F, hK, hA, hZ, hr, hlocks⟩ hn ho v 1 (o + 3) (kC_sig ho))
def fX3_commandTraffic_27 (o : Nat) (p1 : Int32) (p2 : Int32) (v : Mem) (s0 : Int32) : Option (Mem) := if p1 = 0 then if (v o 10) = 1 then fX3_commandTraffic_56 o p1 p2 v 1 else if (v o 5) = 0 then if s0 = 0 then fX3_commandTraffic_56 o p1 p2 v 0 else fX3_commandTraffic_56 o p1 p2 v 1 else fX3_commandTraffic_56 o p1 p2 v 1 else fX3_commandTraffic_56 o p1 p2 v 1
set_option maxRecDepth 100000 in
set_option maxHeartbeats 4000000 in
theorem kX3_commandTraffic_27 {p : Program} {l : Launch} {e : Env} {s : State} {m : MethodId} {args : Array Value} {below : List Frame} {meth : Method} {c : Code} {D : va_G} {A : Nat → Prop} {cI cS cF cZ cJ : ClassId} {ad : Nat → Nat} {X : va_W} {n : Nat} {o : Nat} {p1 : Int32} {p2 : Int32} (G : cx p s m args meth c cX3_commandTraffic 6 wsX3_commandTraffic RX3 D (ty5 cI cS cF cZ cJ) A none) (hn : n ≤ 24) (ho : kC n o = 3) (v : Mem) (s0 : Int32) : sk p l e rmX3_commandTraffic s m args below meth c D A 6 0 0 (fun res => MQ below (qv D A (ty5 cI cS cF cZ cJ) (Wc cI cS cF ad n X) res) args s 0 0 A) (Wc cI cS cF ad n X v) 27 [(0, .ref (ad o)), (1, .int p1), (2, .int p2)] [.int s0] (fX3_commandTraffic_27 o p1 p2 v s0) := by
  obtain ⟨F, hK, hA, hZ, hr, hlocks⟩ := G
  refine sk_eq (K' := if p1 = 0 then if (v o 10) = 1 then fX3_commandTraffic_56 o p1 p2 v 1 else if (v o 5) = 0 then if s0 = 0 then fX3_commandTraffic_56 o p1 p2 v 0 else fX3_commandTraffic_56 o p1 p2 v 1 else fX3_commandTraffic_56 o p1 p2 v 1 else fX3_commandTraffic_56 o p1 p2 v 1) rfl ?_
  refine sk_istore_n F dX3_commandTraffic_27 rfl (by decide) rfl ?_
  refine sk_iload_n F dX3_commandTraffic_28 rfl 2 rfl ?_
  refine sk_if_ne F 51 dX3_commandTraffic_29 (by decide) (fun h3 => ?_) (fun h3 => ?_)
  · refine sk_iconst (x := 1) F dX3_commandTraffic_51 (by decide) ?_
    refine sk_goto F 56 dX3_commandTraffic_52 (by decide) ?_
    exact sk_lv [1, 2, 3] rfl (kX3_commandTraffic_56 ⟨F, hK, hA, hZ, hr, hlocks⟩ hn ho v 1)
  · refine sk_aload_n F dX3_commandTraffic_32 rfl 1 rfl ?_
    refine sk_g3 (ref := "TunnelWatch$Tube") F hK ho iX3_commandTraffic_3 10 (by decide) (by decide +kernel) (fun _ h9 => h9) rfl dX3_commandTraffic_33 ?_
    refine sk_iconst (x := 1) F dX3_commandTraffic_36 (by decide) ?_
    refine sk_icmp_eq F 51 dX3_commandTraffic_37 (by decide) (fun h4 => ?_) (fun h4 => ?_)
    · refine sk_iconst (x := 1) F dX3_commandTraffic_51 (by decide) ?_
      refine sk_goto F 56 dX3_commandTraffic_52 (by decide) ?_
      exact sk_lv [1, 2, 3] rfl (kX3_commandTraffic_56 ⟨F, hK, hA, hZ, hr, hlocks⟩ hn ho v 1)
    · refine sk_aload_n F dX3_commandTraffic_40 rfl 1 rfl ?_
      refine sk_g3 (ref := "TunnelWatch$Tube") F hK ho iX3_commandTraffic_3 5 (by decide) (by decide +kernel) (fun _ h9 => h9) rfl dX3_commandTraffic_41 ?_
      refine sk_if_ne F 51 dX3_commandTraffic_44 (by decide) (fun h5 => ?_) (fun h5 => ?_)
      · refine sk_iconst (x := 1) F dX3_commandTraffic_51 (by decide) ?_
        refine sk_goto F 56 dX3_commandTraffic_52 (by decide) ?_
        exact sk_lv [1, 2, 3] rfl (kX3_commandTraffic_56 ⟨F, hK, hA, hZ, hr, hlocks⟩ hn ho v 1)
      · refine sk_iload_n F dX3_commandTraffic_47 rfl 0 rfl ?_
        refine sk_if_eq F 55 dX3_commandTraffic_48 (by decide) (fun h6 => ?_) (fun h6 => ?_)
        · refine sk_iconst (x := 0) F dX3_commandTraffic_55 (by decide) ?_
          exact sk_lv [1, 2, 3] rfl (kX3_commandTraffic_56 ⟨F, hK, hA, hZ, hr, hlocks⟩ hn ho v 0)
        · refine sk_iconst (x := 1) F dX3_commandTraffic_51 (by decide) ?_
          refine sk_goto F 56 dX3_commandTraffic_52 (by decide) ?_
          exact sk_lv [1, 2, 3] rfl (kX3_commandTraffic_56 ⟨F, hK, hA, hZ, hr, hlocks⟩ hn ho v 1)
def fX3_commandTraffic (o : Nat) (p1 : Int32) (p2 : Int32) (v : Mem) : Option (Mem) := if (v (o + 4) 0) = 1 then fX3_commandTraffic_27 o p1 p2 v 1 else if (v (o + 4) 1) = 1 then fX3_commandTraffic_27 o p1 p2 v 1 else fX3_commandTraffic_27 o p1 p2 v 0
set_option maxRecDepth 100000 in
set_option maxHeartbeats 4000000 in
theorem kX3_commandTraffic_0 {p : Program} {l : Launch} {e : Env} {s : State} {m : MethodId} {args : Array Value} {below : List Frame} {meth : Method} {c : Code} {D : va_G} {A : Nat → Prop} {cI cS cF cZ cJ : ClassId} {ad : Nat → Nat} {X : va_W} {n : Nat} {o : Nat} {p1 : Int32} {p2 : Int32} (G : cx p s m args meth c cX3_commandTraffic 6 wsX3_commandTraffic RX3 D (ty5 cI cS cF cZ cJ) A none) (hn : n ≤ 24) (ho : kC n o = 3) (v : Mem) : sk p l e rmX3_commandTraffic s m args below meth c D A 6 0 0 (fun res => MQ below (qv D A (ty5 cI cS cF cZ cJ) (Wc cI cS cF ad n X) res) args s 0 0 A) (Wc cI cS cF ad n X v) 0 [(0, .ref (ad o)), (1, .int p1), (2, .int p2)] [] (fX3_commandTraffic o p1 p2 v) := by
  obtain ⟨F, hK, hA, hZ, hr, hlocks⟩ := G
  refine sk_eq (K' := if (v (o + 4) 0) = 1 then fX3_commandTraffic_27 o p1 p2 v 1 else if (v (o + 4) 1) = 1 then fX3_commandTraffic_27 o p1 p2 v 1 else fX3_commandTraffic_27 o p1 p2 v 0) rfl ?_
  refine sk_aload_n F dX3_commandTraffic_0 rfl 0 rfl ?_
  refine sk_g3 (ref := "TunnelWatch$Tube") F hK ho iX3_commandTraffic_3 2 (by decide) (by decide +kernel) (fun _ h9 => h9) rfl dX3_commandTraffic_1 ?_
  refine sk_g0 (ref := "TunnelWatch$Device") F hK (kC_bar ho) iX3_commandTraffic_0 0 (by decide) (by decide +kernel) (fun _ h9 => h9) rfl dX3_commandTraffic_4 ?_
  refine sk_iconst (x := 1) F dX3_commandTraffic_7 (by decide) ?_
  refine sk_icmp_eq F 22 dX3_commandTraffic_8 (by decide) (fun h1 => ?_) (fun h1 => ?_)
  · refine sk_iconst (x := 1) F dX3_commandTraffic_22 (by decide) ?_
    refine sk_goto F 27 dX3_commandTraffic_23 (by decide) ?_
    exact kX3_commandTraffic_27 ⟨F, hK, hA, hZ, hr, hlocks⟩ hn ho v 1
  · refine sk_aload_n F dX3_commandTraffic_11 rfl 0 rfl ?_
    refine sk_g3 (ref := "TunnelWatch$Tube") F hK ho iX3_commandTraffic_3 2 (by decide) (by decide +kernel) (fun _ h9 => h9) rfl dX3_commandTraffic_12 ?_
    refine sk_g0 (ref := "TunnelWatch$Device") F hK (kC_bar ho) iX3_commandTraffic_0 1 (by decide) (by decide +kernel) (fun _ h9 => h9) rfl dX3_commandTraffic_15 ?_
    refine sk_iconst (x := 1) F dX3_commandTraffic_18 (by decide) ?_
    refine sk_icmp_ne F 26 dX3_commandTraffic_19 (by decide) (fun h2 => ?_) (fun h2 => ?_)
    · refine sk_iconst (x := 0) F dX3_commandTraffic_26 (by decide) ?_
      exact kX3_commandTraffic_27 ⟨F, hK, hA, hZ, hr, hlocks⟩ hn ho v 0
    · refine sk_iconst (x := 1) F dX3_commandTraffic_22 (by decide) ?_
      refine sk_goto F 27 dX3_commandTraffic_23 (by decide) ?_
      exact kX3_commandTraffic_27 ⟨F, hK, hA, hZ, hr, hlocks⟩ hn ho v 1
theorem tX3_commandTraffic {l : Launch} {D : va_G} {A : Nat → Prop} {cI cS cF cZ cJ : ClassId} {ad : Nat → Nat} {X : va_W} {n : Nat} (hn : n ≤ 24) {o : Nat} {p1 : Int32} {p2 : Int32} (ho : kC n o = 3) (v : Mem) : CV l yX3_commandTraffic wsX3_commandTraffic rmX3_commandTraffic D A (ty5 cI cS cF cZ cJ) (Wc cI cS cF ad n X) [.ref (ad o), .int p1, .int p2] v (fX3_commandTraffic o p1 p2 v) :=
  CV_of (cc := cX3_commandTraffic) (maxL := 6) (ret := none) (by decide) rfl (Nat.le_of_ble_eq_true rfl) (fun p e s m below meth c G => kX3_commandTraffic_0 G hn ho v)
def rmX3_countBlowing : Room := { frames := 0, cells := 0, slots := 0, locals := 0 }
theorem iX3_countBlowing_1 : ∀ w ∈ wsX10, w ∈ wsX3_countBlowing := by decide +kernel
theorem iX3_countBlowing_3 : ∀ w ∈ wsX30, w ∈ wsX3_countBlowing := by decide +kernel
def fX3_countBlowing_4 (o : Nat) (p1 : Int32) : Nat → Mem → Int32 → Int32 → Option (Int32 × Mem)
  | 0, _, _, _ => none
  | fuel + 1, v, l2, l3 => if (v o 4) ≤ l3 then some (l2, v) else gd (inb l3 12) (if (v (o + 5 + l3.toNatClampNeg) 0) = p1 then fX3_countBlowing_4 o p1 fuel v (l2 + 1) (l3 + 1) else fX3_countBlowing_4 o p1 fuel v l2 (l3 + 1))
set_option maxRecDepth 100000 in
set_option maxHeartbeats 4000000 in
theorem kX3_countBlowing_4 {p : Program} {l : Launch} {e : Env} {s : State} {m : MethodId} {args : Array Value} {below : List Frame} {meth : Method} {c : Code} {D : va_G} {A : Nat → Prop} {cI cS cF cZ cJ : ClassId} {ad : Nat → Nat} {X : va_W} {n : Nat} {o : Nat} {p1 : Int32} (G : cx p s m args meth c cX3_countBlowing 4 wsX3_countBlowing RX3 D (ty5 cI cS cF cZ cJ) A (some .int)) (hn : n ≤ 24) (ho : kC n o = 3) : ∀ (fuel : Nat) (v : Mem) (l2 : Int32) (l3 : Int32), sk p l e rmX3_countBlowing s m args below meth c D A 4 0 0 (fun res => MQ below (qi D A (ty5 cI cS cF cZ cJ) (Wc cI cS cF ad n X) res) args s 0 0 A) (Wc cI cS cF ad n X v) 4 [(0, .ref (ad o)), (1, .int p1), (2, .int l2), (3, .int l3)] [] (fX3_countBlowing_4 o p1 fuel v l2 l3) := by
  obtain ⟨F, hK, hA, hZ, hr, hlocks⟩ := G
  intro fuel
  induction fuel with
  | zero => intro v l2 l3; exact sk_none
  | succ fuel ih =>
    intro v l2 l3
    refine sk_eq (K' := if (v o 4) ≤ l3 then some (l2, v) else gd (inb l3 12) (if (v (o + 5 + l3.toNatClampNeg) 0) = p1 then fX3_countBlowing_4 o p1 fuel v (l2 + 1) (l3 + 1) else fX3_countBlowing_4 o p1 fuel v l2 (l3 + 1))) rfl ?_
    refine sk_iload_n F dX3_countBlowing_4 rfl 3 rfl ?_
    refine sk_aload_n F dX3_countBlowing_5 rfl 0 rfl ?_
    refine sk_g3 (ref := "TunnelWatch$Tube") F hK ho iX3_countBlowing_3 4 (by decide) (by decide +kernel) (fun _ h9 => h9) rfl dX3_countBlowing_6 ?_
    refine sk_icmp_ge F 34 dX3_countBlowing_9 (by decide) (fun h1 => ?_) (fun h1 => ?_)
    · refine sk_iload_n F dX3_countBlowing_34 rfl 2 rfl ?_
      exact sk_iret F hK hr hlocks dX3_countBlowing_35
    · refine sk_aload_n F dX3_countBlowing_12 rfl 0 rfl ?_
      refine sk_g3 (ref := "TunnelWatch$Tube") F hK ho iX3_countBlowing_3 3 (by decide) (by decide +kernel) (fun _ h9 => h9) rfl dX3_countBlowing_13 ?_
      refine sk_iload_n F dX3_countBlowing_16 rfl 3 rfl ?_
      refine sk_aldF F hK ho dX3_countBlowing_17 (fun h2 => ?_)
      refine sk_g1 (ref := "TunnelWatch$Fan") F hK (kC_f ho (inb_lt h2)) iX3_countBlowing_1 0 (by decide) (by decide +kernel) (u_same (F.2.2.2.2 (.sameField "TunnelWatch$Fan" "TunnelWatch$Device" "command" "I") (by decide +kernel))) rfl dX3_countBlowing_18 ?_
      refine sk_iload_n F dX3_countBlowing_21 rfl 1 rfl ?_
      refine sk_icmp_ne F 28 dX3_countBlowing_22 (by decide) (fun h3 => ?_) (fun h3 => ?_)
      · refine sk_iinc (y := l3 + 1) F dX3_countBlowing_28 3 rfl rfl (by decide) rfl ?_
        refine sk_goto F 4 dX3_countBlowing_31 (by decide) ?_
        exact sk_lv [1, 2, 3, 0] rfl (ih v l2 (l3 + 1))
      · refine sk_iinc (y := l2 + 1) F dX3_countBlowing_25 2 rfl rfl (by decide) rfl ?_
        refine sk_iinc (y := l3 + 1) F dX3_countBlowing_28 3 rfl rfl (by decide) rfl ?_
        refine sk_goto F 4 dX3_countBlowing_31 (by decide) ?_
        exact sk_lv [2, 3, 1, 0] rfl (ih v (l2 + 1) (l3 + 1))
def fX3_countBlowing (o : Nat) (p1 : Int32) (v : Mem) : Option (Int32 × Mem) := fX3_countBlowing_4 o p1 1000 v 0 0
set_option maxRecDepth 100000 in
set_option maxHeartbeats 4000000 in
theorem kX3_countBlowing_0 {p : Program} {l : Launch} {e : Env} {s : State} {m : MethodId} {args : Array Value} {below : List Frame} {meth : Method} {c : Code} {D : va_G} {A : Nat → Prop} {cI cS cF cZ cJ : ClassId} {ad : Nat → Nat} {X : va_W} {n : Nat} {o : Nat} {p1 : Int32} (G : cx p s m args meth c cX3_countBlowing 4 wsX3_countBlowing RX3 D (ty5 cI cS cF cZ cJ) A (some .int)) (hn : n ≤ 24) (ho : kC n o = 3) (v : Mem) : sk p l e rmX3_countBlowing s m args below meth c D A 4 0 0 (fun res => MQ below (qi D A (ty5 cI cS cF cZ cJ) (Wc cI cS cF ad n X) res) args s 0 0 A) (Wc cI cS cF ad n X v) 0 [(0, .ref (ad o)), (1, .int p1)] [] (fX3_countBlowing o p1 v) := by
  obtain ⟨F, hK, hA, hZ, hr, hlocks⟩ := G
  refine sk_eq (K' := fX3_countBlowing_4 o p1 1000 v 0 0) rfl ?_
  refine sk_iconst (x := 0) F dX3_countBlowing_0 (by decide) ?_
  refine sk_istore_n F dX3_countBlowing_1 rfl (by decide) rfl ?_
  refine sk_iconst (x := 0) F dX3_countBlowing_2 (by decide) ?_
  refine sk_istore_n F dX3_countBlowing_3 rfl (by decide) rfl ?_
  exact sk_lv [2, 3, 1, 0] rfl (kX3_countBlowing_4 ⟨F, hK, hA, hZ, hr, hlocks⟩ hn ho 1000 v 0 0)
theorem tX3_countBlowing {l : Launch} {D : va_G} {A : Nat → Prop} {cI cS cF cZ cJ : ClassId} {ad : Nat → Nat} {X : va_W} {n : Nat} (hn : n ≤ 24) {o : Nat} {p1 : Int32} (ho : kC n o = 3) (v : Mem) : CI l yX3_countBlowing wsX3_countBlowing rmX3_countBlowing D A (ty5 cI cS cF cZ cJ) (Wc cI cS cF ad n X) [.ref (ad o), .int p1] v (fX3_countBlowing o p1 v) :=
  CI_of (cc := cX3_countBlowing) (maxL := 4) (ret := (some .int)) (by decide) rfl (Nat.le_of_ble_eq_true rfl) (fun p e s m below meth c G => kX3_countBlowing_0 G hn ho v)
def rmX3_isUnsafe : Room := { frames := 1, cells := 0, slots := 0, locals := 23 }
theorem iX3_isUnsafe_0 : ∀ w ∈ wsX00, w ∈ wsX3_isUnsafe := by decide +kernel
theorem iX3_isUnsafe_3 : ∀ w ∈ wsX30, w ∈ wsX3_isUnsafe := by decide +kernel
def fX3_isUnsafe_88 (o : Nat) (p1 : Int32) (v : Mem) (l3 : Int32) (l4 : Int32) (s0 : Int32) : Option (Int32 × Mem) := if l3 = 0 then if l4 = 0 then if s0 = 0 then some (0, v) else some (1, v) else some (1, v) else some (1, v)
set_option maxRecDepth 100000 in
set_option maxHeartbeats 4000000 in
theorem kX3_isUnsafe_88 {p : Program} {l : Launch} {e : Env} {s : State} {m : MethodId} {args : Array Value} {below : List Frame} {meth : Method} {c : Code} {D : va_G} {A : Nat → Prop} {cI cS cF cZ cJ : ClassId} {ad : Nat → Nat} {X : va_W} {n : Nat} {o : Nat} {p1 : Int32} (G : cx p s m args meth c cX3_isUnsafe 6 wsX3_isUnsafe RX3 D (ty5 cI cS cF cZ cJ) A (some .boolean)) (hn : n ≤ 24) (ho : kC n o = 3) (v : Mem) (l3 : Int32) (l4 : Int32) (s0 : Int32) : sk p l e rmX3_isUnsafe s m args below meth c D A 6 0 0 (fun res => MQ below (qi D A (ty5 cI cS cF cZ cJ) (Wc cI cS cF ad n X) res) args s 0 0 A) (Wc cI cS cF ad n X v) 88 [(3, .int l3), (4, .int l4)] [.int s0] (fX3_isUnsafe_88 o p1 v l3 l4 s0) := by
  obtain ⟨F, hK, hA, hZ, hr, hlocks⟩ := G
  refine sk_eq (K' := if l3 = 0 then if l4 = 0 then if s0 = 0 then some (0, v) else some (1, v) else some (1, v) else some (1, v)) rfl ?_
  refine sk_istore F dX3_isUnsafe_88 (by decide) rfl ?_
  refine sk_iload_n F dX3_isUnsafe_90 rfl 1 rfl ?_
  refine sk_if_ne F 104 dX3_isUnsafe_91 (by decide) (fun h18 => ?_) (fun h18 => ?_)
  · refine sk_iconst (x := 1) F dX3_isUnsafe_104 (by decide) ?_
    refine sk_goto F 109 dX3_isUnsafe_105 (by decide) ?_
    exact sk_zretc F hK hr hlocks (by decide) dX3_isUnsafe_109
  · refine sk_iload F dX3_isUnsafe_94 2 rfl ?_
    refine sk_if_ne F 104 dX3_isUnsafe_96 (by decide) (fun h19 => ?_) (fun h19 => ?_)
    · refine sk_iconst (x := 1) F dX3_isUnsafe_104 (by decide) ?_
      refine sk_goto F 109 dX3_isUnsafe_105 (by decide) ?_
      exact sk_zretc F hK hr hlocks (by decide) dX3_isUnsafe_109
    · refine sk_iload F dX3_isUnsafe_99 0 rfl ?_
      refine sk_if_eq F 108 dX3_isUnsafe_101 (by decide) (fun h20 => ?_) (fun h20 => ?_)
      · refine sk_iconst (x := 0) F dX3_isUnsafe_108 (by decide) ?_
        exact sk_zretc F hK hr hlocks (by decide) dX3_isUnsafe_109
      · refine sk_iconst (x := 1) F dX3_isUnsafe_104 (by decide) ?_
        refine sk_goto F 109 dX3_isUnsafe_105 (by decide) ?_
        exact sk_zretc F hK hr hlocks (by decide) dX3_isUnsafe_109
def fX3_isUnsafe_87 (o : Nat) (p1 : Int32) (v : Mem) (l3 : Int32) (l4 : Int32) : Option (Int32 × Mem) := fX3_isUnsafe_88 o p1 v l3 l4 0
set_option maxRecDepth 100000 in
set_option maxHeartbeats 4000000 in
theorem kX3_isUnsafe_87 {p : Program} {l : Launch} {e : Env} {s : State} {m : MethodId} {args : Array Value} {below : List Frame} {meth : Method} {c : Code} {D : va_G} {A : Nat → Prop} {cI cS cF cZ cJ : ClassId} {ad : Nat → Nat} {X : va_W} {n : Nat} {o : Nat} {p1 : Int32} (G : cx p s m args meth c cX3_isUnsafe 6 wsX3_isUnsafe RX3 D (ty5 cI cS cF cZ cJ) A (some .boolean)) (hn : n ≤ 24) (ho : kC n o = 3) (v : Mem) (l3 : Int32) (l4 : Int32) : sk p l e rmX3_isUnsafe s m args below meth c D A 6 0 0 (fun res => MQ below (qi D A (ty5 cI cS cF cZ cJ) (Wc cI cS cF ad n X) res) args s 0 0 A) (Wc cI cS cF ad n X v) 87 [(3, .int l3), (4, .int l4)] [] (fX3_isUnsafe_87 o p1 v l3 l4) := by
  obtain ⟨F, hK, hA, hZ, hr, hlocks⟩ := G
  refine sk_eq (K' := fX3_isUnsafe_88 o p1 v l3 l4 0) rfl ?_
  refine sk_iconst (x := 0) F dX3_isUnsafe_87 (by decide) ?_
  exact kX3_isUnsafe_88 ⟨F, hK, hA, hZ, hr, hlocks⟩ hn ho v l3 l4 0
def fX3_isUnsafe_65 (o : Nat) (p1 : Int32) (v : Mem) (l3 : Int32) (s0 : Int32) : Option (Int32 × Mem) := bd (fX3_countBlowing o (-1) v) fun x12 v11 => if x12 ≤ 0 then fX3_isUnsafe_87 o p1 v11 l3 s0 else bd (fX3_countBlowing o 1 v11) fun x16 v15 => if x16 ≤ 0 then fX3_isUnsafe_87 o p1 v15 l3 s0 else fX3_isUnsafe_88 o p1 v15 l3 s0 1
set_option maxRecDepth 100000 in
set_option maxHeartbeats 4000000 in
theorem kX3_isUnsafe_65 {p : Program} {l : Launch} {e : Env} {s : State} {m : MethodId} {args : Array Value} {below : List Frame} {meth : Method} {c : Code} {D : va_G} {A : Nat → Prop} {cI cS cF cZ cJ : ClassId} {ad : Nat → Nat} {X : va_W} {n : Nat} {o : Nat} {p1 : Int32} (G : cx p s m args meth c cX3_isUnsafe 6 wsX3_isUnsafe RX3 D (ty5 cI cS cF cZ cJ) A (some .boolean)) (hn : n ≤ 24) (ho : kC n o = 3) (v : Mem) (l3 : Int32) (s0 : Int32) : sk p l e rmX3_isUnsafe s m args below meth c D A 6 0 0 (fun res => MQ below (qi D A (ty5 cI cS cF cZ cJ) (Wc cI cS cF ad n X) res) args s 0 0 A) (Wc cI cS cF ad n X v) 65 [(0, .ref (ad o)), (3, .int l3)] [.int s0] (fX3_isUnsafe_65 o p1 v l3 s0) := by
  obtain ⟨F, hK, hA, hZ, hr, hlocks⟩ := G
  refine sk_eq (K' := bd (fX3_countBlowing o (-1) v) fun x12 v11 => if x12 ≤ 0 then fX3_isUnsafe_87 o p1 v11 l3 s0 else bd (fX3_countBlowing o 1 v11) fun x16 v15 => if x16 ≤ 0 then fX3_isUnsafe_87 o p1 v15 l3 s0 else fX3_isUnsafe_88 o p1 v15 l3 s0 1) rfl ?_
  refine sk_istore F dX3_isUnsafe_65 (by decide) rfl ?_
  refine sk_aload_n F dX3_isUnsafe_67 rfl 1 rfl ?_
  refine sk_iconst (x := (-1)) F dX3_isUnsafe_68 (by decide) ?_
  refine sk_callVi (As := [.int (-1)]) (rest := []) F hK hA hZ _ (tX3_countBlowing hn ho _) (cwV 1 F.2.2.2.2 gX3_isUnsafe_X3_countBlowing rfl rfl rfl (by decide +kernel) ⟨Nat.le_of_ble_eq_true rfl, Nat.le_of_ble_eq_true rfl⟩) (rc3 hK ho) rfl rfl (Nat.le_of_ble_eq_true rfl) (by decide) dX3_isUnsafe_69 (fun x12 v11 c10 => ?_)
  refine sk_if_le F 87 dX3_isUnsafe_72 (by decide) (fun h13 => ?_) (fun h13 => ?_)
  · exact sk_lv [2, 0] rfl (kX3_isUnsafe_87 ⟨F, hK, hA, hZ, hr, hlocks⟩ hn ho v11 l3 s0)
  · refine sk_aload_n F dX3_isUnsafe_75 rfl 1 rfl ?_
    refine sk_iconst (x := 1) F dX3_isUnsafe_76 (by decide) ?_
    refine sk_callVi (As := [.int 1]) (rest := []) F hK hA hZ _ (tX3_countBlowing hn ho _) (cwV 1 F.2.2.2.2 gX3_isUnsafe_X3_countBlowing rfl rfl rfl (by decide +kernel) ⟨Nat.le_of_ble_eq_true rfl, Nat.le_of_ble_eq_true rfl⟩) (rc3 hK ho) rfl rfl (Nat.le_of_ble_eq_true rfl) (by decide) dX3_isUnsafe_77 (fun x16 v15 c14 => ?_)
    refine sk_if_le F 87 dX3_isUnsafe_80 (by decide) (fun h17 => ?_) (fun h17 => ?_)
    · exact sk_lv [2, 0] rfl (kX3_isUnsafe_87 ⟨F, hK, hA, hZ, hr, hlocks⟩ hn ho v15 l3 s0)
    · refine sk_iconst (x := 1) F dX3_isUnsafe_83 (by decide) ?_
      refine sk_goto F 88 dX3_isUnsafe_84 (by decide) ?_
      exact sk_lv [2, 0] rfl (kX3_isUnsafe_88 ⟨F, hK, hA, hZ, hr, hlocks⟩ hn ho v15 l3 s0 1)
def fX3_isUnsafe_64 (o : Nat) (p1 : Int32) (v : Mem) (l3 : Int32) : Option (Int32 × Mem) := fX3_isUnsafe_65 o p1 v l3 0
set_option maxRecDepth 100000 in
set_option maxHeartbeats 4000000 in
theorem kX3_isUnsafe_64 {p : Program} {l : Launch} {e : Env} {s : State} {m : MethodId} {args : Array Value} {below : List Frame} {meth : Method} {c : Code} {D : va_G} {A : Nat → Prop} {cI cS cF cZ cJ : ClassId} {ad : Nat → Nat} {X : va_W} {n : Nat} {o : Nat} {p1 : Int32} (G : cx p s m args meth c cX3_isUnsafe 6 wsX3_isUnsafe RX3 D (ty5 cI cS cF cZ cJ) A (some .boolean)) (hn : n ≤ 24) (ho : kC n o = 3) (v : Mem) (l3 : Int32) : sk p l e rmX3_isUnsafe s m args below meth c D A 6 0 0 (fun res => MQ below (qi D A (ty5 cI cS cF cZ cJ) (Wc cI cS cF ad n X) res) args s 0 0 A) (Wc cI cS cF ad n X v) 64 [(0, .ref (ad o)), (3, .int l3)] [] (fX3_isUnsafe_64 o p1 v l3) := by
  obtain ⟨F, hK, hA, hZ, hr, hlocks⟩ := G
  refine sk_eq (K' := fX3_isUnsafe_65 o p1 v l3 0) rfl ?_
  refine sk_iconst (x := 0) F dX3_isUnsafe_64 (by decide) ?_
  exact kX3_isUnsafe_65 ⟨F, hK, hA, hZ, hr, hlocks⟩ hn ho v l3 0
def fX3_isUnsafe_45 (o : Nat) (p1 : Int32) (v : Mem) (l2 : Int32) (s0 : Int32) : Option (Int32 × Mem) := if l2 = 0 then fX3_isUnsafe_64 o p1 v s0 else if (v (o + 3) 0) = 0 then fX3_isUnsafe_65 o p1 v s0 1 else fX3_isUnsafe_64 o p1 v s0
set_option maxRecDepth 100000 in
set_option maxHeartbeats 4000000 in
theorem kX3_isUnsafe_45 {p : Program} {l : Launch} {e : Env} {s : State} {m : MethodId} {args : Array Value} {below : List Frame} {meth : Method} {c : Code} {D : va_G} {A : Nat → Prop} {cI cS cF cZ cJ : ClassId} {ad : Nat → Nat} {X : va_W} {n : Nat} {o : Nat} {p1 : Int32} (G : cx p s m args meth c cX3_isUnsafe 6 wsX3_isUnsafe RX3 D (ty5 cI cS cF cZ cJ) A (some .boolean)) (hn : n ≤ 24) (ho : kC n o = 3) (v : Mem) (l2 : Int32) (s0 : Int32) : sk p l e rmX3_isUnsafe s m args below meth c D A 6 0 0 (fun res => MQ below (qi D A (ty5 cI cS cF cZ cJ) (Wc cI cS cF ad n X) res) args s 0 0 A) (Wc cI cS cF ad n X v) 45 [(0, .ref (ad o)), (2, .int l2)] [.int s0] (fX3_isUnsafe_45 o p1 v l2 s0) := by
  obtain ⟨F, hK, hA, hZ, hr, hlocks⟩ := G
  refine sk_eq (K' := if l2 = 0 then fX3_isUnsafe_64 o p1 v s0 else if (v (o + 3) 0) = 0 then fX3_isUnsafe_65 o p1 v s0 1 else fX3_isUnsafe_64 o p1 v s0) rfl ?_
  refine sk_istore_n F dX3_isUnsafe_45 rfl (by decide) rfl ?_
  refine sk_iload_n F dX3_isUnsafe_46 rfl 2 rfl ?_
  refine sk_if_eq F 64 dX3_isUnsafe_47 (by decide) (fun h8 => ?_) (fun h8 => ?_)
  · exact sk_lv [1, 0] rfl (kX3_isUnsafe_64 ⟨F, hK, hA, hZ, hr, hlocks⟩ hn ho v s0)
  · refine sk_aload_n F dX3_isUnsafe_50 rfl 1 rfl ?_
    refine sk_g3 (ref := "TunnelWatch$Tube") F hK ho iX3_isUnsafe_3 1 (by decide) (by decide +kernel) (fun _ h9 => h9) rfl dX3_isUnsafe_51 ?_
    refine sk_g0 (ref := "TunnelWatch$Device") F hK (kC_sig ho) iX3_isUnsafe_0 0 (by decide) (by decide +kernel) (fun _ h9 => h9) rfl dX3_isUnsafe_54 ?_
    refine sk_if_ne F 64 dX3_isUnsafe_57 (by decide) (fun h9 => ?_) (fun h9 => ?_)
    · exact sk_lv [1, 0] rfl (kX3_isUnsafe_64 ⟨F, hK, hA, hZ, hr, hlocks⟩ hn ho v s0)
    · refine sk_iconst (x := 1) F dX3_isUnsafe_60 (by decide) ?_
      refine sk_goto F 65 dX3_isUnsafe_61 (by decide) ?_
      exact sk_lv [1, 0] rfl (kX3_isUnsafe_65 ⟨F, hK, hA, hZ, hr, hlocks⟩ hn ho v s0 1)
def fX3_isUnsafe_44 (o : Nat) (p1 : Int32) (v : Mem) (l2 : Int32) : Option (Int32 × Mem) := fX3_isUnsafe_45 o p1 v l2 0
set_option maxRecDepth 100000 in
set_option maxHeartbeats 4000000 in
theorem kX3_isUnsafe_44 {p : Program} {l : Launch} {e : Env} {s : State} {m : MethodId} {args : Array Value} {below : List Frame} {meth : Method} {c : Code} {D : va_G} {A : Nat → Prop} {cI cS cF cZ cJ : ClassId} {ad : Nat → Nat} {X : va_W} {n : Nat} {o : Nat} {p1 : Int32} (G : cx p s m args meth c cX3_isUnsafe 6 wsX3_isUnsafe RX3 D (ty5 cI cS cF cZ cJ) A (some .boolean)) (hn : n ≤ 24) (ho : kC n o = 3) (v : Mem) (l2 : Int32) : sk p l e rmX3_isUnsafe s m args below meth c D A 6 0 0 (fun res => MQ below (qi D A (ty5 cI cS cF cZ cJ) (Wc cI cS cF ad n X) res) args s 0 0 A) (Wc cI cS cF ad n X v) 44 [(0, .ref (ad o)), (2, .int l2)] [] (fX3_isUnsafe_44 o p1 v l2) := by
  obtain ⟨F, hK, hA, hZ, hr, hlocks⟩ := G
  refine sk_eq (K' := fX3_isUnsafe_45 o p1 v l2 0) rfl ?_
  refine sk_iconst (x := 0) F dX3_isUnsafe_44 (by decide) ?_
  exact kX3_isUnsafe_45 ⟨F, hK, hA, hZ, hr, hlocks⟩ hn ho v l2 0
def fX3_isUnsafe_16 (o : Nat) (p1 : Int32) (v : Mem) (s0 : Int32) : Option (Int32 × Mem) := if s0 = 0 then fX3_isUnsafe_44 o p1 v s0 else if (v (o + 4) 2) = p1 then bd (fX3_isHalted o p1 v) fun x6 v5 => if x6 = 0 then fX3_isUnsafe_45 o p1 v5 s0 1 else fX3_isUnsafe_44 o p1 v5 s0 else fX3_isUnsafe_44 o p1 v s0
set_option maxRecDepth 100000 in
set_option maxHeartbeats 4000000 in
theorem kX3_isUnsafe_16 {p : Program} {l : Launch} {e : Env} {s : State} {m : MethodId} {args : Array Value} {below : List Frame} {meth : Method} {c : Code} {D : va_G} {A : Nat → Prop} {cI cS cF cZ cJ : ClassId} {ad : Nat → Nat} {X : va_W} {n : Nat} {o : Nat} {p1 : Int32} (G : cx p s m args meth c cX3_isUnsafe 6 wsX3_isUnsafe RX3 D (ty5 cI cS cF cZ cJ) A (some .boolean)) (hn : n ≤ 24) (ho : kC n o = 3) (v : Mem) (s0 : Int32) : sk p l e rmX3_isUnsafe s m args below meth c D A 6 0 0 (fun res => MQ below (qi D A (ty5 cI cS cF cZ cJ) (Wc cI cS cF ad n X) res) args s 0 0 A) (Wc cI cS cF ad n X v) 16 [(0, .ref (ad o)), (1, .int p1)] [.int s0] (fX3_isUnsafe_16 o p1 v s0) := by
  obtain ⟨F, hK, hA, hZ, hr, hlocks⟩ := G
  refine sk_eq (K' := if s0 = 0 then fX3_isUnsafe_44 o p1 v s0 else if (v (o + 4) 2) = p1 then bd (fX3_isHalted o p1 v) fun x6 v5 => if x6 = 0 then fX3_isUnsafe_45 o p1 v5 s0 1 else fX3_isUnsafe_44 o p1 v5 s0 else fX3_isUnsafe_44 o p1 v s0) rfl ?_
  refine sk_istore_n F dX3_isUnsafe_16 rfl (by decide) rfl ?_
  refine sk_iload_n F dX3_isUnsafe_17 rfl 0 rfl ?_
  refine sk_if_eq F 44 dX3_isUnsafe_18 (by decide) (fun h2 => ?_) (fun h2 => ?_)
  · exact sk_lv [1, 0] rfl (kX3_isUnsafe_44 ⟨F, hK, hA, hZ, hr, hlocks⟩ hn ho v s0)
  · refine sk_aload_n F dX3_isUnsafe_21 rfl 1 rfl ?_
    refine sk_g3 (ref := "TunnelWatch$Tube") F hK ho iX3_isUnsafe_3 2 (by decide) (by decide +kernel) (fun _ h9 => h9) rfl dX3_isUnsafe_22 ?_
    refine sk_g0 (ref := "TunnelWatch$Device") F hK (kC_bar ho) iX3_isUnsafe_0 2 (by decide) (by decide +kernel) (fun _ h9 => h9) rfl dX3_isUnsafe_25 ?_
    refine sk_iload_n F dX3_isUnsafe_28 rfl 2 rfl ?_
    refine sk_icmp_ne F 44 dX3_isUnsafe_29 (by decide) (fun h3 => ?_) (fun h3 => ?_)
    · exact sk_lv [1, 0] rfl (kX3_isUnsafe_44 ⟨F, hK, hA, hZ, hr, hlocks⟩ hn ho v s0)
    · refine sk_aload_n F dX3_isUnsafe_32 rfl 1 rfl ?_
      refine sk_iload_n F dX3_isUnsafe_33 rfl 2 rfl ?_
      refine sk_callVi (As := [.int p1]) (rest := []) F hK hA hZ _ (tX3_isHalted hn ho _) (cwV 1 F.2.2.2.2 gX3_isUnsafe_X3_isHalted rfl rfl rfl (by decide +kernel) ⟨Nat.le_of_ble_eq_true rfl, Nat.le_of_ble_eq_true rfl⟩) (rc3 hK ho) rfl rfl (Nat.le_of_ble_eq_true rfl) (by decide) dX3_isUnsafe_34 (fun x6 v5 c4 => ?_)
      refine sk_if_ne F 44 dX3_isUnsafe_37 (by decide) (fun h7 => ?_) (fun h7 => ?_)
      · exact sk_lv [1, 0] rfl (kX3_isUnsafe_44 ⟨F, hK, hA, hZ, hr, hlocks⟩ hn ho v5 s0)
      · refine sk_iconst (x := 1) F dX3_isUnsafe_40 (by decide) ?_
        refine sk_goto F 45 dX3_isUnsafe_41 (by decide) ?_
        exact sk_lv [1, 0] rfl (kX3_isUnsafe_45 ⟨F, hK, hA, hZ, hr, hlocks⟩ hn ho v5 s0 1)
def fX3_isUnsafe (o : Nat) (p1 : Int32) (v : Mem) : Option (Int32 × Mem) := if (v (o + 4) 0) = 1 then fX3_isUnsafe_16 o p1 v 1 else fX3_isUnsafe_16 o p1 v 0
set_option maxRecDepth 100000 in
set_option maxHeartbeats 4000000 in
theorem kX3_isUnsafe_0 {p : Program} {l : Launch} {e : Env} {s : State} {m : MethodId} {args : Array Value} {below : List Frame} {meth : Method} {c : Code} {D : va_G} {A : Nat → Prop} {cI cS cF cZ cJ : ClassId} {ad : Nat → Nat} {X : va_W} {n : Nat} {o : Nat} {p1 : Int32} (G : cx p s m args meth c cX3_isUnsafe 6 wsX3_isUnsafe RX3 D (ty5 cI cS cF cZ cJ) A (some .boolean)) (hn : n ≤ 24) (ho : kC n o = 3) (v : Mem) : sk p l e rmX3_isUnsafe s m args below meth c D A 6 0 0 (fun res => MQ below (qi D A (ty5 cI cS cF cZ cJ) (Wc cI cS cF ad n X) res) args s 0 0 A) (Wc cI cS cF ad n X v) 0 [(0, .ref (ad o)), (1, .int p1)] [] (fX3_isUnsafe o p1 v) := by
  obtain ⟨F, hK, hA, hZ, hr, hlocks⟩ := G
  refine sk_eq (K' := if (v (o + 4) 0) = 1 then fX3_isUnsafe_16 o p1 v 1 else fX3_isUnsafe_16 o p1 v 0) rfl ?_
  refine sk_aload_n F dX3_isUnsafe_0 rfl 0 rfl ?_
  refine sk_g3 (ref := "TunnelWatch$Tube") F hK ho iX3_isUnsafe_3 2 (by decide) (by decide +kernel) (fun _ h9 => h9) rfl dX3_isUnsafe_1 ?_
  refine sk_g0 (ref := "TunnelWatch$Device") F hK (kC_bar ho) iX3_isUnsafe_0 0 (by decide) (by decide +kernel) (fun _ h9 => h9) rfl dX3_isUnsafe_4 ?_
  refine sk_iconst (x := 1) F dX3_isUnsafe_7 (by decide) ?_
  refine sk_icmp_ne F 15 dX3_isUnsafe_8 (by decide) (fun h1 => ?_) (fun h1 => ?_)
  · refine sk_iconst (x := 0) F dX3_isUnsafe_15 (by decide) ?_
    exact kX3_isUnsafe_16 ⟨F, hK, hA, hZ, hr, hlocks⟩ hn ho v 0
  · refine sk_iconst (x := 1) F dX3_isUnsafe_11 (by decide) ?_
    refine sk_goto F 16 dX3_isUnsafe_12 (by decide) ?_
    exact kX3_isUnsafe_16 ⟨F, hK, hA, hZ, hr, hlocks⟩ hn ho v 1
theorem tX3_isUnsafe {l : Launch} {D : va_G} {A : Nat → Prop} {cI cS cF cZ cJ : ClassId} {ad : Nat → Nat} {X : va_W} {n : Nat} (hn : n ≤ 24) {o : Nat} {p1 : Int32} (ho : kC n o = 3) (v : Mem) : CI l yX3_isUnsafe wsX3_isUnsafe rmX3_isUnsafe D A (ty5 cI cS cF cZ cJ) (Wc cI cS cF ad n X) [.ref (ad o), .int p1] v (fX3_isUnsafe o p1 v) :=
  CI_of (cc := cX3_isUnsafe) (maxL := 6) (ret := (some .boolean)) (by decide) rfl (Nat.le_of_ble_eq_true rfl) (fun p e s m below meth c G => kX3_isUnsafe_0 G hn ho v)
def rmX3_drawnKw : Room := { frames := 1, cells := 0, slots := 0, locals := 21 }
theorem iX3_drawnKw_3 : ∀ w ∈ wsX30, w ∈ wsX3_drawnKw := by decide +kernel
def fX3_drawnKw_4 (o : Nat) (p1 : Int32) : Nat → Mem → Int32 → Int32 → Option (Int32 × Mem)
  | 0, _, _, _ => none
  | fuel + 1, v, l2, l3 => if (v o 4) ≤ l3 then some (l2, v) else gd (inb l3 12) (bd (fX1_drawnKw (o + 5 + l3.toNatClampNeg) p1 v) fun x5 v4 => fX3_drawnKw_4 o p1 fuel v4 (l2 + x5) (l3 + 1))
set_option maxRecDepth 100000 in
set_option maxHeartbeats 4000000 in
theorem kX3_drawnKw_4 {p : Program} {l : Launch} {e : Env} {s : State} {m : MethodId} {args : Array Value} {below : List Frame} {meth : Method} {c : Code} {D : va_G} {A : Nat → Prop} {cI cS cF cZ cJ : ClassId} {ad : Nat → Nat} {X : va_W} {n : Nat} {o : Nat} {p1 : Int32} (G : cx p s m args meth c cX3_drawnKw 4 wsX3_drawnKw RX3 D (ty5 cI cS cF cZ cJ) A (some .int)) (hn : n ≤ 24) (ho : kC n o = 3) : ∀ (fuel : Nat) (v : Mem) (l2 : Int32) (l3 : Int32), sk p l e rmX3_drawnKw s m args below meth c D A 4 0 0 (fun res => MQ below (qi D A (ty5 cI cS cF cZ cJ) (Wc cI cS cF ad n X) res) args s 0 0 A) (Wc cI cS cF ad n X v) 4 [(0, .ref (ad o)), (1, .int p1), (2, .int l2), (3, .int l3)] [] (fX3_drawnKw_4 o p1 fuel v l2 l3) := by
  obtain ⟨F, hK, hA, hZ, hr, hlocks⟩ := G
  intro fuel
  induction fuel with
  | zero => intro v l2 l3; exact sk_none
  | succ fuel ih =>
    intro v l2 l3
    refine sk_eq (K' := if (v o 4) ≤ l3 then some (l2, v) else gd (inb l3 12) (bd (fX1_drawnKw (o + 5 + l3.toNatClampNeg) p1 v) fun x5 v4 => fX3_drawnKw_4 o p1 fuel v4 (l2 + x5) (l3 + 1))) rfl ?_
    refine sk_iload_n F dX3_drawnKw_4 rfl 3 rfl ?_
    refine sk_aload_n F dX3_drawnKw_5 rfl 0 rfl ?_
    refine sk_g3 (ref := "TunnelWatch$Tube") F hK ho iX3_drawnKw_3 4 (by decide) (by decide +kernel) (fun _ h9 => h9) rfl dX3_drawnKw_6 ?_
    refine sk_icmp_ge F 31 dX3_drawnKw_9 (by decide) (fun h1 => ?_) (fun h1 => ?_)
    · refine sk_iload_n F dX3_drawnKw_31 rfl 2 rfl ?_
      exact sk_iret F hK hr hlocks dX3_drawnKw_32
    · refine sk_iload_n F dX3_drawnKw_12 rfl 2 rfl ?_
      refine sk_aload_n F dX3_drawnKw_13 rfl 0 rfl ?_
      refine sk_g3 (ref := "TunnelWatch$Tube") F hK ho iX3_drawnKw_3 3 (by decide) (by decide +kernel) (fun _ h9 => h9) rfl dX3_drawnKw_14 ?_
      refine sk_iload_n F dX3_drawnKw_17 rfl 3 rfl ?_
      refine sk_aldF F hK ho dX3_drawnKw_18 (fun h2 => ?_)
      refine sk_iload_n F dX3_drawnKw_19 rfl 1 rfl ?_
      refine sk_callVi (As := [.int p1]) (rest := [.int l2]) F hK hA hZ _ (tX1_drawnKw hn (kC_f ho (inb_lt h2)) _) (cwV 1 F.2.2.2.2 gX3_drawnKw_X1_drawnKw rfl rfl rfl (by decide +kernel) ⟨Nat.le_of_ble_eq_true rfl, Nat.le_of_ble_eq_true rfl⟩) (rc1 hK (kC_f ho (inb_lt h2))) rfl rfl (Nat.le_of_ble_eq_true rfl) (by decide) dX3_drawnKw_20 (fun x5 v4 c3 => ?_)
      refine sk_iadd F dX3_drawnKw_23 ?_
      refine sk_istore_n F dX3_drawnKw_24 rfl (by decide) rfl ?_
      refine sk_iinc (y := l3 + 1) F dX3_drawnKw_25 3 rfl rfl (by decide) rfl ?_
      refine sk_goto F 4 dX3_drawnKw_28 (by decide) ?_
      exact sk_lv [2, 3, 1, 0] rfl (ih v4 (l2 + x5) (l3 + 1))
def fX3_drawnKw (o : Nat) (p1 : Int32) (v : Mem) : Option (Int32 × Mem) := fX3_drawnKw_4 o p1 1000 v 0 0
set_option maxRecDepth 100000 in
set_option maxHeartbeats 4000000 in
theorem kX3_drawnKw_0 {p : Program} {l : Launch} {e : Env} {s : State} {m : MethodId} {args : Array Value} {below : List Frame} {meth : Method} {c : Code} {D : va_G} {A : Nat → Prop} {cI cS cF cZ cJ : ClassId} {ad : Nat → Nat} {X : va_W} {n : Nat} {o : Nat} {p1 : Int32} (G : cx p s m args meth c cX3_drawnKw 4 wsX3_drawnKw RX3 D (ty5 cI cS cF cZ cJ) A (some .int)) (hn : n ≤ 24) (ho : kC n o = 3) (v : Mem) : sk p l e rmX3_drawnKw s m args below meth c D A 4 0 0 (fun res => MQ below (qi D A (ty5 cI cS cF cZ cJ) (Wc cI cS cF ad n X) res) args s 0 0 A) (Wc cI cS cF ad n X v) 0 [(0, .ref (ad o)), (1, .int p1)] [] (fX3_drawnKw o p1 v) := by
  obtain ⟨F, hK, hA, hZ, hr, hlocks⟩ := G
  refine sk_eq (K' := fX3_drawnKw_4 o p1 1000 v 0 0) rfl ?_
  refine sk_iconst (x := 0) F dX3_drawnKw_0 (by decide) ?_
  refine sk_istore_n F dX3_drawnKw_1 rfl (by decide) rfl ?_
  refine sk_iconst (x := 0) F dX3_drawnKw_2 (by decide) ?_
  refine sk_istore_n F dX3_drawnKw_3 rfl (by decide) rfl ?_
  exact sk_lv [2, 3, 1, 0] rfl (kX3_drawnKw_4 ⟨F, hK, hA, hZ, hr, hlocks⟩ hn ho 1000 v 0 0)
theorem tX3_drawnKw {l : Launch} {D : va_G} {A : Nat → Prop} {cI cS cF cZ cJ : ClassId} {ad : Nat → Nat} {X : va_W} {n : Nat} (hn : n ≤ 24) {o : Nat} {p1 : Int32} (ho : kC n o = 3) (v : Mem) : CI l yX3_drawnKw wsX3_drawnKw rmX3_drawnKw D A (ty5 cI cS cF cZ cJ) (Wc cI cS cF ad n X) [.ref (ad o), .int p1] v (fX3_drawnKw o p1 v) :=
  CI_of (cc := cX3_drawnKw) (maxL := 4) (ret := (some .int)) (by decide) rfl (Nat.le_of_ble_eq_true rfl) (fun p e s m below meth c G => kX3_drawnKw_0 G hn ho v)
def rmX3_stopBlowingAgainst : Room := { frames := 2, cells := 0, slots := 0, locals := 43 }
theorem iX3_stopBlowingAgainst_1 : ∀ w ∈ wsX10, w ∈ wsX3_stopBlowingAgainst := by decide +kernel
theorem iX3_stopBlowingAgainst_3 : ∀ w ∈ wsX30, w ∈ wsX3_stopBlowingAgainst := by decide +kernel
def fX3_stopBlowingAgainst_2 (o : Nat) (p1 : Int32) : Nat → Mem → Int32 → Option (Mem)
  | 0, _, _ => none
  | fuel + 1, v, l2 => if (v o 4) ≤ l2 then some v else gd (inb l2 12) (if (v (o + 5 + l2.toNatClampNeg) 0) = (-(v o 8)) then gd (inb l2 12) ((fX1_stand (o + 5 + l2.toNatClampNeg) p1 v).bind fun v6 => fX3_stopBlowingAgainst_2 o p1 fuel v6 (l2 + 1)) else fX3_stopBlowingAgainst_2 o p1 fuel v (l2 + 1))
set_option maxRecDepth 100000 in
set_option maxHeartbeats 4000000 in
theorem kX3_stopBlowingAgainst_2 {p : Program} {l : Launch} {e : Env} {s : State} {m : MethodId} {args : Array Value} {below : List Frame} {meth : Method} {c : Code} {D : va_G} {A : Nat → Prop} {cI cS cF cZ cJ : ClassId} {ad : Nat → Nat} {X : va_W} {n : Nat} {o : Nat} {p1 : Int32} (G : cx p s m args meth c cX3_stopBlowingAgainst 3 wsX3_stopBlowingAgainst RX3 D (ty5 cI cS cF cZ cJ) A none) (hn : n ≤ 24) (ho : kC n o = 3) : ∀ (fuel : Nat) (v : Mem) (l2 : Int32), sk p l e rmX3_stopBlowingAgainst s m args below meth c D A 3 0 0 (fun res => MQ below (qv D A (ty5 cI cS cF cZ cJ) (Wc cI cS cF ad n X) res) args s 0 0 A) (Wc cI cS cF ad n X v) 2 [(0, .ref (ad o)), (1, .int p1), (2, .int l2)] [] (fX3_stopBlowingAgainst_2 o p1 fuel v l2) := by
  obtain ⟨F, hK, hA, hZ, hr, hlocks⟩ := G
  intro fuel
  induction fuel with
  | zero => intro v l2; exact sk_none
  | succ fuel ih =>
    intro v l2
    refine sk_eq (K' := if (v o 4) ≤ l2 then some v else gd (inb l2 12) (if (v (o + 5 + l2.toNatClampNeg) 0) = (-(v o 8)) then gd (inb l2 12) ((fX1_stand (o + 5 + l2.toNatClampNeg) p1 v).bind fun v6 => fX3_stopBlowingAgainst_2 o p1 fuel v6 (l2 + 1)) else fX3_stopBlowingAgainst_2 o p1 fuel v (l2 + 1))) rfl ?_
    refine sk_iload_n F dX3_stopBlowingAgainst_2 rfl 2 rfl ?_
    refine sk_aload_n F dX3_stopBlowingAgainst_3 rfl 0 rfl ?_
    refine sk_g3 (ref := "TunnelWatch$Tube") F hK ho iX3_stopBlowingAgainst_3 4 (by decide) (by decide +kernel) (fun _ h9 => h9) rfl dX3_stopBlowingAgainst_4 ?_
    refine sk_icmp_ge F 43 dX3_stopBlowingAgainst_7 (by decide) (fun h1 => ?_) (fun h1 => ?_)
    · exact sk_vret F hK hr hlocks dX3_stopBlowingAgainst_43
    · refine sk_aload_n F dX3_stopBlowingAgainst_10 rfl 0 rfl ?_
      refine sk_g3 (ref := "TunnelWatch$Tube") F hK ho iX3_stopBlowingAgainst_3 3 (by decide) (by decide +kernel) (fun _ h9 => h9) rfl dX3_stopBlowingAgainst_11 ?_
      refine sk_iload_n F dX3_stopBlowingAgainst_14 rfl 2 rfl ?_
      refine sk_aldF F hK ho dX3_stopBlowingAgainst_15 (fun h2 => ?_)
      refine sk_g1 (ref := "TunnelWatch$Fan") F hK (kC_f ho (inb_lt h2)) iX3_stopBlowingAgainst_1 0 (by decide) (by decide +kernel) (u_same (F.2.2.2.2 (.sameField "TunnelWatch$Fan" "TunnelWatch$Device" "command" "I") (by decide +kernel))) rfl dX3_stopBlowingAgainst_16 ?_
      refine sk_aload_n F dX3_stopBlowingAgainst_19 rfl 0 rfl ?_
      refine sk_g3 (ref := "TunnelWatch$Tube") F hK ho iX3_stopBlowingAgainst_3 8 (by decide) (by decide +kernel) (fun _ h9 => h9) rfl dX3_stopBlowingAgainst_20 ?_
      refine sk_ineg F dX3_stopBlowingAgainst_23 ?_
      refine sk_icmp_ne F 37 dX3_stopBlowingAgainst_24 (by decide) (fun h3 => ?_) (fun h3 => ?_)
      · refine sk_iinc (y := l2 + 1) F dX3_stopBlowingAgainst_37 2 rfl rfl (by decide) rfl ?_
        refine sk_goto F 2 dX3_stopBlowingAgainst_40 (by decide) ?_
        exact sk_lv [1, 2, 0] rfl (ih v (l2 + 1))
      · refine sk_aload_n F dX3_stopBlowingAgainst_27 rfl 0 rfl ?_
        refine sk_g3 (ref := "TunnelWatch$Tube") F hK ho iX3_stopBlowingAgainst_3 3 (by decide) (by decide +kernel) (fun _ h9 => h9) rfl dX3_stopBlowingAgainst_28 ?_
        refine sk_iload_n F dX3_stopBlowingAgainst_31 rfl 2 rfl ?_
        refine sk_aldF F hK ho dX3_stopBlowingAgainst_32 (fun h4 => ?_)
        refine sk_iload_n F dX3_stopBlowingAgainst_33 rfl 1 rfl ?_
        refine sk_callVv (As := [.int p1]) (rest := []) F hK hA hZ _ (tX1_stand hn (kC_f ho (inb_lt h4)) _) (cwV 1 F.2.2.2.2 gX3_stopBlowingAgainst_X1_stand rfl rfl rfl (by decide +kernel) ⟨Nat.le_of_ble_eq_true rfl, Nat.le_of_ble_eq_true rfl⟩) (rc1 hK (kC_f ho (inb_lt h4))) rfl rfl (Nat.le_of_ble_eq_true rfl) (by decide) dX3_stopBlowingAgainst_34 (fun v6 c5 => ?_)
        refine sk_iinc (y := l2 + 1) F dX3_stopBlowingAgainst_37 2 rfl rfl (by decide) rfl ?_
        refine sk_goto F 2 dX3_stopBlowingAgainst_40 (by decide) ?_
        exact sk_lv [1, 2, 0] rfl (ih v6 (l2 + 1))
def fX3_stopBlowingAgainst (o : Nat) (p1 : Int32) (v : Mem) : Option (Mem) := fX3_stopBlowingAgainst_2 o p1 1000 v 0
set_option maxRecDepth 100000 in
set_option maxHeartbeats 4000000 in
theorem kX3_stopBlowingAgainst_0 {p : Program} {l : Launch} {e : Env} {s : State} {m : MethodId} {args : Array Value} {below : List Frame} {meth : Method} {c : Code} {D : va_G} {A : Nat → Prop} {cI cS cF cZ cJ : ClassId} {ad : Nat → Nat} {X : va_W} {n : Nat} {o : Nat} {p1 : Int32} (G : cx p s m args meth c cX3_stopBlowingAgainst 3 wsX3_stopBlowingAgainst RX3 D (ty5 cI cS cF cZ cJ) A none) (hn : n ≤ 24) (ho : kC n o = 3) (v : Mem) : sk p l e rmX3_stopBlowingAgainst s m args below meth c D A 3 0 0 (fun res => MQ below (qv D A (ty5 cI cS cF cZ cJ) (Wc cI cS cF ad n X) res) args s 0 0 A) (Wc cI cS cF ad n X v) 0 [(0, .ref (ad o)), (1, .int p1)] [] (fX3_stopBlowingAgainst o p1 v) := by
  obtain ⟨F, hK, hA, hZ, hr, hlocks⟩ := G
  refine sk_eq (K' := fX3_stopBlowingAgainst_2 o p1 1000 v 0) rfl ?_
  refine sk_iconst (x := 0) F dX3_stopBlowingAgainst_0 (by decide) ?_
  refine sk_istore_n F dX3_stopBlowingAgainst_1 rfl (by decide) rfl ?_
  exact sk_lv [1, 2, 0] rfl (kX3_stopBlowingAgainst_2 ⟨F, hK, hA, hZ, hr, hlocks⟩ hn ho 1000 v 0)
theorem tX3_stopBlowingAgainst {l : Launch} {D : va_G} {A : Nat → Prop} {cI cS cF cZ cJ : ClassId} {ad : Nat → Nat} {X : va_W} {n : Nat} (hn : n ≤ 24) {o : Nat} {p1 : Int32} (ho : kC n o = 3) (v : Mem) : CV l yX3_stopBlowingAgainst wsX3_stopBlowingAgainst rmX3_stopBlowingAgainst D A (ty5 cI cS cF cZ cJ) (Wc cI cS cF ad n X) [.ref (ad o), .int p1] v (fX3_stopBlowingAgainst o p1 v) :=
  CV_of (cc := cX3_stopBlowingAgainst) (maxL := 3) (ret := none) (by decide) rfl (Nat.le_of_ble_eq_true rfl) (fun p e s m below meth c G => kX3_stopBlowingAgainst_0 G hn ho v)
def rmX3_longestRun : Room := { frames := 0, cells := 0, slots := 0, locals := 0 }
theorem iX3_longestRun_1 : ∀ w ∈ wsX10, w ∈ wsX3_longestRun := by decide +kernel
theorem iX3_longestRun_3 : ∀ w ∈ wsX30, w ∈ wsX3_longestRun := by decide +kernel
def fX3_longestRun_87 (kb4 : Mem → Int32 → Int32 → Option (Int32 × Mem)) (o : Nat) (p1 : Int32) (v : Mem) (l3 : Int32) : Option (Int32 × Mem) := kb4 v l3 (l3 + 1)
set_option maxRecDepth 100000 in
set_option maxHeartbeats 4000000 in
theorem kX3_longestRun_87 {p : Program} {l : Launch} {e : Env} {s : State} {m : MethodId} {args : Array Value} {below : List Frame} {meth : Method} {c : Code} {D : va_G} {A : Nat → Prop} {cI cS cF cZ cJ : ClassId} {ad : Nat → Nat} {X : va_W} {n : Nat} {o : Nat} {p1 : Int32} {kb4 : Mem → Int32 → Int32 → Option (Int32 × Mem)} (G : cx p s m args meth c cX3_longestRun 6 wsX3_longestRun RX3 D (ty5 cI cS cF cZ cJ) A (some .int)) (hn : n ≤ 24) (ho : kC n o = 3) (hkb4 : ∀ (v : Mem) (l2 : Int32) (l3 : Int32), sk p l e rmX3_longestRun s m args below meth c D A 6 0 0 (fun res => MQ below (qi D A (ty5 cI cS cF cZ cJ) (Wc cI cS cF ad n X) res) args s 0 0 A) (Wc cI cS cF ad n X v) 4 [(0, .ref (ad o)), (1, .int p1), (2, .int l2), (3, .int l3)] [] (kb4 v l2 l3)) (v : Mem) (l3 : Int32) : sk p l e rmX3_longestRun s m args below meth c D A 6 0 0 (fun res => MQ below (qi D A (ty5 cI cS cF cZ cJ) (Wc cI cS cF ad n X) res) args s 0 0 A) (Wc cI cS cF ad n X v) 87 [(0, .ref (ad o)), (1, .int p1), (3, .int l3)] [] (fX3_longestRun_87 kb4 o p1 v l3) := by
  obtain ⟨F, hK, hA, hZ, hr, hlocks⟩ := G
  refine sk_eq (K' := kb4 v l3 (l3 + 1)) rfl ?_
  refine sk_iload_n F dX3_longestRun_87 rfl 2 rfl ?_
  refine sk_istore_n F dX3_longestRun_88 rfl (by decide) rfl ?_
  refine sk_iinc (y := l3 + 1) F dX3_longestRun_89 3 rfl rfl (by decide) rfl ?_
  refine sk_goto F 4 dX3_longestRun_92 (by decide) ?_
  exact sk_lv [2, 3, 1, 0] rfl (hkb4 v l3 (l3 + 1))
def fX3_longestRun_54 (kb4 : Mem → Int32 → Int32 → Option (Int32 × Mem)) (o : Nat) (p1 : Int32) (v : Mem) (l2 : Int32) (l3 : Int32) (s0 : Int32) : Option (Int32 × Mem) := if s0 = 0 then kb4 v l2 (l3 + 1) else if l2 = (-1) then fX3_longestRun_87 kb4 o p1 v l3 else gd (inb l3 12) (gd (inb l2 12) (if (v (o + 5 + l3.toNatClampNeg) 7) ≤ (v (o + 5 + l2.toNatClampNeg) 7) then kb4 v l2 (l3 + 1) else fX3_longestRun_87 kb4 o p1 v l3))
set_option maxRecDepth 100000 in
set_option maxHeartbeats 4000000 in
theorem kX3_longestRun_54 {p : Program} {l : Launch} {e : Env} {s : State} {m : MethodId} {args : Array Value} {below : List Frame} {meth : Method} {c : Code} {D : va_G} {A : Nat → Prop} {cI cS cF cZ cJ : ClassId} {ad : Nat → Nat} {X : va_W} {n : Nat} {o : Nat} {p1 : Int32} {kb4 : Mem → Int32 → Int32 → Option (Int32 × Mem)} (G : cx p s m args meth c cX3_longestRun 6 wsX3_longestRun RX3 D (ty5 cI cS cF cZ cJ) A (some .int)) (hn : n ≤ 24) (ho : kC n o = 3) (hkb4 : ∀ (v : Mem) (l2 : Int32) (l3 : Int32), sk p l e rmX3_longestRun s m args below meth c D A 6 0 0 (fun res => MQ below (qi D A (ty5 cI cS cF cZ cJ) (Wc cI cS cF ad n X) res) args s 0 0 A) (Wc cI cS cF ad n X v) 4 [(0, .ref (ad o)), (1, .int p1), (2, .int l2), (3, .int l3)] [] (kb4 v l2 l3)) (v : Mem) (l2 : Int32) (l3 : Int32) (s0 : Int32) : sk p l e rmX3_longestRun s m args below meth c D A 6 0 0 (fun res => MQ below (qi D A (ty5 cI cS cF cZ cJ) (Wc cI cS cF ad n X) res) args s 0 0 A) (Wc cI cS cF ad n X v) 54 [(0, .ref (ad o)), (1, .int p1), (2, .int l2), (3, .int l3)] [.int s0] (fX3_longestRun_54 kb4 o p1 v l2 l3 s0) := by
  obtain ⟨F, hK, hA, hZ, hr, hlocks⟩ := G
  refine sk_eq (K' := if s0 = 0 then kb4 v l2 (l3 + 1) else if l2 = (-1) then fX3_longestRun_87 kb4 o p1 v l3 else gd (inb l3 12) (gd (inb l2 12) (if (v (o + 5 + l3.toNatClampNeg) 7) ≤ (v (o + 5 + l2.toNatClampNeg) 7) then kb4 v l2 (l3 + 1) else fX3_longestRun_87 kb4 o p1 v l3))) rfl ?_
  refine sk_istore F dX3_longestRun_54 (by decide) rfl ?_
  refine sk_iload F dX3_longestRun_56 0 rfl ?_
  refine sk_if_eq F 89 dX3_longestRun_58 (by decide) (fun h6 => ?_) (fun h6 => ?_)
  · refine sk_iinc (y := l3 + 1) F dX3_longestRun_89 4 rfl rfl (by decide) rfl ?_
    refine sk_goto F 4 dX3_longestRun_92 (by decide) ?_
    exact sk_lv [2, 3, 4, 0] rfl (hkb4 v l2 (l3 + 1))
  · refine sk_iload_n F dX3_longestRun_61 rfl 3 rfl ?_
    refine sk_iconst (x := (-1)) F dX3_longestRun_62 (by decide) ?_
    refine sk_icmp_eq F 87 dX3_longestRun_63 (by decide) (fun h7 => ?_) (fun h7 => ?_)
    · exact sk_lv [1, 2, 4] rfl (kX3_longestRun_87 ⟨F, hK, hA, hZ, hr, hlocks⟩ hn ho hkb4 v l3)
    · refine sk_aload_n F dX3_longestRun_66 rfl 1 rfl ?_
      refine sk_g3 (ref := "TunnelWatch$Tube") F hK ho iX3_longestRun_3 3 (by decide) (by decide +kernel) (fun _ h9 => h9) rfl dX3_longestRun_67 ?_
      refine sk_iload_n F dX3_longestRun_70 rfl 4 rfl ?_
      refine sk_aldF F hK ho dX3_longestRun_71 (fun h8 => ?_)
      refine sk_g1 (ref := "TunnelWatch$Fan") F hK (kC_f ho (inb_lt h8)) iX3_longestRun_1 7 (by decide) (by decide +kernel) (fun _ h9 => h9) rfl dX3_longestRun_72 ?_
      refine sk_aload_n F dX3_longestRun_75 rfl 1 rfl ?_
      refine sk_g3 (ref := "TunnelWatch$Tube") F hK ho iX3_longestRun_3 3 (by decide) (by decide +kernel) (fun _ h9 => h9) rfl dX3_longestRun_76 ?_
      refine sk_iload_n F dX3_longestRun_79 rfl 3 rfl ?_
      refine sk_aldF F hK ho dX3_longestRun_80 (fun h9 => ?_)
      refine sk_g1 (ref := "TunnelWatch$Fan") F hK (kC_f ho (inb_lt h9)) iX3_longestRun_1 7 (by decide) (by decide +kernel) (fun _ h9 => h9) rfl dX3_longestRun_81 ?_
      refine sk_icmp_le F 89 dX3_longestRun_84 (by decide) (fun h10 => ?_) (fun h10 => ?_)
      · refine sk_iinc (y := l3 + 1) F dX3_longestRun_89 4 rfl rfl (by decide) rfl ?_
        refine sk_goto F 4 dX3_longestRun_92 (by decide) ?_
        exact sk_lv [2, 3, 4, 0] rfl (hkb4 v l2 (l3 + 1))
      · exact sk_lv [1, 2, 4] rfl (kX3_longestRun_87 ⟨F, hK, hA, hZ, hr, hlocks⟩ hn ho hkb4 v l3)
def fX3_longestRun_4 (o : Nat) (p1 : Int32) : Nat → Mem → Int32 → Int32 → Option (Int32 × Mem)
  | 0, _, _, _ => none
  | fuel + 1, v, l2, l3 => if (v o 4) ≤ l3 then some (l2, v) else gd (inb l3 12) (if p1 = 0 then if (v (o + 5 + l3.toNatClampNeg) 0) = (v o 8) then fX3_longestRun_54 (fun v l2 l3 => fX3_longestRun_4 o p1 fuel v l2 l3) o p1 v l2 l3 1 else fX3_longestRun_54 (fun v l2 l3 => fX3_longestRun_4 o p1 fuel v l2 l3) o p1 v l2 l3 0 else if (v (o + 5 + l3.toNatClampNeg) 0) = 0 then fX3_longestRun_54 (fun v l2 l3 => fX3_longestRun_4 o p1 fuel v l2 l3) o p1 v l2 l3 0 else fX3_longestRun_54 (fun v l2 l3 => fX3_longestRun_4 o p1 fuel v l2 l3) o p1 v l2 l3 1)
set_option maxRecDepth 100000 in
set_option maxHeartbeats 4000000 in
theorem kX3_longestRun_4 {p : Program} {l : Launch} {e : Env} {s : State} {m : MethodId} {args : Array Value} {below : List Frame} {meth : Method} {c : Code} {D : va_G} {A : Nat → Prop} {cI cS cF cZ cJ : ClassId} {ad : Nat → Nat} {X : va_W} {n : Nat} {o : Nat} {p1 : Int32} (G : cx p s m args meth c cX3_longestRun 6 wsX3_longestRun RX3 D (ty5 cI cS cF cZ cJ) A (some .int)) (hn : n ≤ 24) (ho : kC n o = 3) : ∀ (fuel : Nat) (v : Mem) (l2 : Int32) (l3 : Int32), sk p l e rmX3_longestRun s m args below meth c D A 6 0 0 (fun res => MQ below (qi D A (ty5 cI cS cF cZ cJ) (Wc cI cS cF ad n X) res) args s 0 0 A) (Wc cI cS cF ad n X v) 4 [(0, .ref (ad o)), (1, .int p1), (2, .int l2), (3, .int l3)] [] (fX3_longestRun_4 o p1 fuel v l2 l3) := by
  obtain ⟨F, hK, hA, hZ, hr, hlocks⟩ := G
  intro fuel
  induction fuel with
  | zero => intro v l2 l3; exact sk_none
  | succ fuel ih =>
    intro v l2 l3
    refine sk_eq (K' := if (v o 4) ≤ l3 then some (l2, v) else gd (inb l3 12) (if p1 = 0 then if (v (o + 5 + l3.toNatClampNeg) 0) = (v o 8) then fX3_longestRun_54 (fun v l2 l3 => fX3_longestRun_4 o p1 fuel v l2 l3) o p1 v l2 l3 1 else fX3_longestRun_54 (fun v l2 l3 => fX3_longestRun_4 o p1 fuel v l2 l3) o p1 v l2 l3 0 else if (v (o + 5 + l3.toNatClampNeg) 0) = 0 then fX3_longestRun_54 (fun v l2 l3 => fX3_longestRun_4 o p1 fuel v l2 l3) o p1 v l2 l3 0 else fX3_longestRun_54 (fun v l2 l3 => fX3_longestRun_4 o p1 fuel v l2 l3) o p1 v l2 l3 1)) rfl ?_
    refine sk_iload_n F dX3_longestRun_4 rfl 3 rfl ?_
    refine sk_aload_n F dX3_longestRun_5 rfl 0 rfl ?_
    refine sk_g3 (ref := "TunnelWatch$Tube") F hK ho iX3_longestRun_3 4 (by decide) (by decide +kernel) (fun _ h9 => h9) rfl dX3_longestRun_6 ?_
    refine sk_icmp_ge F 95 dX3_longestRun_9 (by decide) (fun h1 => ?_) (fun h1 => ?_)
    · refine sk_iload_n F dX3_longestRun_95 rfl 2 rfl ?_
      exact sk_iret F hK hr hlocks dX3_longestRun_96
    · refine sk_aload_n F dX3_longestRun_12 rfl 0 rfl ?_
      refine sk_g3 (ref := "TunnelWatch$Tube") F hK ho iX3_longestRun_3 3 (by decide) (by decide +kernel) (fun _ h9 => h9) rfl dX3_longestRun_13 ?_
      refine sk_iload_n F dX3_longestRun_16 rfl 3 rfl ?_
      refine sk_aldF F hK ho dX3_longestRun_17 (fun h2 => ?_)
      refine sk_g1 (ref := "TunnelWatch$Fan") F hK (kC_f ho (inb_lt h2)) iX3_longestRun_1 0 (by decide) (by decide +kernel) (u_same (F.2.2.2.2 (.sameField "TunnelWatch$Fan" "TunnelWatch$Device" "command" "I") (by decide +kernel))) rfl dX3_longestRun_18 ?_
      refine sk_istore F dX3_longestRun_21 (by decide) rfl ?_
      refine sk_iload_n F dX3_longestRun_23 rfl 2 rfl ?_
      refine sk_if_eq F 40 dX3_longestRun_24 (by decide) (fun h3 => ?_) (fun h3 => ?_)
      · refine sk_iload F dX3_longestRun_40 0 rfl ?_
        refine sk_aload_n F dX3_longestRun_42 rfl 1 rfl ?_
        refine sk_g3 (ref := "TunnelWatch$Tube") F hK ho iX3_longestRun_3 8 (by decide) (by decide +kernel) (fun _ h9 => h9) rfl dX3_longestRun_43 ?_
        refine sk_icmp_ne F 53 dX3_longestRun_46 (by decide) (fun h4 => ?_) (fun h4 => ?_)
        · refine sk_iconst (x := 0) F dX3_longestRun_53 (by decide) ?_
          exact sk_lv [1, 2, 3, 4] rfl (kX3_longestRun_54 ⟨F, hK, hA, hZ, hr, hlocks⟩ hn ho ih v l2 l3 0)
        · refine sk_iconst (x := 1) F dX3_longestRun_49 (by decide) ?_
          refine sk_goto F 54 dX3_longestRun_50 (by decide) ?_
          exact sk_lv [1, 2, 3, 4] rfl (kX3_longestRun_54 ⟨F, hK, hA, hZ, hr, hlocks⟩ hn ho ih v l2 l3 1)
      · refine sk_iload F dX3_longestRun_27 0 rfl ?_
        refine sk_if_eq F 36 dX3_longestRun_29 (by decide) (fun h5 => ?_) (fun h5 => ?_)
        · refine sk_iconst (x := 0) F dX3_longestRun_36 (by decide) ?_
          refine sk_goto F 54 dX3_longestRun_37 (by decide) ?_
          exact sk_lv [1, 2, 3, 4] rfl (kX3_longestRun_54 ⟨F, hK, hA, hZ, hr, hlocks⟩ hn ho ih v l2 l3 0)
        · refine sk_iconst (x := 1) F dX3_longestRun_32 (by decide) ?_
          refine sk_goto F 54 dX3_longestRun_33 (by decide) ?_
          exact sk_lv [1, 2, 3, 4] rfl (kX3_longestRun_54 ⟨F, hK, hA, hZ, hr, hlocks⟩ hn ho ih v l2 l3 1)
def fX3_longestRun (o : Nat) (p1 : Int32) (v : Mem) : Option (Int32 × Mem) := fX3_longestRun_4 o p1 1000 v (-1) 0
set_option maxRecDepth 100000 in
set_option maxHeartbeats 4000000 in
theorem kX3_longestRun_0 {p : Program} {l : Launch} {e : Env} {s : State} {m : MethodId} {args : Array Value} {below : List Frame} {meth : Method} {c : Code} {D : va_G} {A : Nat → Prop} {cI cS cF cZ cJ : ClassId} {ad : Nat → Nat} {X : va_W} {n : Nat} {o : Nat} {p1 : Int32} (G : cx p s m args meth c cX3_longestRun 6 wsX3_longestRun RX3 D (ty5 cI cS cF cZ cJ) A (some .int)) (hn : n ≤ 24) (ho : kC n o = 3) (v : Mem) : sk p l e rmX3_longestRun s m args below meth c D A 6 0 0 (fun res => MQ below (qi D A (ty5 cI cS cF cZ cJ) (Wc cI cS cF ad n X) res) args s 0 0 A) (Wc cI cS cF ad n X v) 0 [(0, .ref (ad o)), (1, .int p1)] [] (fX3_longestRun o p1 v) := by
  obtain ⟨F, hK, hA, hZ, hr, hlocks⟩ := G
  refine sk_eq (K' := fX3_longestRun_4 o p1 1000 v (-1) 0) rfl ?_
  refine sk_iconst (x := (-1)) F dX3_longestRun_0 (by decide) ?_
  refine sk_istore_n F dX3_longestRun_1 rfl (by decide) rfl ?_
  refine sk_iconst (x := 0) F dX3_longestRun_2 (by decide) ?_
  refine sk_istore_n F dX3_longestRun_3 rfl (by decide) rfl ?_
  exact sk_lv [2, 3, 1, 0] rfl (kX3_longestRun_4 ⟨F, hK, hA, hZ, hr, hlocks⟩ hn ho 1000 v (-1) 0)
theorem tX3_longestRun {l : Launch} {D : va_G} {A : Nat → Prop} {cI cS cF cZ cJ : ClassId} {ad : Nat → Nat} {X : va_W} {n : Nat} (hn : n ≤ 24) {o : Nat} {p1 : Int32} (ho : kC n o = 3) (v : Mem) : CI l yX3_longestRun wsX3_longestRun rmX3_longestRun D A (ty5 cI cS cF cZ cJ) (Wc cI cS cF ad n X) [.ref (ad o), .int p1] v (fX3_longestRun o p1 v) :=
  CI_of (cc := cX3_longestRun) (maxL := 6) (ret := (some .int)) (by decide) rfl (Nat.le_of_ble_eq_true rfl) (fun p e s m below meth c G => kX3_longestRun_0 G hn ho v)
def rmX3_stopAt : Room := { frames := 2, cells := 0, slots := 0, locals := 43 }
theorem iX3_stopAt_3 : ∀ w ∈ wsX30, w ∈ wsX3_stopAt := by decide +kernel
def fX3_stopAt (o : Nat) (p1 : Int32) (p2 : Int32) (v : Mem) : Option (Mem) := if p1 = (-1) then some v else gd (inb p1 12) ((fX1_stand (o + 5 + p1.toNatClampNeg) p2 v).bind fun v4 => some v4)
set_option maxRecDepth 100000 in
set_option maxHeartbeats 4000000 in
theorem kX3_stopAt_0 {p : Program} {l : Launch} {e : Env} {s : State} {m : MethodId} {args : Array Value} {below : List Frame} {meth : Method} {c : Code} {D : va_G} {A : Nat → Prop} {cI cS cF cZ cJ : ClassId} {ad : Nat → Nat} {X : va_W} {n : Nat} {o : Nat} {p1 : Int32} {p2 : Int32} (G : cx p s m args meth c cX3_stopAt 3 wsX3_stopAt RX3 D (ty5 cI cS cF cZ cJ) A none) (hn : n ≤ 24) (ho : kC n o = 3) (v : Mem) : sk p l e rmX3_stopAt s m args below meth c D A 3 0 0 (fun res => MQ below (qv D A (ty5 cI cS cF cZ cJ) (Wc cI cS cF ad n X) res) args s 0 0 A) (Wc cI cS cF ad n X v) 0 [(0, .ref (ad o)), (1, .int p1), (2, .int p2)] [] (fX3_stopAt o p1 p2 v) := by
  obtain ⟨F, hK, hA, hZ, hr, hlocks⟩ := G
  refine sk_eq (K' := if p1 = (-1) then some v else gd (inb p1 12) ((fX1_stand (o + 5 + p1.toNatClampNeg) p2 v).bind fun v4 => some v4)) rfl ?_
  refine sk_iload_n F dX3_stopAt_0 rfl 1 rfl ?_
  refine sk_iconst (x := (-1)) F dX3_stopAt_1 (by decide) ?_
  refine sk_icmp_eq F 15 dX3_stopAt_2 (by decide) (fun h1 => ?_) (fun h1 => ?_)
  · exact sk_vret F hK hr hlocks dX3_stopAt_15
  · refine sk_aload_n F dX3_stopAt_5 rfl 0 rfl ?_
    refine sk_g3 (ref := "TunnelWatch$Tube") F hK ho iX3_stopAt_3 3 (by decide) (by decide +kernel) (fun _ h9 => h9) rfl dX3_stopAt_6 ?_
    refine sk_iload_n F dX3_stopAt_9 rfl 1 rfl ?_
    refine sk_aldF F hK ho dX3_stopAt_10 (fun h2 => ?_)
    refine sk_iload_n F dX3_stopAt_11 rfl 2 rfl ?_
    refine sk_callVv (As := [.int p2]) (rest := []) F hK hA hZ _ (tX1_stand hn (kC_f ho (inb_lt h2)) _) (cwV 1 F.2.2.2.2 gX3_stopAt_X1_stand rfl rfl rfl (by decide +kernel) ⟨Nat.le_of_ble_eq_true rfl, Nat.le_of_ble_eq_true rfl⟩) (rc1 hK (kC_f ho (inb_lt h2))) rfl rfl (Nat.le_of_ble_eq_true rfl) (by decide) dX3_stopAt_12 (fun v4 c3 => ?_)
    exact sk_vret F hK hr hlocks dX3_stopAt_15
theorem tX3_stopAt {l : Launch} {D : va_G} {A : Nat → Prop} {cI cS cF cZ cJ : ClassId} {ad : Nat → Nat} {X : va_W} {n : Nat} (hn : n ≤ 24) {o : Nat} {p1 : Int32} {p2 : Int32} (ho : kC n o = 3) (v : Mem) : CV l yX3_stopAt wsX3_stopAt rmX3_stopAt D A (ty5 cI cS cF cZ cJ) (Wc cI cS cF ad n X) [.ref (ad o), .int p1, .int p2] v (fX3_stopAt o p1 p2 v) :=
  CV_of (cc := cX3_stopAt) (maxL := 3) (ret := none) (by decide) rfl (Nat.le_of_ble_eq_true rfl) (fun p e s m below meth c G => kX3_stopAt_0 G hn ho v)
def rmX3_stopFans : Room := { frames := 3, cells := 0, slots := 0, locals := 65 }
theorem iX3_stopFans_3 : ∀ w ∈ wsX30, w ∈ wsX3_stopFans := by decide +kernel
def fX3_stopFans_34 (o : Nat) (p1 : Int32) (p2 : Int32) : Nat → Mem → Int32 → Int32 → Option (Mem)
  | 0, _, _, _ => none
  | fuel + 1, v, l3, l4 => if l3 ≤ l4 then some v else bd (fX3_longestRun o 0 v) fun x15 v14 => (fX3_stopAt o x15 p2 v14).bind fun v17 => fX3_stopFans_34 o p1 p2 fuel v17 l3 (l4 + 1)
set_option maxRecDepth 100000 in
set_option maxHeartbeats 4000000 in
theorem kX3_stopFans_34 {p : Program} {l : Launch} {e : Env} {s : State} {m : MethodId} {args : Array Value} {below : List Frame} {meth : Method} {c : Code} {D : va_G} {A : Nat → Prop} {cI cS cF cZ cJ : ClassId} {ad : Nat → Nat} {X : va_W} {n : Nat} {o : Nat} {p1 : Int32} {p2 : Int32} (G : cx p s m args meth c cX3_stopFans 5 wsX3_stopFans RX3 D (ty5 cI cS cF cZ cJ) A none) (hn : n ≤ 24) (ho : kC n o = 3) : ∀ (fuel : Nat) (v : Mem) (l3 : Int32) (l4 : Int32), sk p l e rmX3_stopFans s m args below meth c D A 5 0 0 (fun res => MQ below (qv D A (ty5 cI cS cF cZ cJ) (Wc cI cS cF ad n X) res) args s 0 0 A) (Wc cI cS cF ad n X v) 34 [(0, .ref (ad o)), (2, .int p2), (3, .int l3), (4, .int l4)] [] (fX3_stopFans_34 o p1 p2 fuel v l3 l4) := by
  obtain ⟨F, hK, hA, hZ, hr, hlocks⟩ := G
  intro fuel
  induction fuel with
  | zero => intro v l3 l4; exact sk_none
  | succ fuel ih =>
    intro v l3 l4
    refine sk_eq (K' := if l3 ≤ l4 then some v else bd (fX3_longestRun o 0 v) fun x15 v14 => (fX3_stopAt o x15 p2 v14).bind fun v17 => fX3_stopFans_34 o p1 p2 fuel v17 l3 (l4 + 1)) rfl ?_
    refine sk_iload F dX3_stopFans_34 3 rfl ?_
    refine sk_iload_n F dX3_stopFans_36 rfl 2 rfl ?_
    refine sk_icmp_ge F 56 dX3_stopFans_37 (by decide) (fun h12 => ?_) (fun h12 => ?_)
    · exact sk_vret F hK hr hlocks dX3_stopFans_56
    · refine sk_aload_n F dX3_stopFans_40 rfl 0 rfl ?_
      refine sk_aload_n F dX3_stopFans_41 rfl 0 rfl ?_
      refine sk_iconst (x := 0) F dX3_stopFans_42 (by decide) ?_
      refine sk_callVi (As := [.int 0]) (rest := [.ref (ad o)]) F hK hA hZ _ (tX3_longestRun hn ho _) (cwV 1 F.2.2.2.2 gX3_stopFans_X3_longestRun rfl rfl rfl (by decide +kernel) ⟨Nat.le_of_ble_eq_true rfl, Nat.le_of_ble_eq_true rfl⟩) (rc3 hK ho) rfl rfl (Nat.le_of_ble_eq_true rfl) (by decide) dX3_stopFans_43 (fun x15 v14 c13 => ?_)
      refine sk_iload_n F dX3_stopFans_46 rfl 1 rfl ?_
      refine sk_callVv (As := [.int x15, .int p2]) (rest := []) F hK hA hZ _ (tX3_stopAt hn ho _) (cwV 2 F.2.2.2.2 gX3_stopFans_X3_stopAt rfl rfl rfl (by decide +kernel) ⟨Nat.le_of_ble_eq_true rfl, Nat.le_of_ble_eq_true rfl⟩) (rc3 hK ho) rfl rfl (Nat.le_of_ble_eq_true rfl) (by decide) dX3_stopFans_47 (fun v17 c16 => ?_)
      refine sk_iinc (y := l4 + 1) F dX3_stopFans_50 3 rfl rfl (by decide) rfl ?_
      refine sk_goto F 34 dX3_stopFans_53 (by decide) ?_
      exact sk_lv [1, 2, 3, 0] rfl (ih v17 l3 (l4 + 1))
def fX3_stopFans_17 (o : Nat) (p1 : Int32) (p2 : Int32) (v : Mem) : Option (Mem) := bd (fX3_countBlowing o (v o 8) v) fun x11 v10 => fX3_stopFans_34 o p1 p2 1000 v10 (x11 - (v10 o 9)) 0
set_option maxRecDepth 100000 in
set_option maxHeartbeats 4000000 in
theorem kX3_stopFans_17 {p : Program} {l : Launch} {e : Env} {s : State} {m : MethodId} {args : Array Value} {below : List Frame} {meth : Method} {c : Code} {D : va_G} {A : Nat → Prop} {cI cS cF cZ cJ : ClassId} {ad : Nat → Nat} {X : va_W} {n : Nat} {o : Nat} {p1 : Int32} {p2 : Int32} (G : cx p s m args meth c cX3_stopFans 5 wsX3_stopFans RX3 D (ty5 cI cS cF cZ cJ) A none) (hn : n ≤ 24) (ho : kC n o = 3) (v : Mem) : sk p l e rmX3_stopFans s m args below meth c D A 5 0 0 (fun res => MQ below (qv D A (ty5 cI cS cF cZ cJ) (Wc cI cS cF ad n X) res) args s 0 0 A) (Wc cI cS cF ad n X v) 17 [(0, .ref (ad o)), (2, .int p2)] [] (fX3_stopFans_17 o p1 p2 v) := by
  obtain ⟨F, hK, hA, hZ, hr, hlocks⟩ := G
  refine sk_eq (K' := bd (fX3_countBlowing o (v o 8) v) fun x11 v10 => fX3_stopFans_34 o p1 p2 1000 v10 (x11 - (v10 o 9)) 0) rfl ?_
  refine sk_aload_n F dX3_stopFans_17 rfl 0 rfl ?_
  refine sk_aload_n F dX3_stopFans_18 rfl 0 rfl ?_
  refine sk_g3 (ref := "TunnelWatch$Tube") F hK ho iX3_stopFans_3 8 (by decide) (by decide +kernel) (fun _ h9 => h9) rfl dX3_stopFans_19 ?_
  refine sk_callVi (As := [.int (v o 8)]) (rest := []) F hK hA hZ _ (tX3_countBlowing hn ho _) (cwV 1 F.2.2.2.2 gX3_stopFans_X3_countBlowing rfl rfl rfl (by decide +kernel) ⟨Nat.le_of_ble_eq_true rfl, Nat.le_of_ble_eq_true rfl⟩) (rc3 hK ho) rfl rfl (Nat.le_of_ble_eq_true rfl) (by decide) dX3_stopFans_22 (fun x11 v10 c9 => ?_)
  refine sk_aload_n F dX3_stopFans_25 rfl 0 rfl ?_
  refine sk_g3 (ref := "TunnelWatch$Tube") F hK ho iX3_stopFans_3 9 (by decide) (by decide +kernel) (fun _ h9 => h9) rfl dX3_stopFans_26 ?_
  refine sk_isub F dX3_stopFans_29 ?_
  refine sk_istore_n F dX3_stopFans_30 rfl (by decide) rfl ?_
  refine sk_iconst (x := 0) F dX3_stopFans_31 (by decide) ?_
  refine sk_istore F dX3_stopFans_32 (by decide) rfl ?_
  exact sk_lv [2, 3, 1, 0] rfl (kX3_stopFans_34 ⟨F, hK, hA, hZ, hr, hlocks⟩ hn ho 1000 v10 (x11 - (v10 o 9)) 0)
def fX3_stopFans_12 (o : Nat) (p1 : Int32) (p2 : Int32) (v : Mem) : Option (Mem) := (fX3_stopBlowingAgainst o p2 v).bind fun v7 => fX3_stopFans_17 o p1 p2 v7
set_option maxRecDepth 100000 in
set_option maxHeartbeats 4000000 in
theorem kX3_stopFans_12 {p : Program} {l : Launch} {e : Env} {s : State} {m : MethodId} {args : Array Value} {below : List Frame} {meth : Method} {c : Code} {D : va_G} {A : Nat → Prop} {cI cS cF cZ cJ : ClassId} {ad : Nat → Nat} {X : va_W} {n : Nat} {o : Nat} {p1 : Int32} {p2 : Int32} (G : cx p s m args meth c cX3_stopFans 5 wsX3_stopFans RX3 D (ty5 cI cS cF cZ cJ) A none) (hn : n ≤ 24) (ho : kC n o = 3) (v : Mem) : sk p l e rmX3_stopFans s m args below meth c D A 5 0 0 (fun res => MQ below (qv D A (ty5 cI cS cF cZ cJ) (Wc cI cS cF ad n X) res) args s 0 0 A) (Wc cI cS cF ad n X v) 12 [(0, .ref (ad o)), (2, .int p2)] [] (fX3_stopFans_12 o p1 p2 v) := by
  obtain ⟨F, hK, hA, hZ, hr, hlocks⟩ := G
  refine sk_eq (K' := (fX3_stopBlowingAgainst o p2 v).bind fun v7 => fX3_stopFans_17 o p1 p2 v7) rfl ?_
  refine sk_aload_n F dX3_stopFans_12 rfl 0 rfl ?_
  refine sk_iload_n F dX3_stopFans_13 rfl 1 rfl ?_
  refine sk_callVv (As := [.int p2]) (rest := []) F hK hA hZ _ (tX3_stopBlowingAgainst hn ho _) (cwV 1 F.2.2.2.2 gX3_stopFans_X3_stopBlowingAgainst rfl rfl rfl (by decide +kernel) ⟨Nat.le_of_ble_eq_true rfl, Nat.le_of_ble_eq_true rfl⟩) (rc3 hK ho) rfl rfl (Nat.le_of_ble_eq_true rfl) (by decide) dX3_stopFans_14 (fun v7 c6 => ?_)
  exact kX3_stopFans_17 ⟨F, hK, hA, hZ, hr, hlocks⟩ hn ho v7
def fX3_stopFans (o : Nat) (p1 : Int32) (p2 : Int32) (v : Mem) : Option (Mem) := if p1 = 0 then fX3_stopFans_12 o p1 p2 v else bd (fX3_isHalted o p2 v) fun x4 v3 => if x4 = 0 then fX3_stopFans_17 o p1 p2 v3 else fX3_stopFans_12 o p1 p2 v3
set_option maxRecDepth 100000 in
set_option maxHeartbeats 4000000 in
theorem kX3_stopFans_0 {p : Program} {l : Launch} {e : Env} {s : State} {m : MethodId} {args : Array Value} {below : List Frame} {meth : Method} {c : Code} {D : va_G} {A : Nat → Prop} {cI cS cF cZ cJ : ClassId} {ad : Nat → Nat} {X : va_W} {n : Nat} {o : Nat} {p1 : Int32} {p2 : Int32} (G : cx p s m args meth c cX3_stopFans 5 wsX3_stopFans RX3 D (ty5 cI cS cF cZ cJ) A none) (hn : n ≤ 24) (ho : kC n o = 3) (v : Mem) : sk p l e rmX3_stopFans s m args below meth c D A 5 0 0 (fun res => MQ below (qv D A (ty5 cI cS cF cZ cJ) (Wc cI cS cF ad n X) res) args s 0 0 A) (Wc cI cS cF ad n X v) 0 [(0, .ref (ad o)), (1, .int p1), (2, .int p2)] [] (fX3_stopFans o p1 p2 v) := by
  obtain ⟨F, hK, hA, hZ, hr, hlocks⟩ := G
  refine sk_eq (K' := if p1 = 0 then fX3_stopFans_12 o p1 p2 v else bd (fX3_isHalted o p2 v) fun x4 v3 => if x4 = 0 then fX3_stopFans_17 o p1 p2 v3 else fX3_stopFans_12 o p1 p2 v3) rfl ?_
  refine sk_iload_n F dX3_stopFans_0 rfl 1 rfl ?_
  refine sk_if_eq F 12 dX3_stopFans_1 (by decide) (fun h1 => ?_) (fun h1 => ?_)
  · exact sk_lv [0, 2] rfl (kX3_stopFans_12 ⟨F, hK, hA, hZ, hr, hlocks⟩ hn ho v)
  · refine sk_aload_n F dX3_stopFans_4 rfl 0 rfl ?_
    refine sk_iload_n F dX3_stopFans_5 rfl 2 rfl ?_
    refine sk_callVi (As := [.int p2]) (rest := []) F hK hA hZ _ (tX3_isHalted hn ho _) (cwV 1 F.2.2.2.2 gX3_stopFans_X3_isHalted rfl rfl rfl (by decide +kernel) ⟨Nat.le_of_ble_eq_true rfl, Nat.le_of_ble_eq_true rfl⟩) (rc3 hK ho) rfl rfl (Nat.le_of_ble_eq_true rfl) (by decide) dX3_stopFans_6 (fun x4 v3 c2 => ?_)
    refine sk_if_eq F 17 dX3_stopFans_9 (by decide) (fun h5 => ?_) (fun h5 => ?_)
    · exact sk_lv [0, 2] rfl (kX3_stopFans_17 ⟨F, hK, hA, hZ, hr, hlocks⟩ hn ho v3)
    · exact sk_lv [0, 2] rfl (kX3_stopFans_12 ⟨F, hK, hA, hZ, hr, hlocks⟩ hn ho v3)
theorem tX3_stopFans {l : Launch} {D : va_G} {A : Nat → Prop} {cI cS cF cZ cJ : ClassId} {ad : Nat → Nat} {X : va_W} {n : Nat} (hn : n ≤ 24) {o : Nat} {p1 : Int32} {p2 : Int32} (ho : kC n o = 3) (v : Mem) : CV l yX3_stopFans wsX3_stopFans rmX3_stopFans D A (ty5 cI cS cF cZ cJ) (Wc cI cS cF ad n X) [.ref (ad o), .int p1, .int p2] v (fX3_stopFans o p1 p2 v) :=
  CV_of (cc := cX3_stopFans) (maxL := 5) (ret := none) (by decide) rfl (Nat.le_of_ble_eq_true rfl) (fun p e s m below meth c G => kX3_stopFans_0 G hn ho v)
def rmX3_stopLongestRun : Room := { frames := 3, cells := 0, slots := 0, locals := 65 }
def fX3_stopLongestRun (o : Nat) (p1 : Int32) (v : Mem) : Option (Int32 × Mem) := bd (fX3_longestRun o 1 v) fun x3 v2 => (fX3_stopAt o x3 p1 v2).bind fun v5 => if x3 = (-1) then some (0, v5) else some (1, v5)
set_option maxRecDepth 100000 in
set_option maxHeartbeats 4000000 in
theorem kX3_stopLongestRun_0 {p : Program} {l : Launch} {e : Env} {s : State} {m : MethodId} {args : Array Value} {below : List Frame} {meth : Method} {c : Code} {D : va_G} {A : Nat → Prop} {cI cS cF cZ cJ : ClassId} {ad : Nat → Nat} {X : va_W} {n : Nat} {o : Nat} {p1 : Int32} (G : cx p s m args meth c cX3_stopLongestRun 3 wsX3_stopLongestRun RX3 D (ty5 cI cS cF cZ cJ) A (some .boolean)) (hn : n ≤ 24) (ho : kC n o = 3) (v : Mem) : sk p l e rmX3_stopLongestRun s m args below meth c D A 3 0 0 (fun res => MQ below (qi D A (ty5 cI cS cF cZ cJ) (Wc cI cS cF ad n X) res) args s 0 0 A) (Wc cI cS cF ad n X v) 0 [(0, .ref (ad o)), (1, .int p1)] [] (fX3_stopLongestRun o p1 v) := by
  obtain ⟨F, hK, hA, hZ, hr, hlocks⟩ := G
  refine sk_eq (K' := bd (fX3_longestRun o 1 v) fun x3 v2 => (fX3_stopAt o x3 p1 v2).bind fun v5 => if x3 = (-1) then some (0, v5) else some (1, v5)) rfl ?_
  refine sk_aload_n F dX3_stopLongestRun_0 rfl 0 rfl ?_
  refine sk_iconst (x := 1) F dX3_stopLongestRun_1 (by decide) ?_
  refine sk_callVi (As := [.int 1]) (rest := []) F hK hA hZ _ (tX3_longestRun hn ho _) (cwV 1 F.2.2.2.2 gX3_stopLongestRun_X3_longestRun rfl rfl rfl (by decide +kernel) ⟨Nat.le_of_ble_eq_true rfl, Nat.le_of_ble_eq_true rfl⟩) (rc3 hK ho) rfl rfl (Nat.le_of_ble_eq_true rfl) (by decide) dX3_stopLongestRun_2 (fun x3 v2 c1 => ?_)
  refine sk_istore_n F dX3_stopLongestRun_5 rfl (by decide) rfl ?_
  refine sk_aload_n F dX3_stopLongestRun_6 rfl 1 rfl ?_
  refine sk_iload_n F dX3_stopLongestRun_7 rfl 0 rfl ?_
  refine sk_iload_n F dX3_stopLongestRun_8 rfl 2 rfl ?_
  refine sk_callVv (As := [.int x3, .int p1]) (rest := []) F hK hA hZ _ (tX3_stopAt hn ho _) (cwV 2 F.2.2.2.2 gX3_stopLongestRun_X3_stopAt rfl rfl rfl (by decide +kernel) ⟨Nat.le_of_ble_eq_true rfl, Nat.le_of_ble_eq_true rfl⟩) (rc3 hK ho) rfl rfl (Nat.le_of_ble_eq_true rfl) (by decide) dX3_stopLongestRun_9 (fun v5 c4 => ?_)
  refine sk_iload_n F dX3_stopLongestRun_12 rfl 0 rfl ?_
  refine sk_iconst (x := (-1)) F dX3_stopLongestRun_13 (by decide) ?_
  refine sk_icmp_eq F 21 dX3_stopLongestRun_14 (by decide) (fun h7 => ?_) (fun h7 => ?_)
  · refine sk_iconst (x := 0) F dX3_stopLongestRun_21 (by decide) ?_
    exact sk_zretc F hK hr hlocks (by decide) dX3_stopLongestRun_22
  · refine sk_iconst (x := 1) F dX3_stopLongestRun_17 (by decide) ?_
    refine sk_goto F 22 dX3_stopLongestRun_18 (by decide) ?_
    exact sk_zretc F hK hr hlocks (by decide) dX3_stopLongestRun_22
theorem tX3_stopLongestRun {l : Launch} {D : va_G} {A : Nat → Prop} {cI cS cF cZ cJ : ClassId} {ad : Nat → Nat} {X : va_W} {n : Nat} (hn : n ≤ 24) {o : Nat} {p1 : Int32} (ho : kC n o = 3) (v : Mem) : CI l yX3_stopLongestRun wsX3_stopLongestRun rmX3_stopLongestRun D A (ty5 cI cS cF cZ cJ) (Wc cI cS cF ad n X) [.ref (ad o), .int p1] v (fX3_stopLongestRun o p1 v) :=
  CI_of (cc := cX3_stopLongestRun) (maxL := 3) (ret := (some .boolean)) (by decide) rfl (Nat.le_of_ble_eq_true rfl) (fun p e s m below meth c G => kX3_stopLongestRun_0 G hn ho v)
def rmX3_isReady : Room := { frames := 2, cells := 0, slots := 0, locals := 46 }
theorem iX3_isReady_1 : ∀ w ∈ wsX10, w ∈ wsX3_isReady := by decide +kernel
theorem iX3_isReady_3 : ∀ w ∈ wsX30, w ∈ wsX3_isReady := by decide +kernel
def fX3_isReady_31 (o : Nat) (q1 : Nat) (p2 : Int32) (p3 : Int32) (v : Mem) : Option (Int32 × Mem) := some (0, v)
set_option maxRecDepth 100000 in
set_option maxHeartbeats 4000000 in
theorem kX3_isReady_31 {p : Program} {l : Launch} {e : Env} {s : State} {m : MethodId} {args : Array Value} {below : List Frame} {meth : Method} {c : Code} {D : va_G} {A : Nat → Prop} {cI cS cF cZ cJ : ClassId} {ad : Nat → Nat} {X : va_W} {n : Nat} {o : Nat} {q1 : Nat} {p2 : Int32} {p3 : Int32} (G : cx p s m args meth c cX3_isReady 4 wsX3_isReady RX3 D (ty5 cI cS cF cZ cJ) A (some .boolean)) (hn : n ≤ 24) (ho : kC n o = 3) (hq1 : kC n q1 = 1) (v : Mem) : sk p l e rmX3_isReady s m args below meth c D A 4 0 0 (fun res => MQ below (qi D A (ty5 cI cS cF cZ cJ) (Wc cI cS cF ad n X) res) args s 0 0 A) (Wc cI cS cF ad n X v) 31 [] [] (fX3_isReady_31 o q1 p2 p3 v) := by
  obtain ⟨F, hK, hA, hZ, hr, hlocks⟩ := G
  refine sk_eq (K' := some (0, v)) rfl ?_
  refine sk_iconst (x := 0) F dX3_isReady_31 (by decide) ?_
  exact sk_zretc F hK hr hlocks (by decide) dX3_isReady_32
def fX3_isReady (o : Nat) (q1 : Nat) (p2 : Int32) (p3 : Int32) (v : Mem) : Option (Int32 × Mem) := if (v q1 0) = 0 then if (v q1 5) = 0 then bd (fX1_hasRested q1 (v o 8) p2 p3 v) fun x5 v4 => if x5 = 0 then fX3_isReady_31 o q1 p2 p3 v4 else some (1, v4) else fX3_isReady_31 o q1 p2 p3 v else fX3_isReady_31 o q1 p2 p3 v
set_option maxRecDepth 100000 in
set_option maxHeartbeats 4000000 in
theorem kX3_isReady_0 {p : Program} {l : Launch} {e : Env} {s : State} {m : MethodId} {args : Array Value} {below : List Frame} {meth : Method} {c : Code} {D : va_G} {A : Nat → Prop} {cI cS cF cZ cJ : ClassId} {ad : Nat → Nat} {X : va_W} {n : Nat} {o : Nat} {q1 : Nat} {p2 : Int32} {p3 : Int32} (G : cx p s m args meth c cX3_isReady 4 wsX3_isReady RX3 D (ty5 cI cS cF cZ cJ) A (some .boolean)) (hn : n ≤ 24) (ho : kC n o = 3) (hq1 : kC n q1 = 1) (v : Mem) : sk p l e rmX3_isReady s m args below meth c D A 4 0 0 (fun res => MQ below (qi D A (ty5 cI cS cF cZ cJ) (Wc cI cS cF ad n X) res) args s 0 0 A) (Wc cI cS cF ad n X v) 0 [(0, .ref (ad o)), (1, .ref (ad q1)), (2, .int p2), (3, .int p3)] [] (fX3_isReady o q1 p2 p3 v) := by
  obtain ⟨F, hK, hA, hZ, hr, hlocks⟩ := G
  refine sk_eq (K' := if (v q1 0) = 0 then if (v q1 5) = 0 then bd (fX1_hasRested q1 (v o 8) p2 p3 v) fun x5 v4 => if x5 = 0 then fX3_isReady_31 o q1 p2 p3 v4 else some (1, v4) else fX3_isReady_31 o q1 p2 p3 v else fX3_isReady_31 o q1 p2 p3 v) rfl ?_
  refine sk_aload_n F dX3_isReady_0 rfl 1 rfl ?_
  refine sk_g1 (ref := "TunnelWatch$Fan") F hK hq1 iX3_isReady_1 0 (by decide) (by decide +kernel) (u_same (F.2.2.2.2 (.sameField "TunnelWatch$Fan" "TunnelWatch$Device" "command" "I") (by decide +kernel))) rfl dX3_isReady_1 ?_
  refine sk_if_ne F 31 dX3_isReady_4 (by decide) (fun h1 => ?_) (fun h1 => ?_)
  · exact sk_lv [] rfl (kX3_isReady_31 ⟨F, hK, hA, hZ, hr, hlocks⟩ hn ho hq1 v)
  · refine sk_aload_n F dX3_isReady_7 rfl 1 rfl ?_
    refine sk_g1 (ref := "TunnelWatch$Fan") F hK hq1 iX3_isReady_1 5 (by decide) (by decide +kernel) (u_same (F.2.2.2.2 (.sameField "TunnelWatch$Fan" "TunnelWatch$Device" "out" "Z") (by decide +kernel))) rfl dX3_isReady_8 ?_
    refine sk_if_ne F 31 dX3_isReady_11 (by decide) (fun h2 => ?_) (fun h2 => ?_)
    · exact sk_lv [] rfl (kX3_isReady_31 ⟨F, hK, hA, hZ, hr, hlocks⟩ hn ho hq1 v)
    · refine sk_aload_n F dX3_isReady_14 rfl 1 rfl ?_
      refine sk_aload_n F dX3_isReady_15 rfl 0 rfl ?_
      refine sk_g3 (ref := "TunnelWatch$Tube") F hK ho iX3_isReady_3 8 (by decide) (by decide +kernel) (fun _ h9 => h9) rfl dX3_isReady_16 ?_
      refine sk_iload_n F dX3_isReady_19 rfl 2 rfl ?_
      refine sk_iload_n F dX3_isReady_20 rfl 3 rfl ?_
      refine sk_callVi (As := [.int (v o 8), .int p2, .int p3]) (rest := []) F hK hA hZ _ (tX1_hasRested hn hq1 _) (cwV 3 F.2.2.2.2 gX3_isReady_X1_hasRested rfl rfl rfl (by decide +kernel) ⟨Nat.le_of_ble_eq_true rfl, Nat.le_of_ble_eq_true rfl⟩) (rc1 hK hq1) rfl rfl (Nat.le_of_ble_eq_true rfl) (by decide) dX3_isReady_21 (fun x5 v4 c3 => ?_)
      refine sk_if_eq F 31 dX3_isReady_24 (by decide) (fun h6 => ?_) (fun h6 => ?_)
      · exact sk_lv [] rfl (kX3_isReady_31 ⟨F, hK, hA, hZ, hr, hlocks⟩ hn ho hq1 v4)
      · refine sk_iconst (x := 1) F dX3_isReady_27 (by decide) ?_
        refine sk_goto F 32 dX3_isReady_28 (by decide) ?_
        exact sk_zretc F hK hr hlocks (by decide) dX3_isReady_32
theorem tX3_isReady {l : Launch} {D : va_G} {A : Nat → Prop} {cI cS cF cZ cJ : ClassId} {ad : Nat → Nat} {X : va_W} {n : Nat} (hn : n ≤ 24) {o : Nat} {q1 : Nat} {p2 : Int32} {p3 : Int32} (ho : kC n o = 3) (hq1 : kC n q1 = 1) (v : Mem) : CI l yX3_isReady wsX3_isReady rmX3_isReady D A (ty5 cI cS cF cZ cJ) (Wc cI cS cF ad n X) [.ref (ad o), .ref (ad q1), .int p2, .int p3] v (fX3_isReady o q1 p2 p3 v) :=
  CI_of (cc := cX3_isReady) (maxL := 4) (ret := (some .boolean)) (by decide) rfl (Nat.le_of_ble_eq_true rfl) (fun p e s m below meth c G => kX3_isReady_0 G hn ho hq1 v)
def rmX3_leastRunReady : Room := { frames := 3, cells := 0, slots := 0, locals := 69 }
theorem iX3_leastRunReady_1 : ∀ w ∈ wsX10, w ∈ wsX3_leastRunReady := by decide +kernel
theorem iX3_leastRunReady_3 : ∀ w ∈ wsX30, w ∈ wsX3_leastRunReady := by decide +kernel
def fX3_leastRunReady_57 (kb5 : Mem → Int32 → Int32 → Option (Int32 × Mem)) (o : Nat) (p1 : Int32) (p2 : Int32) (v : Mem) (l4 : Int32) : Option (Int32 × Mem) := kb5 v l4 (l4 + 1)
set_option maxRecDepth 100000 in
set_option maxHeartbeats 4000000 in
theorem kX3_leastRunReady_57 {p : Program} {l : Launch} {e : Env} {s : State} {m : MethodId} {args : Array Value} {below : List Frame} {meth : Method} {c : Code} {D : va_G} {A : Nat → Prop} {cI cS cF cZ cJ : ClassId} {ad : Nat → Nat} {X : va_W} {n : Nat} {o : Nat} {p1 : Int32} {p2 : Int32} {kb5 : Mem → Int32 → Int32 → Option (Int32 × Mem)} (G : cx p s m args meth c cX3_leastRunReady 5 wsX3_leastRunReady RX3 D (ty5 cI cS cF cZ cJ) A (some .int)) (hn : n ≤ 24) (ho : kC n o = 3) (hkb5 : ∀ (v : Mem) (l3 : Int32) (l4 : Int32), sk p l e rmX3_leastRunReady s m args below meth c D A 5 0 0 (fun res => MQ below (qi D A (ty5 cI cS cF cZ cJ) (Wc cI cS cF ad n X) res) args s 0 0 A) (Wc cI cS cF ad n X v) 5 [(0, .ref (ad o)), (1, .int p1), (2, .int p2), (3, .int l3), (4, .int l4)] [] (kb5 v l3 l4)) (v : Mem) (l4 : Int32) : sk p l e rmX3_leastRunReady s m args below meth c D A 5 0 0 (fun res => MQ below (qi D A (ty5 cI cS cF cZ cJ) (Wc cI cS cF ad n X) res) args s 0 0 A) (Wc cI cS cF ad n X v) 57 [(0, .ref (ad o)), (1, .int p1), (2, .int p2), (4, .int l4)] [] (fX3_leastRunReady_57 kb5 o p1 p2 v l4) := by
  obtain ⟨F, hK, hA, hZ, hr, hlocks⟩ := G
  refine sk_eq (K' := kb5 v l4 (l4 + 1)) rfl ?_
  refine sk_iload F dX3_leastRunReady_57 3 rfl ?_
  refine sk_istore_n F dX3_leastRunReady_59 rfl (by decide) rfl ?_
  refine sk_iinc (y := l4 + 1) F dX3_leastRunReady_60 4 rfl rfl (by decide) rfl ?_
  refine sk_goto F 5 dX3_leastRunReady_63 (by decide) ?_
  exact sk_lv [2, 3, 4, 1, 0] rfl (hkb5 v l4 (l4 + 1))
def fX3_leastRunReady_5 (o : Nat) (p1 : Int32) (p2 : Int32) : Nat → Mem → Int32 → Int32 → Option (Int32 × Mem)
  | 0, _, _, _ => none
  | fuel + 1, v, l3, l4 => if (v o 4) ≤ l4 then some (l3, v) else gd (inb l4 12) (bd (fX3_isReady o (o + 5 + l4.toNatClampNeg) p1 p2 v) fun x5 v4 => if x5 = 0 then fX3_leastRunReady_5 o p1 p2 fuel v4 l3 (l4 + 1) else if l3 = (-1) then fX3_leastRunReady_57 (fun v l3 l4 => fX3_leastRunReady_5 o p1 p2 fuel v l3 l4) o p1 p2 v4 l4 else gd (inb l4 12) (gd (inb l3 12) (if (v4 (o + 5 + l3.toNatClampNeg) 7) ≤ (v4 (o + 5 + l4.toNatClampNeg) 7) then fX3_leastRunReady_5 o p1 p2 fuel v4 l3 (l4 + 1) else fX3_leastRunReady_57 (fun v l3 l4 => fX3_leastRunReady_5 o p1 p2 fuel v l3 l4) o p1 p2 v4 l4)))
set_option maxRecDepth 100000 in
set_option maxHeartbeats 4000000 in
theorem kX3_leastRunReady_5 {p : Program} {l : Launch} {e : Env} {s : State} {m : MethodId} {args : Array Value} {below : List Frame} {meth : Method} {c : Code} {D : va_G} {A : Nat → Prop} {cI cS cF cZ cJ : ClassId} {ad : Nat → Nat} {X : va_W} {n : Nat} {o : Nat} {p1 : Int32} {p2 : Int32} (G : cx p s m args meth c cX3_leastRunReady 5 wsX3_leastRunReady RX3 D (ty5 cI cS cF cZ cJ) A (some .int)) (hn : n ≤ 24) (ho : kC n o = 3) : ∀ (fuel : Nat) (v : Mem) (l3 : Int32) (l4 : Int32), sk p l e rmX3_leastRunReady s m args below meth c D A 5 0 0 (fun res => MQ below (qi D A (ty5 cI cS cF cZ cJ) (Wc cI cS cF ad n X) res) args s 0 0 A) (Wc cI cS cF ad n X v) 5 [(0, .ref (ad o)), (1, .int p1), (2, .int p2), (3, .int l3), (4, .int l4)] [] (fX3_leastRunReady_5 o p1 p2 fuel v l3 l4) := by
  obtain ⟨F, hK, hA, hZ, hr, hlocks⟩ := G
  intro fuel
  induction fuel with
  | zero => intro v l3 l4; exact sk_none
  | succ fuel ih =>
    intro v l3 l4
    refine sk_eq (K' := if (v o 4) ≤ l4 then some (l3, v) else gd (inb l4 12) (bd (fX3_isReady o (o + 5 + l4.toNatClampNeg) p1 p2 v) fun x5 v4 => if x5 = 0 then fX3_leastRunReady_5 o p1 p2 fuel v4 l3 (l4 + 1) else if l3 = (-1) then fX3_leastRunReady_57 (fun v l3 l4 => fX3_leastRunReady_5 o p1 p2 fuel v l3 l4) o p1 p2 v4 l4 else gd (inb l4 12) (gd (inb l3 12) (if (v4 (o + 5 + l3.toNatClampNeg) 7) ≤ (v4 (o + 5 + l4.toNatClampNeg) 7) then fX3_leastRunReady_5 o p1 p2 fuel v4 l3 (l4 + 1) else fX3_leastRunReady_57 (fun v l3 l4 => fX3_leastRunReady_5 o p1 p2 fuel v l3 l4) o p1 p2 v4 l4)))) rfl ?_
    refine sk_iload F dX3_leastRunReady_5 4 rfl ?_
    refine sk_aload_n F dX3_leastRunReady_7 rfl 0 rfl ?_
    refine sk_g3 (ref := "TunnelWatch$Tube") F hK ho iX3_leastRunReady_3 4 (by decide) (by decide +kernel) (fun _ h9 => h9) rfl dX3_leastRunReady_8 ?_
    refine sk_icmp_ge F 66 dX3_leastRunReady_11 (by decide) (fun h1 => ?_) (fun h1 => ?_)
    · refine sk_iload_n F dX3_leastRunReady_66 rfl 3 rfl ?_
      exact sk_iret F hK hr hlocks dX3_leastRunReady_67
    · refine sk_aload_n F dX3_leastRunReady_14 rfl 0 rfl ?_
      refine sk_aload_n F dX3_leastRunReady_15 rfl 0 rfl ?_
      refine sk_g3 (ref := "TunnelWatch$Tube") F hK ho iX3_leastRunReady_3 3 (by decide) (by decide +kernel) (fun _ h9 => h9) rfl dX3_leastRunReady_16 ?_
      refine sk_iload F dX3_leastRunReady_19 4 rfl ?_
      refine sk_aldF F hK ho dX3_leastRunReady_21 (fun h2 => ?_)
      refine sk_iload_n F dX3_leastRunReady_22 rfl 1 rfl ?_
      refine sk_iload_n F dX3_leastRunReady_23 rfl 2 rfl ?_
      refine sk_callVi (As := [.ref (ad (o + 5 + l4.toNatClampNeg)), .int p1, .int p2]) (rest := []) F hK hA hZ _ (tX3_isReady hn ho (kC_f ho (inb_lt h2)) _) (cwV 3 F.2.2.2.2 gX3_leastRunReady_X3_isReady rfl rfl rfl (by decide +kernel) ⟨Nat.le_of_ble_eq_true rfl, Nat.le_of_ble_eq_true rfl⟩) (rc3 hK ho) rfl rfl (Nat.le_of_ble_eq_true rfl) (by decide) dX3_leastRunReady_24 (fun x5 v4 c3 => ?_)
      refine sk_if_eq F 60 dX3_leastRunReady_27 (by decide) (fun h6 => ?_) (fun h6 => ?_)
      · refine sk_iinc (y := l4 + 1) F dX3_leastRunReady_60 4 rfl rfl (by decide) rfl ?_
        refine sk_goto F 5 dX3_leastRunReady_63 (by decide) ?_
        exact sk_lv [1, 2, 3, 4, 0] rfl (ih v4 l3 (l4 + 1))
      · refine sk_iload_n F dX3_leastRunReady_30 rfl 3 rfl ?_
        refine sk_iconst (x := (-1)) F dX3_leastRunReady_31 (by decide) ?_
        refine sk_icmp_eq F 57 dX3_leastRunReady_32 (by decide) (fun h7 => ?_) (fun h7 => ?_)
        · exact sk_lv [0, 1, 2, 4] rfl (kX3_leastRunReady_57 ⟨F, hK, hA, hZ, hr, hlocks⟩ hn ho ih v4 l4)
        · refine sk_aload_n F dX3_leastRunReady_35 rfl 0 rfl ?_
          refine sk_g3 (ref := "TunnelWatch$Tube") F hK ho iX3_leastRunReady_3 3 (by decide) (by decide +kernel) (fun _ h9 => h9) rfl dX3_leastRunReady_36 ?_
          refine sk_iload F dX3_leastRunReady_39 4 rfl ?_
          refine sk_aldF F hK ho dX3_leastRunReady_41 (fun h8 => ?_)
          refine sk_g1 (ref := "TunnelWatch$Fan") F hK (kC_f ho (inb_lt h8)) iX3_leastRunReady_1 7 (by decide) (by decide +kernel) (fun _ h9 => h9) rfl dX3_leastRunReady_42 ?_
          refine sk_aload_n F dX3_leastRunReady_45 rfl 0 rfl ?_
          refine sk_g3 (ref := "TunnelWatch$Tube") F hK ho iX3_leastRunReady_3 3 (by decide) (by decide +kernel) (fun _ h9 => h9) rfl dX3_leastRunReady_46 ?_
          refine sk_iload_n F dX3_leastRunReady_49 rfl 3 rfl ?_
          refine sk_aldF F hK ho dX3_leastRunReady_50 (fun h9 => ?_)
          refine sk_g1 (ref := "TunnelWatch$Fan") F hK (kC_f ho (inb_lt h9)) iX3_leastRunReady_1 7 (by decide) (by decide +kernel) (fun _ h9 => h9) rfl dX3_leastRunReady_51 ?_
          refine sk_icmp_ge F 60 dX3_leastRunReady_54 (by decide) (fun h10 => ?_) (fun h10 => ?_)
          · refine sk_iinc (y := l4 + 1) F dX3_leastRunReady_60 4 rfl rfl (by decide) rfl ?_
            refine sk_goto F 5 dX3_leastRunReady_63 (by decide) ?_
            exact sk_lv [1, 2, 3, 4, 0] rfl (ih v4 l3 (l4 + 1))
          · exact sk_lv [0, 1, 2, 4] rfl (kX3_leastRunReady_57 ⟨F, hK, hA, hZ, hr, hlocks⟩ hn ho ih v4 l4)
def fX3_leastRunReady (o : Nat) (p1 : Int32) (p2 : Int32) (v : Mem) : Option (Int32 × Mem) := fX3_leastRunReady_5 o p1 p2 1000 v (-1) 0
set_option maxRecDepth 100000 in
set_option maxHeartbeats 4000000 in
theorem kX3_leastRunReady_0 {p : Program} {l : Launch} {e : Env} {s : State} {m : MethodId} {args : Array Value} {below : List Frame} {meth : Method} {c : Code} {D : va_G} {A : Nat → Prop} {cI cS cF cZ cJ : ClassId} {ad : Nat → Nat} {X : va_W} {n : Nat} {o : Nat} {p1 : Int32} {p2 : Int32} (G : cx p s m args meth c cX3_leastRunReady 5 wsX3_leastRunReady RX3 D (ty5 cI cS cF cZ cJ) A (some .int)) (hn : n ≤ 24) (ho : kC n o = 3) (v : Mem) : sk p l e rmX3_leastRunReady s m args below meth c D A 5 0 0 (fun res => MQ below (qi D A (ty5 cI cS cF cZ cJ) (Wc cI cS cF ad n X) res) args s 0 0 A) (Wc cI cS cF ad n X v) 0 [(0, .ref (ad o)), (1, .int p1), (2, .int p2)] [] (fX3_leastRunReady o p1 p2 v) := by
  obtain ⟨F, hK, hA, hZ, hr, hlocks⟩ := G
  refine sk_eq (K' := fX3_leastRunReady_5 o p1 p2 1000 v (-1) 0) rfl ?_
  refine sk_iconst (x := (-1)) F dX3_leastRunReady_0 (by decide) ?_
  refine sk_istore_n F dX3_leastRunReady_1 rfl (by decide) rfl ?_
  refine sk_iconst (x := 0) F dX3_leastRunReady_2 (by decide) ?_
  refine sk_istore F dX3_leastRunReady_3 (by decide) rfl ?_
  exact sk_lv [2, 3, 4, 1, 0] rfl (kX3_leastRunReady_5 ⟨F, hK, hA, hZ, hr, hlocks⟩ hn ho 1000 v (-1) 0)
theorem tX3_leastRunReady {l : Launch} {D : va_G} {A : Nat → Prop} {cI cS cF cZ cJ : ClassId} {ad : Nat → Nat} {X : va_W} {n : Nat} (hn : n ≤ 24) {o : Nat} {p1 : Int32} {p2 : Int32} (ho : kC n o = 3) (v : Mem) : CI l yX3_leastRunReady wsX3_leastRunReady rmX3_leastRunReady D A (ty5 cI cS cF cZ cJ) (Wc cI cS cF ad n X) [.ref (ad o), .int p1, .int p2] v (fX3_leastRunReady o p1 p2 v) :=
  CI_of (cc := cX3_leastRunReady) (maxL := 5) (ret := (some .int)) (by decide) rfl (Nat.le_of_ble_eq_true rfl) (fun p e s m below meth c G => kX3_leastRunReady_0 G hn ho v)
def rmX3_countRun : Room := { frames := 0, cells := 0, slots := 0, locals := 0 }
theorem iX3_countRun_1 : ∀ w ∈ wsX10, w ∈ wsX3_countRun := by decide +kernel
theorem iX3_countRun_3 : ∀ w ∈ wsX30, w ∈ wsX3_countRun := by decide +kernel
def fX3_countRun_2 (o : Nat) : Nat → Mem → Int32 → Option (Mem)
  | 0, _, _ => none
  | fuel + 1, v, l1 => if (v o 4) ≤ l1 then some v else gd (inb l1 12) (if (v (o + 5 + l1.toNatClampNeg) 0) = 0 then fX3_countRun_2 o fuel v (l1 + 1) else gd (inb l1 12) (fX3_countRun_2 o fuel (up2 v (o + 5 + l1.toNatClampNeg) 7 ((v (o + 5 + l1.toNatClampNeg) 7) + 1)) (l1 + 1)))
set_option maxRecDepth 100000 in
set_option maxHeartbeats 4000000 in
theorem kX3_countRun_2 {p : Program} {l : Launch} {e : Env} {s : State} {m : MethodId} {args : Array Value} {below : List Frame} {meth : Method} {c : Code} {D : va_G} {A : Nat → Prop} {cI cS cF cZ cJ : ClassId} {ad : Nat → Nat} {X : va_W} {n : Nat} {o : Nat} (G : cx p s m args meth c cX3_countRun 2 wsX3_countRun RX3 D (ty5 cI cS cF cZ cJ) A none) (hn : n ≤ 24) (ho : kC n o = 3) : ∀ (fuel : Nat) (v : Mem) (l1 : Int32), sk p l e rmX3_countRun s m args below meth c D A 2 0 0 (fun res => MQ below (qv D A (ty5 cI cS cF cZ cJ) (Wc cI cS cF ad n X) res) args s 0 0 A) (Wc cI cS cF ad n X v) 2 [(0, .ref (ad o)), (1, .int l1)] [] (fX3_countRun_2 o fuel v l1) := by
  obtain ⟨F, hK, hA, hZ, hr, hlocks⟩ := G
  intro fuel
  induction fuel with
  | zero => intro v l1; exact sk_none
  | succ fuel ih =>
    intro v l1
    refine sk_eq (K' := if (v o 4) ≤ l1 then some v else gd (inb l1 12) (if (v (o + 5 + l1.toNatClampNeg) 0) = 0 then fX3_countRun_2 o fuel v (l1 + 1) else gd (inb l1 12) (fX3_countRun_2 o fuel (up2 v (o + 5 + l1.toNatClampNeg) 7 ((v (o + 5 + l1.toNatClampNeg) 7) + 1)) (l1 + 1)))) rfl ?_
    refine sk_iload_n F dX3_countRun_2 rfl 1 rfl ?_
    refine sk_aload_n F dX3_countRun_3 rfl 0 rfl ?_
    refine sk_g3 (ref := "TunnelWatch$Tube") F hK ho iX3_countRun_3 4 (by decide) (by decide +kernel) (fun _ h9 => h9) rfl dX3_countRun_4 ?_
    refine sk_icmp_ge F 43 dX3_countRun_7 (by decide) (fun h1 => ?_) (fun h1 => ?_)
    · exact sk_vret F hK hr hlocks dX3_countRun_43
    · refine sk_aload_n F dX3_countRun_10 rfl 0 rfl ?_
      refine sk_g3 (ref := "TunnelWatch$Tube") F hK ho iX3_countRun_3 3 (by decide) (by decide +kernel) (fun _ h9 => h9) rfl dX3_countRun_11 ?_
      refine sk_iload_n F dX3_countRun_14 rfl 1 rfl ?_
      refine sk_aldF F hK ho dX3_countRun_15 (fun h2 => ?_)
      refine sk_g1 (ref := "TunnelWatch$Fan") F hK (kC_f ho (inb_lt h2)) iX3_countRun_1 0 (by decide) (by decide +kernel) (u_same (F.2.2.2.2 (.sameField "TunnelWatch$Fan" "TunnelWatch$Device" "command" "I") (by decide +kernel))) rfl dX3_countRun_16 ?_
      refine sk_if_eq F 37 dX3_countRun_19 (by decide) (fun h3 => ?_) (fun h3 => ?_)
      · refine sk_iinc (y := l1 + 1) F dX3_countRun_37 1 rfl rfl (by decide) rfl ?_
        refine sk_goto F 2 dX3_countRun_40 (by decide) ?_
        exact sk_lv [1, 0] rfl (ih v (l1 + 1))
      · refine sk_aload_n F dX3_countRun_22 rfl 0 rfl ?_
        refine sk_g3 (ref := "TunnelWatch$Tube") F hK ho iX3_countRun_3 3 (by decide) (by decide +kernel) (fun _ h9 => h9) rfl dX3_countRun_23 ?_
        refine sk_iload_n F dX3_countRun_26 rfl 1 rfl ?_
        refine sk_aldF F hK ho dX3_countRun_27 (fun h4 => ?_)
        refine sk_dup F dX3_countRun_28 rfl ?_
        refine sk_g1 (ref := "TunnelWatch$Fan") F hK (kC_f ho (inb_lt h4)) iX3_countRun_1 7 (by decide) (by decide +kernel) (fun _ h9 => h9) rfl dX3_countRun_29 ?_
        refine sk_iconst (x := 1) F dX3_countRun_32 (by decide) ?_
        refine sk_iadd F dX3_countRun_33 ?_
        refine sk_p1 (ref := "TunnelWatch$Fan") (ty := .int) F hK (kC_f ho (inb_lt h4)) iX3_countRun_1 7 (by decide) (by decide +kernel) (fun _ h9 => h9) rfl (by decide +kernel) rfl rfl rfl dX3_countRun_34 ?_
        refine sk_iinc (y := l1 + 1) F dX3_countRun_37 1 rfl rfl (by decide) rfl ?_
        refine sk_goto F 2 dX3_countRun_40 (by decide) ?_
        exact sk_lv [1, 0] rfl (ih (up2 v (o + 5 + l1.toNatClampNeg) 7 ((v (o + 5 + l1.toNatClampNeg) 7) + 1)) (l1 + 1))
def fX3_countRun (o : Nat) (v : Mem) : Option (Mem) := fX3_countRun_2 o 1000 v 0
set_option maxRecDepth 100000 in
set_option maxHeartbeats 4000000 in
theorem kX3_countRun_0 {p : Program} {l : Launch} {e : Env} {s : State} {m : MethodId} {args : Array Value} {below : List Frame} {meth : Method} {c : Code} {D : va_G} {A : Nat → Prop} {cI cS cF cZ cJ : ClassId} {ad : Nat → Nat} {X : va_W} {n : Nat} {o : Nat} (G : cx p s m args meth c cX3_countRun 2 wsX3_countRun RX3 D (ty5 cI cS cF cZ cJ) A none) (hn : n ≤ 24) (ho : kC n o = 3) (v : Mem) : sk p l e rmX3_countRun s m args below meth c D A 2 0 0 (fun res => MQ below (qv D A (ty5 cI cS cF cZ cJ) (Wc cI cS cF ad n X) res) args s 0 0 A) (Wc cI cS cF ad n X v) 0 [(0, .ref (ad o))] [] (fX3_countRun o v) := by
  obtain ⟨F, hK, hA, hZ, hr, hlocks⟩ := G
  refine sk_eq (K' := fX3_countRun_2 o 1000 v 0) rfl ?_
  refine sk_iconst (x := 0) F dX3_countRun_0 (by decide) ?_
  refine sk_istore_n F dX3_countRun_1 rfl (by decide) rfl ?_
  exact sk_lv [1, 0] rfl (kX3_countRun_2 ⟨F, hK, hA, hZ, hr, hlocks⟩ hn ho 1000 v 0)
theorem tX3_countRun {l : Launch} {D : va_G} {A : Nat → Prop} {cI cS cF cZ cJ : ClassId} {ad : Nat → Nat} {X : va_W} {n : Nat} (hn : n ≤ 24) {o : Nat} (ho : kC n o = 3) (v : Mem) : CV l yX3_countRun wsX3_countRun rmX3_countRun D A (ty5 cI cS cF cZ cJ) (Wc cI cS cF ad n X) [.ref (ad o)] v (fX3_countRun o v) :=
  CV_of (cc := cX3_countRun) (maxL := 2) (ret := none) (by decide) rfl (Nat.le_of_ble_eq_true rfl) (fun p e s m below meth c G => kX3_countRun_0 G hn ho v)
end
