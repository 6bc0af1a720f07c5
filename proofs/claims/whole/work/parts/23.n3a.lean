def wsX3_init_r1 : List Cond := [Cond.methodLink RX3 3 objectInit, Cond.instanceMethod objectInit, Cond.code objectInit ⟨#[0xb1]⟩ 1 none, Cond.classLink RX3 9 RX0, Cond.instantiable RX0 6, Cond.initialized RX0, Cond.fieldLink RX3 12 "TunnelWatch$Tube" "signals" "LTunnelWatch$Device;", Cond.fieldLink RX3 18 "TunnelWatch$Tube" "barrier" "LTunnelWatch$Device;", Cond.classLink RX3 21 RX1, Cond.fieldLink RX3 23 "TunnelWatch$Tube" "fans" "[LTunnelWatch$Fan;", Cond.fieldLink RX3 27 "TunnelWatch$Tube" "wishedDirection" "I", Cond.fieldLink RX3 31 "TunnelWatch$Tube" "wantedDirection" "I", Cond.fieldLink RX3 34 "TunnelWatch$Tube" "status" "I", Cond.fieldLink RX3 37 "TunnelWatch$Tube" "fireSection" "I", Cond.classLink RX3 40 RX2, Cond.fieldLink RX3 42 "TunnelWatch$Tube" "sections" "[LTunnelWatch$Section;", Cond.instantiable RX2 8, Cond.initialized RX2, Cond.instantiable RX1 9, Cond.initialized RX1, Cond.instanceMethod yX0_init, Cond.code yX0_init cX0_init 1 none, Cond.methodLink RX0 1 objectInit, Cond.fieldLink RX0 7 "TunnelWatch$Device" "lagTicks" "I"]
def wsX3_init_r2 : List Cond := [Cond.instanceMethod yX2_init, Cond.code yX2_init cX2_init 1 none, Cond.methodLink RX2 3 objectInit, Cond.fieldLink RX2 9 "TunnelWatch$Section" "ownDirection" "I", Cond.fieldLink RX2 15 "TunnelWatch$Section" "otherDirection" "I", Cond.instanceMethod yX1_init, Cond.code yX1_init cX1_init 1 none]
def wsX3_init : List Cond := .code yX3_init cX3_init 3 none :: ((wsX3_init_r1 ++ wsX3_init_r2) ++ wsX00 ++ wsX30 ++ wsX20 ++ wsX10)
def wsX3_addFan : List Cond := .code yX3_addFan cX3_addFan 3 (some .int) :: ([.fieldLink RX3 48 "TunnelWatch$Tube" "fanCount" "I", .fieldLink RX3 23 "TunnelWatch$Tube" "fans" "[LTunnelWatch$Fan;", .fieldLink RX3 51 "TunnelWatch$Fan" "kw" "I"] ++ wsX30 ++ wsX10)
def wsX3_deviceAt : List Cond := .code yX3_deviceAt cX3_deviceAt 2 (some (.object "TunnelWatch$Device")) :: ([.fieldLink RX3 12 "TunnelWatch$Tube" "signals" "LTunnelWatch$Device;", .fieldLink RX3 18 "TunnelWatch$Tube" "barrier" "LTunnelWatch$Device;", .fieldLink RX3 23 "TunnelWatch$Tube" "fans" "[LTunnelWatch$Fan;"] ++ wsX30)
def wsX3_isOnCloseAbove : List Cond := .code yX3_isOnCloseAbove cX3_isOnCloseAbove 4 (some .boolean) :: ([.fieldLink RX3 42 "TunnelWatch$Tube" "sections" "[LTunnelWatch$Section;", .methodLink RX3 85 Lib.Math.min.name, .static Lib.Math.min.name, .initialized "java/lang/Math", .code Lib.Math.min.name Lib.Math.min.code 2 (some .int), .methodLink RX3 77 yX2_isOn, .instanceMethod yX2_isOn, .selects RX2 yX2_isOn yX2_isOn, .initialized RX2, .code yX2_isOn cX2_isOn 1 (some .boolean), .fieldLink RX2 18 "TunnelWatch$Section" "value" "I", .fieldLink RX2 21 "TunnelWatch$Section" "deaf" "Z"] ++ wsX30 ++ wsX20)
def wsX3_leastOfPair : List Cond := .code yX3_leastOfPair cX3_leastOfPair 2 (some .int) :: ([.fieldLink RX3 42 "TunnelWatch$Tube" "sections" "[LTunnelWatch$Section;", .methodLink RX3 77 yX2_isOn, .instanceMethod yX2_isOn, .selects RX2 yX2_isOn yX2_isOn, .initialized RX2, .code yX2_isOn cX2_isOn 1 (some .boolean), .fieldLink RX2 18 "TunnelWatch$Section" "value" "I", .fieldLink RX2 21 "TunnelWatch$Section" "deaf" "Z", .methodLink RX3 81 yX3_isOnCloseAbove, .instanceMethod yX3_isOnCloseAbove, .selects RX3 yX3_isOnCloseAbove yX3_isOnCloseAbove, .initialized RX3, .code yX3_isOnCloseAbove cX3_isOnCloseAbove 4 (some .boolean), .methodLink RX3 85 Lib.Math.min.name, .static Lib.Math.min.name, .initialized "java/lang/Math", .code Lib.Math.min.name Lib.Math.min.code 2 (some .int)] ++ wsX30 ++ wsX20)
def wsX3_bestCandidate : List Cond := .code yX3_bestCandidate cX3_bestCandidate 5 (some .int) :: ([.fieldLink RX3 42 "TunnelWatch$Tube" "sections" "[LTunnelWatch$Section;", .fieldLink RX3 73 "TunnelWatch$Section" "pulled" "Z", .fieldLink RX3 61 "TunnelWatch$Section" "rank" "I", .methodLink RX3 70 yX3_leastOfPair, .instanceMethod yX3_leastOfPair, .selects RX3 yX3_leastOfPair yX3_leastOfPair, .initialized RX3, .code yX3_leastOfPair cX3_leastOfPair 2 (some .int), .methodLink RX3 77 yX2_isOn, .instanceMethod yX2_isOn, .selects RX2 yX2_isOn yX2_isOn, .initialized RX2, .code yX2_isOn cX2_isOn 1 (some .boolean), .fieldLink RX2 18 "TunnelWatch$Section" "value" "I", .fieldLink RX2 21 "TunnelWatch$Section" "deaf" "Z", .methodLink RX3 81 yX3_isOnCloseAbove, .instanceMethod yX3_isOnCloseAbove, .selects RX3 yX3_isOnCloseAbove yX3_isOnCloseAbove, .code yX3_isOnCloseAbove cX3_isOnCloseAbove 4 (some .boolean), .methodLink RX3 85 Lib.Math.min.name, .static Lib.Math.min.name, .initialized "java/lang/Math", .code Lib.Math.min.name Lib.Math.min.code 2 (some .int)] ++ wsX30 ++ wsX20)
def wsX3_leastOn : List Cond := .code yX3_leastOn cX3_leastOn 2 (some .int) :: ([.fieldLink RX3 42 "TunnelWatch$Tube" "sections" "[LTunnelWatch$Section;", .methodLink RX3 77 yX2_isOn, .instanceMethod yX2_isOn, .selects RX2 yX2_isOn yX2_isOn, .initialized RX2, .code yX2_isOn cX2_isOn 1 (some .boolean), .fieldLink RX2 18 "TunnelWatch$Section" "value" "I", .fieldLink RX2 21 "TunnelWatch$Section" "deaf" "Z"] ++ wsX30 ++ wsX20)
def wsX3_judgeSuspicion : List Cond := .code yX3_judgeSuspicion cX3_judgeSuspicion 1 none :: ([.fieldLink RX3 34 "TunnelWatch$Tube" "status" "I", .fieldLink RX3 37 "TunnelWatch$Tube" "fireSection" "I", .methodLink RX3 67 yX3_leastOn, .instanceMethod yX3_leastOn, .selects RX3 yX3_leastOn yX3_leastOn, .initialized RX3, .code yX3_leastOn cX3_leastOn 2 (some .int), .fieldLink RX3 42 "TunnelWatch$Tube" "sections" "[LTunnelWatch$Section;", .methodLink RX3 77 yX2_isOn, .instanceMethod yX2_isOn, .selects RX2 yX2_isOn yX2_isOn, .initialized RX2, .code yX2_isOn cX2_isOn 1 (some .boolean), .fieldLink RX2 18 "TunnelWatch$Section" "value" "I", .fieldLink RX2 21 "TunnelWatch$Section" "deaf" "Z"] ++ wsX30 ++ wsX20)
def wsX3_fireRank : List Cond := .code yX3_fireRank cX3_fireRank 1 (some .int) :: ([.fieldLink RX3 37 "TunnelWatch$Tube" "fireSection" "I", .fieldLink RX3 42 "TunnelWatch$Tube" "sections" "[LTunnelWatch$Section;", .fieldLink RX3 61 "TunnelWatch$Section" "rank" "I"] ++ wsX30 ++ wsX20)
def wsX3_judgeFire_r1 : List Cond := [Cond.fieldLink RX3 34 "TunnelWatch$Tube" "status" "I", Cond.fieldLink RX3 42 "TunnelWatch$Tube" "sections" "[LTunnelWatch$Section;", Cond.fieldLink RX3 61 "TunnelWatch$Section" "rank" "I", Cond.fieldLink RX3 37 "TunnelWatch$Tube" "fireSection" "I", Cond.methodLink RX3 54 yX3_bestCandidate, Cond.instanceMethod yX3_bestCandidate, Cond.selects RX3 yX3_bestCandidate yX3_bestCandidate, Cond.initialized RX3, Cond.code yX3_bestCandidate cX3_bestCandidate 5 (some .int), Cond.fieldLink RX3 73 "TunnelWatch$Section" "pulled" "Z", Cond.methodLink RX3 70 yX3_leastOfPair, Cond.instanceMethod yX3_leastOfPair, Cond.selects RX3 yX3_leastOfPair yX3_leastOfPair, Cond.code yX3_leastOfPair cX3_leastOfPair 2 (some .int), Cond.methodLink RX3 77 yX2_isOn, Cond.instanceMethod yX2_isOn, Cond.selects RX2 yX2_isOn yX2_isOn, Cond.initialized RX2, Cond.code yX2_isOn cX2_isOn 1 (some .boolean), Cond.fieldLink RX2 18 "TunnelWatch$Section" "value" "I", Cond.fieldLink RX2 21 "TunnelWatch$Section" "deaf" "Z", Cond.methodLink RX3 81 yX3_isOnCloseAbove, Cond.instanceMethod yX3_isOnCloseAbove, Cond.selects RX3 yX3_isOnCloseAbove yX3_isOnCloseAbove]
def wsX3_judgeFire_r2 : List Cond := [Cond.code yX3_isOnCloseAbove cX3_isOnCloseAbove 4 (some .boolean), Cond.methodLink RX3 85 Lib.Math.min.name, Cond.static Lib.Math.min.name, Cond.initialized "java/lang/Math", Cond.code Lib.Math.min.name Lib.Math.min.code 2 (some .int), Cond.methodLink RX3 58 yX3_judgeSuspicion, Cond.instanceMethod yX3_judgeSuspicion, Cond.selects RX3 yX3_judgeSuspicion yX3_judgeSuspicion, Cond.code yX3_judgeSuspicion cX3_judgeSuspicion 1 none, Cond.methodLink RX3 67 yX3_leastOn, Cond.instanceMethod yX3_leastOn, Cond.selects RX3 yX3_leastOn yX3_leastOn, Cond.code yX3_leastOn cX3_leastOn 2 (some .int), Cond.methodLink RX3 64 yX3_fireRank, Cond.instanceMethod yX3_fireRank, Cond.selects RX3 yX3_fireRank yX3_fireRank, Cond.code yX3_fireRank cX3_fireRank 1 (some .int)]
def wsX3_judgeFire : List Cond := .code yX3_judgeFire cX3_judgeFire 2 none :: ((wsX3_judgeFire_r1 ++ wsX3_judgeFire_r2) ++ wsX30 ++ wsX20)
def wsX3_pullWhereSuspected : List Cond := .code yX3_pullWhereSuspected cX3_pullWhereSuspected 1 (some .boolean) :: ([.fieldLink RX3 34 "TunnelWatch$Tube" "status" "I", .fieldLink RX3 37 "TunnelWatch$Tube" "fireSection" "I", .fieldLink RX3 42 "TunnelWatch$Tube" "sections" "[LTunnelWatch$Section;", .fieldLink RX3 73 "TunnelWatch$Section" "pulled" "Z"] ++ wsX30 ++ wsX20)
def wsX3_endFire : List Cond := .code yX3_endFire cX3_endFire 2 (some .boolean) :: ([.fieldLink RX3 42 "TunnelWatch$Tube" "sections" "[LTunnelWatch$Section;", .fieldLink RX3 73 "TunnelWatch$Section" "pulled" "Z", .fieldLink RX3 34 "TunnelWatch$Tube" "status" "I", .fieldLink RX3 37 "TunnelWatch$Tube" "fireSection" "I", .methodLink RX3 67 yX3_leastOn, .instanceMethod yX3_leastOn, .selects RX3 yX3_leastOn yX3_leastOn, .initialized RX3, .code yX3_leastOn cX3_leastOn 2 (some .int), .methodLink RX3 77 yX2_isOn, .instanceMethod yX2_isOn, .selects RX2 yX2_isOn yX2_isOn, .initialized RX2, .code yX2_isOn cX2_isOn 1 (some .boolean), .fieldLink RX2 18 "TunnelWatch$Section" "value" "I", .fieldLink RX2 21 "TunnelWatch$Section" "deaf" "Z"] ++ wsX30 ++ wsX20)
def wsX3_want : List Cond := .code yX3_want cX3_want 3 none :: ([.fieldLink RX3 31 "TunnelWatch$Tube" "wantedDirection" "I", .fieldLink RX3 91 "TunnelWatch$Tube" "wantedFans" "I"] ++ wsX30)
def wsX3_settleDevices_r1 : List Cond := [Cond.fieldLink RX3 12 "TunnelWatch$Tube" "signals" "LTunnelWatch$Device;", Cond.fieldLink RX3 18 "TunnelWatch$Tube" "barrier" "LTunnelWatch$Device;", Cond.fieldLink RX3 48 "TunnelWatch$Tube" "fanCount" "I", Cond.fieldLink RX3 23 "TunnelWatch$Tube" "fans" "[LTunnelWatch$Fan;", Cond.methodLink RX3 94 yX0_act, Cond.instanceMethod yX0_act, Cond.selects RX0 yX0_act yX0_act, Cond.initialized RX0, Cond.code yX0_act cX0_act 2 none, Cond.fieldLink RX0 19 "TunnelWatch$Device" "failed" "Z", Cond.fieldLink RX0 16 "TunnelWatch$Device" "sentTick" "I", Cond.fieldLink RX0 7 "TunnelWatch$Device" "lagTicks" "I", Cond.fieldLink RX0 13 "TunnelWatch$Device" "command" "I", Cond.fieldLink RX0 23 "TunnelWatch$Device" "actual" "I", Cond.methodLink RX3 94 ⟨"TunnelWatch$Device", "act", "(I)V"⟩, Cond.sameMethod "TunnelWatch$Device" "TunnelWatch$Device" "act" "(I)V", Cond.selects RX1 ⟨"TunnelWatch$Device", "act", "(I)V"⟩ yX0_act, Cond.methodLink RX3 98 ⟨"TunnelWatch$Fan", "act", "(I)V"⟩, Cond.sameMethod "TunnelWatch$Fan" "TunnelWatch$Device" "act" "(I)V", Cond.selects RX1 ⟨"TunnelWatch$Fan", "act", "(I)V"⟩ yX0_act, Cond.methodLink RX3 99 yX1_judgeOut, Cond.instanceMethod yX1_judgeOut, Cond.selects RX1 yX1_judgeOut yX1_judgeOut, Cond.initialized RX1]
def wsX3_settleDevices_r2 : List Cond := [Cond.code yX1_judgeOut cX1_judgeOut 2 none, Cond.fieldLink RX1 19 "TunnelWatch$Fan" "actual" "I", Cond.sameField "TunnelWatch$Fan" "TunnelWatch$Device" "actual" "I", Cond.fieldLink RX1 22 "TunnelWatch$Fan" "command" "I", Cond.sameField "TunnelWatch$Fan" "TunnelWatch$Device" "command" "I", Cond.fieldLink RX1 25 "TunnelWatch$Fan" "sentTick" "I", Cond.sameField "TunnelWatch$Fan" "TunnelWatch$Device" "sentTick" "I", Cond.fieldLink RX1 28 "TunnelWatch$Fan" "out" "Z", Cond.sameField "TunnelWatch$Fan" "TunnelWatch$Device" "out" "Z", Cond.methodLink RX1 32 yX1_stand, Cond.instanceMethod yX1_stand, Cond.selects RX1 yX1_stand yX1_stand, Cond.code yX1_stand cX1_stand 2 none, Cond.methodLink RX1 9 ⟨"TunnelWatch$Fan", "send", "(II)V"⟩, Cond.sameMethod "TunnelWatch$Fan" "TunnelWatch$Device" "send" "(II)V", Cond.selects RX1 ⟨"TunnelWatch$Fan", "send", "(II)V"⟩ yX0_send, Cond.instanceMethod yX0_send, Cond.code yX0_send cX0_send 3 none]
def wsX3_settleDevices : List Cond := .code yX3_settleDevices cX3_settleDevices 3 none :: ((wsX3_settleDevices_r1 ++ wsX3_settleDevices_r2) ++ wsX30 ++ wsX00 ++ wsX10)
def wsX3_isHalted : List Cond := .code yX3_isHalted cX3_isHalted 2 (some .boolean) :: ([.fieldLink RX3 12 "TunnelWatch$Tube" "signals" "LTunnelWatch$Device;", .fieldLink RX3 102 "TunnelWatch$Device" "command" "I", .fieldLink RX3 105 "TunnelWatch$Device" "actual" "I", .fieldLink RX3 118 "TunnelWatch$Device" "sentTick" "I"] ++ wsX30 ++ wsX00 ++ wsX10)
def wsX3_commandTraffic : List Cond := .code yX3_commandTraffic cX3_commandTraffic 6 none :: ([.fieldLink RX3 18 "TunnelWatch$Tube" "barrier" "LTunnelWatch$Device;", .fieldLink RX3 102 "TunnelWatch$Device" "command" "I", .fieldLink RX3 105 "TunnelWatch$Device" "actual" "I", .fieldLink RX3 34 "TunnelWatch$Tube" "status" "I", .fieldLink RX3 108 "TunnelWatch$Tube" "stopOrdered" "Z", .fieldLink RX3 12 "TunnelWatch$Tube" "signals" "LTunnelWatch$Device;", .methodLink RX3 111 yX0_send, .instanceMethod yX0_send, .selects RX0 yX0_send yX0_send, .initialized RX0, .code yX0_send cX0_send 3 none, .fieldLink RX0 13 "TunnelWatch$Device" "command" "I", .fieldLink RX0 16 "TunnelWatch$Device" "sentTick" "I", .methodLink RX3 111 ⟨"TunnelWatch$Device", "send", "(II)V"⟩, .sameMethod "TunnelWatch$Device" "TunnelWatch$Device" "send" "(II)V", .selects RX1 ⟨"TunnelWatch$Device", "send", "(II)V"⟩ yX0_send, .methodLink RX3 115 yX3_isHalted, .instanceMethod yX3_isHalted, .selects RX3 yX3_isHalted yX3_isHalted, .initialized RX3, .code yX3_isHalted cX3_isHalted 2 (some .boolean), .fieldLink RX3 118 "TunnelWatch$Device" "sentTick" "I"] ++ wsX30 ++ wsX00 ++ wsX10)
def wsX3_countBlowing : List Cond := .code yX3_countBlowing cX3_countBlowing 4 (some .int) :: ([.fieldLink RX3 48 "TunnelWatch$Tube" "fanCount" "I", .fieldLink RX3 23 "TunnelWatch$Tube" "fans" "[LTunnelWatch$Fan;", .fieldLink RX3 125 "TunnelWatch$Fan" "command" "I", .sameField "TunnelWatch$Fan" "TunnelWatch$Device" "command" "I"] ++ wsX30 ++ wsX00 ++ wsX10)
def wsX3_isUnsafe : List Cond := .code yX3_isUnsafe cX3_isUnsafe 6 (some .boolean) :: ([.fieldLink RX3 18 "TunnelWatch$Tube" "barrier" "LTunnelWatch$Device;", .fieldLink RX3 102 "TunnelWatch$Device" "command" "I", .fieldLink RX3 118 "TunnelWatch$Device" "sentTick" "I", .fieldLink RX3 12 "TunnelWatch$Tube" "signals" "LTunnelWatch$Device;", .methodLink RX3 115 yX3_isHalted, .instanceMethod yX3_isHalted, .selects RX3 yX3_isHalted yX3_isHalted, .initialized RX3, .code yX3_isHalted cX3_isHalted 2 (some .boolean), .fieldLink RX3 105 "TunnelWatch$Device" "actual" "I", .methodLink RX3 121 yX3_countBlowing, .instanceMethod yX3_countBlowing, .selects RX3 yX3_countBlowing yX3_countBlowing, .code yX3_countBlowing cX3_countBlowing 4 (some .int), .fieldLink RX3 48 "TunnelWatch$Tube" "fanCount" "I", .fieldLink RX3 23 "TunnelWatch$Tube" "fans" "[LTunnelWatch$Fan;", .fieldLink RX3 125 "TunnelWatch$Fan" "command" "I", .sameField "TunnelWatch$Fan" "TunnelWatch$Device" "command" "I"] ++ wsX30 ++ wsX00 ++ wsX10)
def wsX3_drawnKw : List Cond := .code yX3_drawnKw cX3_drawnKw 4 (some .int) :: ([.fieldLink RX3 48 "TunnelWatch$Tube" "fanCount" "I", .fieldLink RX3 23 "TunnelWatch$Tube" "fans" "[LTunnelWatch$Fan;", .methodLink RX3 126 yX1_drawnKw, .instanceMethod yX1_drawnKw, .selects RX1 yX1_drawnKw yX1_drawnKw, .initialized RX1, .code yX1_drawnKw cX1_drawnKw 2 (some .int), .fieldLink RX1 22 "TunnelWatch$Fan" "command" "I", .sameField "TunnelWatch$Fan" "TunnelWatch$Device" "command" "I", .fieldLink RX1 25 "TunnelWatch$Fan" "sentTick" "I", .sameField "TunnelWatch$Fan" "TunnelWatch$Device" "sentTick" "I", .fieldLink RX1 36 "TunnelWatch$Fan" "kw" "I"] ++ wsX30 ++ wsX00 ++ wsX10)
def wsX3_stopBlowingAgainst : List Cond := .code yX3_stopBlowingAgainst cX3_stopBlowingAgainst 3 none :: ([.fieldLink RX3 48 "TunnelWatch$Tube" "fanCount" "I", .fieldLink RX3 23 "TunnelWatch$Tube" "fans" "[LTunnelWatch$Fan;", .fieldLink RX3 125 "TunnelWatch$Fan" "command" "I", .sameField "TunnelWatch$Fan" "TunnelWatch$Device" "command" "I", .fieldLink RX3 31 "TunnelWatch$Tube" "wantedDirection" "I", .methodLink RX3 139 yX1_stand, .instanceMethod yX1_stand, .selects RX1 yX1_stand yX1_stand, .initialized RX1, .code yX1_stand cX1_stand 2 none, .methodLink RX1 9 ⟨"TunnelWatch$Fan", "send", "(II)V"⟩, .sameMethod "TunnelWatch$Fan" "TunnelWatch$Device" "send" "(II)V", .selects RX1 ⟨"TunnelWatch$Fan", "send", "(II)V"⟩ yX0_send, .instanceMethod yX0_send, .initialized RX0, .code yX0_send cX0_send 3 none, .fieldLink RX0 13 "TunnelWatch$Device" "command" "I", .fieldLink RX0 16 "TunnelWatch$Device" "sentTick" "I"] ++ wsX30 ++ wsX00 ++ wsX10)
def wsX3_longestRun : List Cond := .code yX3_longestRun cX3_longestRun 6 (some .int) :: ([.fieldLink RX3 48 "TunnelWatch$Tube" "fanCount" "I", .fieldLink RX3 23 "TunnelWatch$Tube" "fans" "[LTunnelWatch$Fan;", .fieldLink RX3 125 "TunnelWatch$Fan" "command" "I", .sameField "TunnelWatch$Fan" "TunnelWatch$Device" "command" "I", .fieldLink RX3 31 "TunnelWatch$Tube" "wantedDirection" "I", .fieldLink RX3 142 "TunnelWatch$Fan" "runTicks" "I"] ++ wsX30 ++ wsX00 ++ wsX10)
def wsX3_stopAt : List Cond := .code yX3_stopAt cX3_stopAt 3 none :: ([.fieldLink RX3 23 "TunnelWatch$Tube" "fans" "[LTunnelWatch$Fan;", .methodLink RX3 139 yX1_stand, .instanceMethod yX1_stand, .selects RX1 yX1_stand yX1_stand, .initialized RX1, .code yX1_stand cX1_stand 2 none, .methodLink RX1 9 ⟨"TunnelWatch$Fan", "send", "(II)V"⟩, .sameMethod "TunnelWatch$Fan" "TunnelWatch$Device" "send" "(II)V", .selects RX1 ⟨"TunnelWatch$Fan", "send", "(II)V"⟩ yX0_send, .instanceMethod yX0_send, .initialized RX0, .code yX0_send cX0_send 3 none, .fieldLink RX0 13 "TunnelWatch$Device" "command" "I", .fieldLink RX0 16 "TunnelWatch$Device" "sentTick" "I"] ++ wsX30 ++ wsX00 ++ wsX10)
def wsX3_stopFans_r1 : List Cond := [Cond.fieldLink RX3 31 "TunnelWatch$Tube" "wantedDirection" "I", Cond.fieldLink RX3 91 "TunnelWatch$Tube" "wantedFans" "I", Cond.methodLink RX3 115 yX3_isHalted, Cond.instanceMethod yX3_isHalted, Cond.selects RX3 yX3_isHalted yX3_isHalted, Cond.initialized RX3, Cond.code yX3_isHalted cX3_isHalted 2 (some .boolean), Cond.fieldLink RX3 12 "TunnelWatch$Tube" "signals" "LTunnelWatch$Device;", Cond.fieldLink RX3 102 "TunnelWatch$Device" "command" "I", Cond.fieldLink RX3 105 "TunnelWatch$Device" "actual" "I", Cond.fieldLink RX3 118 "TunnelWatch$Device" "sentTick" "I", Cond.methodLink RX3 129 yX3_stopBlowingAgainst, Cond.instanceMethod yX3_stopBlowingAgainst, Cond.selects RX3 yX3_stopBlowingAgainst yX3_stopBlowingAgainst, Cond.code yX3_stopBlowingAgainst cX3_stopBlowingAgainst 3 none, Cond.fieldLink RX3 48 "TunnelWatch$Tube" "fanCount" "I", Cond.fieldLink RX3 23 "TunnelWatch$Tube" "fans" "[LTunnelWatch$Fan;", Cond.fieldLink RX3 125 "TunnelWatch$Fan" "command" "I", Cond.sameField "TunnelWatch$Fan" "TunnelWatch$Device" "command" "I", Cond.methodLink RX3 139 yX1_stand, Cond.instanceMethod yX1_stand, Cond.selects RX1 yX1_stand yX1_stand, Cond.initialized RX1, Cond.code yX1_stand cX1_stand 2 none]
def wsX3_stopFans_r2 : List Cond := [Cond.methodLink RX1 9 ⟨"TunnelWatch$Fan", "send", "(II)V"⟩, Cond.sameMethod "TunnelWatch$Fan" "TunnelWatch$Device" "send" "(II)V", Cond.selects RX1 ⟨"TunnelWatch$Fan", "send", "(II)V"⟩ yX0_send, Cond.instanceMethod yX0_send, Cond.initialized RX0, Cond.code yX0_send cX0_send 3 none, Cond.fieldLink RX0 13 "TunnelWatch$Device" "command" "I", Cond.fieldLink RX0 16 "TunnelWatch$Device" "sentTick" "I", Cond.methodLink RX3 121 yX3_countBlowing, Cond.instanceMethod yX3_countBlowing, Cond.selects RX3 yX3_countBlowing yX3_countBlowing, Cond.code yX3_countBlowing cX3_countBlowing 4 (some .int), Cond.methodLink RX3 132 yX3_longestRun, Cond.instanceMethod yX3_longestRun, Cond.selects RX3 yX3_longestRun yX3_longestRun, Cond.code yX3_longestRun cX3_longestRun 6 (some .int), Cond.fieldLink RX3 142 "TunnelWatch$Fan" "runTicks" "I", Cond.methodLink RX3 136 yX3_stopAt, Cond.instanceMethod yX3_stopAt, Cond.selects RX3 yX3_stopAt yX3_stopAt, Cond.code yX3_stopAt cX3_stopAt 3 none]
def wsX3_stopFans : List Cond := .code yX3_stopFans cX3_stopFans 5 none :: ((wsX3_stopFans_r1 ++ wsX3_stopFans_r2) ++ wsX30 ++ wsX00 ++ wsX10)
def wsX3_stopLongestRun_r1 : List Cond := [Cond.methodLink RX3 132 yX3_longestRun, Cond.instanceMethod yX3_longestRun, Cond.selects RX3 yX3_longestRun yX3_longestRun, Cond.initialized RX3, Cond.code yX3_longestRun cX3_longestRun 6 (some .int), Cond.fieldLink RX3 48 "TunnelWatch$Tube" "fanCount" "I", Cond.fieldLink RX3 23 "TunnelWatch$Tube" "fans" "[LTunnelWatch$Fan;", Cond.fieldLink RX3 125 "TunnelWatch$Fan" "command" "I", Cond.sameField "TunnelWatch$Fan" "TunnelWatch$Device" "command" "I", Cond.fieldLink RX3 31 "TunnelWatch$Tube" "wantedDirection" "I", Cond.fieldLink RX3 142 "TunnelWatch$Fan" "runTicks" "I", Cond.methodLink RX3 136 yX3_stopAt, Cond.instanceMethod yX3_stopAt, Cond.selects RX3 yX3_stopAt yX3_stopAt, Cond.code yX3_stopAt cX3_stopAt 3 none, Cond.methodLink RX3 139 yX1_stand, Cond.instanceMethod yX1_stand, Cond.selects RX1 yX1_stand yX1_stand, Cond.initialized RX1, Cond.code yX1_stand cX1_stand 2 none, Cond.methodLink RX1 9 ⟨"TunnelWatch$Fan", "send", "(II)V"⟩, Cond.sameMethod "TunnelWatch$Fan" "TunnelWatch$Device" "send" "(II)V", Cond.selects RX1 ⟨"TunnelWatch$Fan", "send", "(II)V"⟩ yX0_send, Cond.instanceMethod yX0_send]
def wsX3_stopLongestRun_r2 : List Cond := [Cond.initialized RX0, Cond.code yX0_send cX0_send 3 none, Cond.fieldLink RX0 13 "TunnelWatch$Device" "command" "I", Cond.fieldLink RX0 16 "TunnelWatch$Device" "sentTick" "I"]
def wsX3_stopLongestRun : List Cond := .code yX3_stopLongestRun cX3_stopLongestRun 3 (some .boolean) :: ((wsX3_stopLongestRun_r1 ++ wsX3_stopLongestRun_r2) ++ wsX30 ++ wsX00 ++ wsX10)
def wsX3_isReady : List Cond := .code yX3_isReady cX3_isReady 4 (some .boolean) :: ([.fieldLink RX3 125 "TunnelWatch$Fan" "command" "I", .sameField "TunnelWatch$Fan" "TunnelWatch$Device" "command" "I", .fieldLink RX3 149 "TunnelWatch$Fan" "out" "Z", .sameField "TunnelWatch$Fan" "TunnelWatch$Device" "out" "Z", .fieldLink RX3 31 "TunnelWatch$Tube" "wantedDirection" "I", .methodLink RX3 152 yX1_hasRested, .instanceMethod yX1_hasRested, .selects RX1 yX1_hasRested yX1_hasRested, .initialized RX1, .code yX1_hasRested cX1_hasRested 4 (some .boolean), .fieldLink RX1 15 "TunnelWatch$Fan" "lastDirection" "I", .methodLink RX1 39 yX1_restLeft, .instanceMethod yX1_restLeft, .selects RX1 yX1_restLeft yX1_restLeft, .code yX1_restLeft cX1_restLeft 4 (some .int), .fieldLink RX1 22 "TunnelWatch$Fan" "command" "I", .fieldLink RX1 25 "TunnelWatch$Fan" "sentTick" "I", .sameField "TunnelWatch$Fan" "TunnelWatch$Device" "sentTick" "I"] ++ wsX00 ++ wsX10 ++ wsX30)
def wsX3_leastRunReady_r1 : List Cond := [Cond.fieldLink RX3 48 "TunnelWatch$Tube" "fanCount" "I", Cond.fieldLink RX3 23 "TunnelWatch$Tube" "fans" "[LTunnelWatch$Fan;", Cond.fieldLink RX3 142 "TunnelWatch$Fan" "runTicks" "I", Cond.methodLink RX3 145 yX3_isReady, Cond.instanceMethod yX3_isReady, Cond.selects RX3 yX3_isReady yX3_isReady, Cond.initialized RX3, Cond.code yX3_isReady cX3_isReady 4 (some .boolean), Cond.fieldLink RX3 125 "TunnelWatch$Fan" "command" "I", Cond.sameField "TunnelWatch$Fan" "TunnelWatch$Device" "command" "I", Cond.fieldLink RX3 149 "TunnelWatch$Fan" "out" "Z", Cond.sameField "TunnelWatch$Fan" "TunnelWatch$Device" "out" "Z", Cond.fieldLink RX3 31 "TunnelWatch$Tube" "wantedDirection" "I", Cond.methodLink RX3 152 yX1_hasRested, Cond.instanceMethod yX1_hasRested, Cond.selects RX1 yX1_hasRested yX1_hasRested, Cond.initialized RX1, Cond.code yX1_hasRested cX1_hasRested 4 (some .boolean), Cond.fieldLink RX1 15 "TunnelWatch$Fan" "lastDirection" "I", Cond.methodLink RX1 39 yX1_restLeft, Cond.instanceMethod yX1_restLeft, Cond.selects RX1 yX1_restLeft yX1_restLeft, Cond.code yX1_restLeft cX1_restLeft 4 (some .int), Cond.fieldLink RX1 22 "TunnelWatch$Fan" "command" "I"]
def wsX3_leastRunReady_r2 : List Cond := [Cond.fieldLink RX1 25 "TunnelWatch$Fan" "sentTick" "I", Cond.sameField "TunnelWatch$Fan" "TunnelWatch$Device" "sentTick" "I"]
def wsX3_leastRunReady : List Cond := .code yX3_leastRunReady cX3_leastRunReady 5 (some .int) :: ((wsX3_leastRunReady_r1 ++ wsX3_leastRunReady_r2) ++ wsX30 ++ wsX10 ++ wsX00)
def wsX3_countRun : List Cond := .code yX3_countRun cX3_countRun 2 none :: ([.fieldLink RX3 48 "TunnelWatch$Tube" "fanCount" "I", .fieldLink RX3 23 "TunnelWatch$Tube" "fans" "[LTunnelWatch$Fan;", .fieldLink RX3 125 "TunnelWatch$Fan" "command" "I", .sameField "TunnelWatch$Fan" "TunnelWatch$Device" "command" "I", .fieldLink RX3 142 "TunnelWatch$Fan" "runTicks" "I"] ++ wsX30 ++ wsX00 ++ wsX10)
set_option maxRecDepth 20000 in
theorem ggX3_init_X0_init : GoodIn wsX3_init wsX0_init := goodIn_r _ [22, 23, 2, 3, 24, 32, 33, 34, 35, 36, 37, 58, 59, 60, 61, 62, 63, 64, 65, 66] (by decide +kernel) (by decide +kernel)
set_option maxRecDepth 20000 in
theorem gX3_init_X0_init_n11 : GoodIn wsX3_init (wsX0_init) := ggX3_init_X0_init
set_option maxRecDepth 20000 in
theorem ggX3_init_X2_init : GoodIn wsX3_init wsX2_init := goodIn_r _ [26, 27, 2, 3, 28, 29, 50, 51, 52, 53, 54, 55, 56, 57] (by decide +kernel) (by decide +kernel)
set_option maxRecDepth 20000 in
theorem gX3_init_X2_init_n46 : GoodIn wsX3_init (wsX2_init) := ggX3_init_X2_init
set_option maxRecDepth 20000 in
theorem ggX3_init_X1_init : GoodIn wsX3_init wsX1_init := goodIn_r _ [31, 21, 6, 22, 23, 2, 3, 24, 32, 33, 34, 35, 36, 37, 58, 59, 60, 61, 62, 63, 64, 65, 66] (by decide +kernel) (by decide +kernel)
set_option maxRecDepth 20000 in
theorem gX3_init_X1_init_n47 : GoodIn wsX3_init (wsX1_init) := ggX3_init_X1_init
theorem dX3_init_0 : decode cX3_init 0 = .ok (.aload_n 0, 1) := by decide +kernel
theorem dX3_init_1 : decode cX3_init 1 = .ok (.invokespecial 3, 3) := by decide +kernel
theorem dX3_init_4 : decode cX3_init 4 = .ok (.aload_n 0, 1) := by decide +kernel
theorem dX3_init_5 : decode cX3_init 5 = .ok (.new 9, 3) := by decide +kernel
theorem dX3_init_8 : decode cX3_init 8 = .ok (.dup, 1) := by decide +kernel
theorem dX3_init_9 : decode cX3_init 9 = .ok (.invokespecial 11, 3) := by decide +kernel
theorem dX3_init_12 : decode cX3_init 12 = .ok (.putfield 12, 3) := by decide +kernel
theorem dX3_init_15 : decode cX3_init 15 = .ok (.aload_n 0, 1) := by decide +kernel
theorem dX3_init_16 : decode cX3_init 16 = .ok (.new 9, 3) := by decide +kernel
theorem dX3_init_19 : decode cX3_init 19 = .ok (.dup, 1) := by decide +kernel
theorem dX3_init_20 : decode cX3_init 20 = .ok (.invokespecial 11, 3) := by decide +kernel
theorem dX3_init_23 : decode cX3_init 23 = .ok (.putfield 18, 3) := by decide +kernel
theorem dX3_init_26 : decode cX3_init 26 = .ok (.aload_n 0, 1) := by decide +kernel
theorem dX3_init_27 : decode cX3_init 27 = .ok (.bipush 12, 2) := by decide +kernel
theorem dX3_init_29 : decode cX3_init 29 = .ok (.anewarray 21, 3) := by decide +kernel
theorem dX3_init_32 : decode cX3_init 32 = .ok (.putfield 23, 3) := by decide +kernel
theorem dX3_init_35 : decode cX3_init 35 = .ok (.aload_n 0, 1) := by decide +kernel
theorem dX3_init_36 : decode cX3_init 36 = .ok (.iconst 1, 1) := by decide +kernel
theorem dX3_init_37 : decode cX3_init 37 = .ok (.putfield 27, 3) := by decide +kernel
theorem dX3_init_40 : decode cX3_init 40 = .ok (.aload_n 0, 1) := by decide +kernel
theorem dX3_init_41 : decode cX3_init 41 = .ok (.iconst 1, 1) := by decide +kernel
theorem dX3_init_42 : decode cX3_init 42 = .ok (.putfield 31, 3) := by decide +kernel
theorem dX3_init_45 : decode cX3_init 45 = .ok (.aload_n 0, 1) := by decide +kernel
theorem dX3_init_46 : decode cX3_init 46 = .ok (.iconst 0, 1) := by decide +kernel
theorem dX3_init_47 : decode cX3_init 47 = .ok (.putfield 34, 3) := by decide +kernel
theorem dX3_init_50 : decode cX3_init 50 = .ok (.aload_n 0, 1) := by decide +kernel
theorem dX3_init_51 : decode cX3_init 51 = .ok (.iconst (-1), 1) := by decide +kernel
theorem dX3_init_52 : decode cX3_init 52 = .ok (.putfield 37, 3) := by decide +kernel
theorem dX3_init_55 : decode cX3_init 55 = .ok (.aload_n 0, 1) := by decide +kernel
theorem dX3_init_56 : decode cX3_init 56 = .ok (.iload_n 1, 1) := by decide +kernel
theorem dX3_init_57 : decode cX3_init 57 = .ok (.anewarray 40, 3) := by decide +kernel
theorem dX3_init_60 : decode cX3_init 60 = .ok (.putfield 42, 3) := by decide +kernel
theorem dX3_init_63 : decode cX3_init 63 = .ok (.iconst 0, 1) := by decide +kernel
theorem dX3_init_64 : decode cX3_init 64 = .ok (.istore_n 2, 1) := by decide +kernel
theorem dX3_init_65 : decode cX3_init 65 = .ok (.iload_n 2, 1) := by decide +kernel
theorem dX3_init_66 : decode cX3_init 66 = .ok (.iload_n 1, 1) := by decide +kernel
theorem dX3_init_67 : decode cX3_init 67 = .ok (.if_icmp .ge 22, 3) := by decide +kernel
theorem dX3_init_70 : decode cX3_init 70 = .ok (.aload_n 0, 1) := by decide +kernel
theorem dX3_init_71 : decode cX3_init 71 = .ok (.getfield 42, 3) := by decide +kernel
theorem dX3_init_74 : decode cX3_init 74 = .ok (.iload_n 2, 1) := by decide +kernel
theorem dX3_init_75 : decode cX3_init 75 = .ok (.new 40, 3) := by decide +kernel
theorem dX3_init_78 : decode cX3_init 78 = .ok (.dup, 1) := by decide +kernel
theorem dX3_init_79 : decode cX3_init 79 = .ok (.invokespecial 46, 3) := by decide +kernel
theorem dX3_init_82 : decode cX3_init 82 = .ok (.aastore, 1) := by decide +kernel
theorem dX3_init_83 : decode cX3_init 83 = .ok (.iinc 2 1, 3) := by decide +kernel
theorem dX3_init_86 : decode cX3_init 86 = .ok (.goto (-21), 3) := by decide +kernel
theorem dX3_init_89 : decode cX3_init 89 = .ok (.iconst 0, 1) := by decide +kernel
theorem dX3_init_90 : decode cX3_init 90 = .ok (.istore_n 2, 1) := by decide +kernel
theorem dX3_init_91 : decode cX3_init 91 = .ok (.iload_n 2, 1) := by decide +kernel
theorem dX3_init_92 : decode cX3_init 92 = .ok (.bipush 12, 2) := by decide +kernel
theorem dX3_init_94 : decode cX3_init 94 = .ok (.if_icmp .ge 22, 3) := by decide +kernel
theorem dX3_init_97 : decode cX3_init 97 = .ok (.aload_n 0, 1) := by decide +kernel
theorem dX3_init_98 : decode cX3_init 98 = .ok (.getfield 23, 3) := by decide +kernel
theorem dX3_init_101 : decode cX3_init 101 = .ok (.iload_n 2, 1) := by decide +kernel
theorem dX3_init_102 : decode cX3_init 102 = .ok (.new 21, 3) := by decide +kernel
theorem dX3_init_105 : decode cX3_init 105 = .ok (.dup, 1) := by decide +kernel
theorem dX3_init_106 : decode cX3_init 106 = .ok (.invokespecial 47, 3) := by decide +kernel
theorem dX3_init_109 : decode cX3_init 109 = .ok (.aastore, 1) := by decide +kernel
theorem dX3_init_110 : decode cX3_init 110 = .ok (.iinc 2 1, 3) := by decide +kernel
theorem dX3_init_113 : decode cX3_init 113 = .ok (.goto (-22), 3) := by decide +kernel
theorem dX3_init_116 : decode cX3_init 116 = .ok (.return_, 1) := by decide +kernel
theorem dX3_addFan_0 : decode cX3_addFan 0 = .ok (.aload_n 0, 1) := by decide +kernel
theorem dX3_addFan_1 : decode cX3_addFan 1 = .ok (.getfield 48, 3) := by decide +kernel
theorem dX3_addFan_4 : decode cX3_addFan 4 = .ok (.istore_n 2, 1) := by decide +kernel
theorem dX3_addFan_5 : decode cX3_addFan 5 = .ok (.iload_n 2, 1) := by decide +kernel
theorem dX3_addFan_6 : decode cX3_addFan 6 = .ok (.aload_n 0, 1) := by decide +kernel
theorem dX3_addFan_7 : decode cX3_addFan 7 = .ok (.getfield 23, 3) := by decide +kernel
theorem dX3_addFan_10 : decode cX3_addFan 10 = .ok (.arraylength, 1) := by decide +kernel
theorem dX3_addFan_11 : decode cX3_addFan 11 = .ok (.if_icmp .ge 23, 3) := by decide +kernel
theorem dX3_addFan_14 : decode cX3_addFan 14 = .ok (.aload_n 0, 1) := by decide +kernel
theorem dX3_addFan_15 : decode cX3_addFan 15 = .ok (.getfield 23, 3) := by decide +kernel
theorem dX3_addFan_18 : decode cX3_addFan 18 = .ok (.iload_n 2, 1) := by decide +kernel
theorem dX3_addFan_19 : decode cX3_addFan 19 = .ok (.aaload, 1) := by decide +kernel
theorem dX3_addFan_20 : decode cX3_addFan 20 = .ok (.iload_n 1, 1) := by decide +kernel
theorem dX3_addFan_21 : decode cX3_addFan 21 = .ok (.putfield 51, 3) := by decide +kernel
theorem dX3_addFan_24 : decode cX3_addFan 24 = .ok (.aload_n 0, 1) := by decide +kernel
theorem dX3_addFan_25 : decode cX3_addFan 25 = .ok (.dup, 1) := by decide +kernel
theorem dX3_addFan_26 : decode cX3_addFan 26 = .ok (.getfield 48, 3) := by decide +kernel
theorem dX3_addFan_29 : decode cX3_addFan 29 = .ok (.iconst 1, 1) := by decide +kernel
theorem dX3_addFan_30 : decode cX3_addFan 30 = .ok (.iadd, 1) := by decide +kernel
theorem dX3_addFan_31 : decode cX3_addFan 31 = .ok (.putfield 48, 3) := by decide +kernel
theorem dX3_addFan_34 : decode cX3_addFan 34 = .ok (.iload_n 2, 1) := by decide +kernel
theorem dX3_addFan_35 : decode cX3_addFan 35 = .ok (.ireturn, 1) := by decide +kernel
theorem dX3_deviceAt_0 : decode cX3_deviceAt 0 = .ok (.iload_n 1, 1) := by decide +kernel
theorem dX3_deviceAt_1 : decode cX3_deviceAt 1 = .ok (.ifCond .ne 8, 3) := by decide +kernel
theorem dX3_deviceAt_4 : decode cX3_deviceAt 4 = .ok (.aload_n 0, 1) := by decide +kernel
theorem dX3_deviceAt_5 : decode cX3_deviceAt 5 = .ok (.getfield 12, 3) := by decide +kernel
theorem dX3_deviceAt_8 : decode cX3_deviceAt 8 = .ok (.areturn, 1) := by decide +kernel
theorem dX3_deviceAt_9 : decode cX3_deviceAt 9 = .ok (.iload_n 1, 1) := by decide +kernel
theorem dX3_deviceAt_10 : decode cX3_deviceAt 10 = .ok (.iconst 1, 1) := by decide +kernel
theorem dX3_deviceAt_11 : decode cX3_deviceAt 11 = .ok (.if_icmp .ne 10, 3) := by decide +kernel
theorem dX3_deviceAt_14 : decode cX3_deviceAt 14 = .ok (.aload_n 0, 1) := by decide +kernel
theorem dX3_deviceAt_15 : decode cX3_deviceAt 15 = .ok (.getfield 18, 3) := by decide +kernel
theorem dX3_deviceAt_18 : decode cX3_deviceAt 18 = .ok (.goto 11, 3) := by decide +kernel
theorem dX3_deviceAt_21 : decode cX3_deviceAt 21 = .ok (.aload_n 0, 1) := by decide +kernel
theorem dX3_deviceAt_22 : decode cX3_deviceAt 22 = .ok (.getfield 23, 3) := by decide +kernel
theorem dX3_deviceAt_25 : decode cX3_deviceAt 25 = .ok (.iload_n 1, 1) := by decide +kernel
theorem dX3_deviceAt_26 : decode cX3_deviceAt 26 = .ok (.iconst 2, 1) := by decide +kernel
theorem dX3_deviceAt_27 : decode cX3_deviceAt 27 = .ok (.isub, 1) := by decide +kernel
theorem dX3_deviceAt_28 : decode cX3_deviceAt 28 = .ok (.aaload, 1) := by decide +kernel
theorem dX3_deviceAt_29 : decode cX3_deviceAt 29 = .ok (.areturn, 1) := by decide +kernel
set_option maxRecDepth 20000 in
theorem ggX3_judgeFire_X3_bestCandidate : GoodIn wsX3_judgeFire wsX3_bestCandidate := goodIn_r _ [9, 2, 10, 3, 11, 12, 13, 8, 14, 15, 16, 17, 18, 19, 20, 21, 22, 23, 24, 25, 26, 27, 28, 29, 42, 43, 44, 45, 46, 47, 48, 49, 50, 51, 52, 53, 54, 55, 56, 57, 58, 59, 60, 61] (by decide +kernel) (by decide +kernel)
set_option maxRecDepth 20000 in
theorem gX3_judgeFire_X3_bestCandidate : GoodIn wsX3_judgeFire (wsV RX3 54 RX3 yX3_bestCandidate wsX3_bestCandidate) := goodIn_app (goodIn_of _ (by decide +kernel)) ggX3_judgeFire_X3_bestCandidate
set_option maxRecDepth 20000 in
theorem ggX3_judgeFire_X3_judgeSuspicion : GoodIn wsX3_judgeFire wsX3_judgeSuspicion := goodIn_r _ [33, 1, 4, 34, 35, 36, 8, 37, 2, 15, 16, 17, 18, 19, 20, 21, 42, 43, 44, 45, 46, 47, 48, 49, 50, 51, 52, 53, 54, 55, 56, 57, 58, 59, 60, 61] (by decide +kernel) (by decide +kernel)
set_option maxRecDepth 20000 in
theorem gX3_judgeFire_X3_judgeSuspicion : GoodIn wsX3_judgeFire (wsV RX3 58 RX3 yX3_judgeSuspicion wsX3_judgeSuspicion) := goodIn_app (goodIn_of _ (by decide +kernel)) ggX3_judgeFire_X3_judgeSuspicion
set_option maxRecDepth 20000 in
theorem ggX3_judgeFire_X3_fireRank : GoodIn wsX3_judgeFire wsX3_fireRank := goodIn_r _ [41, 4, 2, 3, 42, 43, 44, 45, 46, 47, 48, 49, 50, 51, 52, 53, 54, 55, 56, 57, 58, 59, 60, 61] (by decide +kernel) (by decide +kernel)
set_option maxRecDepth 20000 in
theorem gX3_judgeFire_X3_fireRank : GoodIn wsX3_judgeFire (wsV RX3 64 RX3 yX3_fireRank wsX3_fireRank) := goodIn_app (goodIn_of _ (by decide +kernel)) ggX3_judgeFire_X3_fireRank
theorem dX3_judgeFire_0 : decode cX3_judgeFire 0 = .ok (.aload_n 0, 1) := by decide +kernel
theorem dX3_judgeFire_1 : decode cX3_judgeFire 1 = .ok (.invokevirtual 54, 3) := by decide +kernel
theorem dX3_judgeFire_4 : decode cX3_judgeFire 4 = .ok (.istore_n 1, 1) := by decide +kernel
theorem dX3_judgeFire_5 : decode cX3_judgeFire 5 = .ok (.iload_n 1, 1) := by decide +kernel
theorem dX3_judgeFire_6 : decode cX3_judgeFire 6 = .ok (.iconst (-1), 1) := by decide +kernel
theorem dX3_judgeFire_7 : decode cX3_judgeFire 7 = .ok (.if_icmp .ne 10, 3) := by decide +kernel
theorem dX3_judgeFire_10 : decode cX3_judgeFire 10 = .ok (.aload_n 0, 1) := by decide +kernel
theorem dX3_judgeFire_11 : decode cX3_judgeFire 11 = .ok (.invokevirtual 58, 3) := by decide +kernel
theorem dX3_judgeFire_14 : decode cX3_judgeFire 14 = .ok (.goto 37, 3) := by decide +kernel
theorem dX3_judgeFire_17 : decode cX3_judgeFire 17 = .ok (.aload_n 0, 1) := by decide +kernel
theorem dX3_judgeFire_18 : decode cX3_judgeFire 18 = .ok (.getfield 34, 3) := by decide +kernel
theorem dX3_judgeFire_21 : decode cX3_judgeFire 21 = .ok (.iconst 2, 1) := by decide +kernel
theorem dX3_judgeFire_22 : decode cX3_judgeFire 22 = .ok (.if_icmp .ne 19, 3) := by decide +kernel
theorem dX3_judgeFire_25 : decode cX3_judgeFire 25 = .ok (.aload_n 0, 1) := by decide +kernel
theorem dX3_judgeFire_26 : decode cX3_judgeFire 26 = .ok (.getfield 42, 3) := by decide +kernel
theorem dX3_judgeFire_29 : decode cX3_judgeFire 29 = .ok (.iload_n 1, 1) := by decide +kernel
theorem dX3_judgeFire_30 : decode cX3_judgeFire 30 = .ok (.aaload, 1) := by decide +kernel
theorem dX3_judgeFire_31 : decode cX3_judgeFire 31 = .ok (.getfield 61, 3) := by decide +kernel
theorem dX3_judgeFire_34 : decode cX3_judgeFire 34 = .ok (.aload_n 0, 1) := by decide +kernel
theorem dX3_judgeFire_35 : decode cX3_judgeFire 35 = .ok (.invokevirtual 64, 3) := by decide +kernel
theorem dX3_judgeFire_38 : decode cX3_judgeFire 38 = .ok (.if_icmp .le 13, 3) := by decide +kernel
theorem dX3_judgeFire_41 : decode cX3_judgeFire 41 = .ok (.aload_n 0, 1) := by decide +kernel
theorem dX3_judgeFire_42 : decode cX3_judgeFire 42 = .ok (.iconst 2, 1) := by decide +kernel
theorem dX3_judgeFire_43 : decode cX3_judgeFire 43 = .ok (.putfield 34, 3) := by decide +kernel
theorem dX3_judgeFire_46 : decode cX3_judgeFire 46 = .ok (.aload_n 0, 1) := by decide +kernel
theorem dX3_judgeFire_47 : decode cX3_judgeFire 47 = .ok (.iload_n 1, 1) := by decide +kernel
theorem dX3_judgeFire_48 : decode cX3_judgeFire 48 = .ok (.putfield 37, 3) := by decide +kernel
theorem dX3_judgeFire_51 : decode cX3_judgeFire 51 = .ok (.return_, 1) := by decide +kernel
set_option maxRecDepth 20000 in
theorem ggX3_judgeSuspicion_X3_leastOn : GoodIn wsX3_judgeSuspicion wsX3_leastOn := goodIn_r _ [7, 8, 9, 10, 11, 12, 13, 14, 15, 16, 17, 18, 19, 20, 21, 22, 23, 24, 25, 26, 27, 28, 29, 30, 31, 32, 33, 34, 35] (by decide +kernel) (by decide +kernel)
set_option maxRecDepth 20000 in
theorem gX3_judgeSuspicion_X3_leastOn : GoodIn wsX3_judgeSuspicion (wsV RX3 67 RX3 yX3_leastOn wsX3_leastOn) := goodIn_app (goodIn_of _ (by decide +kernel)) ggX3_judgeSuspicion_X3_leastOn
theorem dX3_judgeSuspicion_0 : decode cX3_judgeSuspicion 0 = .ok (.aload_n 0, 1) := by decide +kernel
theorem dX3_judgeSuspicion_1 : decode cX3_judgeSuspicion 1 = .ok (.getfield 34, 3) := by decide +kernel
theorem dX3_judgeSuspicion_4 : decode cX3_judgeSuspicion 4 = .ok (.iconst 2, 1) := by decide +kernel
theorem dX3_judgeSuspicion_5 : decode cX3_judgeSuspicion 5 = .ok (.if_icmp .eq 28, 3) := by decide +kernel
theorem dX3_judgeSuspicion_8 : decode cX3_judgeSuspicion 8 = .ok (.aload_n 0, 1) := by decide +kernel
theorem dX3_judgeSuspicion_9 : decode cX3_judgeSuspicion 9 = .ok (.aload_n 0, 1) := by decide +kernel
theorem dX3_judgeSuspicion_10 : decode cX3_judgeSuspicion 10 = .ok (.invokevirtual 67, 3) := by decide +kernel
theorem dX3_judgeSuspicion_13 : decode cX3_judgeSuspicion 13 = .ok (.putfield 37, 3) := by decide +kernel
theorem dX3_judgeSuspicion_16 : decode cX3_judgeSuspicion 16 = .ok (.aload_n 0, 1) := by decide +kernel
theorem dX3_judgeSuspicion_17 : decode cX3_judgeSuspicion 17 = .ok (.aload_n 0, 1) := by decide +kernel
theorem dX3_judgeSuspicion_18 : decode cX3_judgeSuspicion 18 = .ok (.getfield 37, 3) := by decide +kernel
theorem dX3_judgeSuspicion_21 : decode cX3_judgeSuspicion 21 = .ok (.iconst (-1), 1) := by decide +kernel
theorem dX3_judgeSuspicion_22 : decode cX3_judgeSuspicion 22 = .ok (.if_icmp .ne 7, 3) := by decide +kernel
theorem dX3_judgeSuspicion_25 : decode cX3_judgeSuspicion 25 = .ok (.iconst 0, 1) := by decide +kernel
theorem dX3_judgeSuspicion_26 : decode cX3_judgeSuspicion 26 = .ok (.goto 4, 3) := by decide +kernel
theorem dX3_judgeSuspicion_29 : decode cX3_judgeSuspicion 29 = .ok (.iconst 1, 1) := by decide +kernel
theorem dX3_judgeSuspicion_30 : decode cX3_judgeSuspicion 30 = .ok (.putfield 34, 3) := by decide +kernel
theorem dX3_judgeSuspicion_33 : decode cX3_judgeSuspicion 33 = .ok (.return_, 1) := by decide +kernel
set_option maxRecDepth 20000 in
theorem ggX3_bestCandidate_X3_leastOfPair : GoodIn wsX3_bestCandidate wsX3_leastOfPair := goodIn_r _ [8, 1, 9, 10, 11, 12, 13, 14, 15, 16, 17, 18, 7, 19, 20, 21, 22, 23, 24, 25, 26, 27, 28, 29, 30, 31, 32, 33, 34, 35, 36, 37, 38, 39, 40, 41, 42, 43] (by decide +kernel) (by decide +kernel)
set_option maxRecDepth 20000 in
theorem gX3_bestCandidate_X3_leastOfPair : GoodIn wsX3_bestCandidate (wsV RX3 70 RX3 yX3_leastOfPair wsX3_leastOfPair) := goodIn_app (goodIn_of _ (by decide +kernel)) ggX3_bestCandidate_X3_leastOfPair
theorem dX3_bestCandidate_0 : decode cX3_bestCandidate 0 = .ok (.aload_n 0, 1) := by decide +kernel
theorem dX3_bestCandidate_1 : decode cX3_bestCandidate 1 = .ok (.invokevirtual 70, 3) := by decide +kernel
theorem dX3_bestCandidate_4 : decode cX3_bestCandidate 4 = .ok (.istore_n 1, 1) := by decide +kernel
theorem dX3_bestCandidate_5 : decode cX3_bestCandidate 5 = .ok (.iconst (-1), 1) := by decide +kernel
theorem dX3_bestCandidate_6 : decode cX3_bestCandidate 6 = .ok (.istore_n 2, 1) := by decide +kernel
theorem dX3_bestCandidate_7 : decode cX3_bestCandidate 7 = .ok (.iconst 0, 1) := by decide +kernel
theorem dX3_bestCandidate_8 : decode cX3_bestCandidate 8 = .ok (.istore_n 3, 1) := by decide +kernel
theorem dX3_bestCandidate_9 : decode cX3_bestCandidate 9 = .ok (.iload_n 3, 1) := by decide +kernel
theorem dX3_bestCandidate_10 : decode cX3_bestCandidate 10 = .ok (.aload_n 0, 1) := by decide +kernel
theorem dX3_bestCandidate_11 : decode cX3_bestCandidate 11 = .ok (.getfield 42, 3) := by decide +kernel
theorem dX3_bestCandidate_14 : decode cX3_bestCandidate 14 = .ok (.arraylength, 1) := by decide +kernel
theorem dX3_bestCandidate_15 : decode cX3_bestCandidate 15 = .ok (.if_icmp .ge 66, 3) := by decide +kernel
theorem dX3_bestCandidate_18 : decode cX3_bestCandidate 18 = .ok (.aload_n 0, 1) := by decide +kernel
theorem dX3_bestCandidate_19 : decode cX3_bestCandidate 19 = .ok (.getfield 42, 3) := by decide +kernel
theorem dX3_bestCandidate_22 : decode cX3_bestCandidate 22 = .ok (.iload_n 3, 1) := by decide +kernel
theorem dX3_bestCandidate_23 : decode cX3_bestCandidate 23 = .ok (.aaload, 1) := by decide +kernel
theorem dX3_bestCandidate_24 : decode cX3_bestCandidate 24 = .ok (.getfield 73, 3) := by decide +kernel
theorem dX3_bestCandidate_27 : decode cX3_bestCandidate 27 = .ok (.ifCond .ne 8, 3) := by decide +kernel
theorem dX3_bestCandidate_30 : decode cX3_bestCandidate 30 = .ok (.iload_n 3, 1) := by decide +kernel
theorem dX3_bestCandidate_31 : decode cX3_bestCandidate 31 = .ok (.iload_n 1, 1) := by decide +kernel
theorem dX3_bestCandidate_32 : decode cX3_bestCandidate 32 = .ok (.if_icmp .ne 7, 3) := by decide +kernel
theorem dX3_bestCandidate_35 : decode cX3_bestCandidate 35 = .ok (.iconst 1, 1) := by decide +kernel
theorem dX3_bestCandidate_36 : decode cX3_bestCandidate 36 = .ok (.goto 4, 3) := by decide +kernel
theorem dX3_bestCandidate_39 : decode cX3_bestCandidate 39 = .ok (.iconst 0, 1) := by decide +kernel
theorem dX3_bestCandidate_40 : decode cX3_bestCandidate 40 = .ok (.istore 4, 2) := by decide +kernel
theorem dX3_bestCandidate_42 : decode cX3_bestCandidate 42 = .ok (.iload 4, 2) := by decide +kernel
theorem dX3_bestCandidate_44 : decode cX3_bestCandidate 44 = .ok (.ifCond .eq 31, 3) := by decide +kernel
theorem dX3_bestCandidate_47 : decode cX3_bestCandidate 47 = .ok (.iload_n 2, 1) := by decide +kernel
theorem dX3_bestCandidate_48 : decode cX3_bestCandidate 48 = .ok (.iconst (-1), 1) := by decide +kernel
theorem dX3_bestCandidate_49 : decode cX3_bestCandidate 49 = .ok (.if_icmp .eq 24, 3) := by decide +kernel
theorem dX3_bestCandidate_52 : decode cX3_bestCandidate 52 = .ok (.aload_n 0, 1) := by decide +kernel
theorem dX3_bestCandidate_53 : decode cX3_bestCandidate 53 = .ok (.getfield 42, 3) := by decide +kernel
theorem dX3_bestCandidate_56 : decode cX3_bestCandidate 56 = .ok (.iload_n 3, 1) := by decide +kernel
theorem dX3_bestCandidate_57 : decode cX3_bestCandidate 57 = .ok (.aaload, 1) := by decide +kernel
theorem dX3_bestCandidate_58 : decode cX3_bestCandidate 58 = .ok (.getfield 61, 3) := by decide +kernel
theorem dX3_bestCandidate_61 : decode cX3_bestCandidate 61 = .ok (.aload_n 0, 1) := by decide +kernel
theorem dX3_bestCandidate_62 : decode cX3_bestCandidate 62 = .ok (.getfield 42, 3) := by decide +kernel
theorem dX3_bestCandidate_65 : decode cX3_bestCandidate 65 = .ok (.iload_n 2, 1) := by decide +kernel
theorem dX3_bestCandidate_66 : decode cX3_bestCandidate 66 = .ok (.aaload, 1) := by decide +kernel
theorem dX3_bestCandidate_67 : decode cX3_bestCandidate 67 = .ok (.getfield 61, 3) := by decide +kernel
theorem dX3_bestCandidate_70 : decode cX3_bestCandidate 70 = .ok (.if_icmp .le 5, 3) := by decide +kernel
theorem dX3_bestCandidate_73 : decode cX3_bestCandidate 73 = .ok (.iload_n 3, 1) := by decide +kernel
theorem dX3_bestCandidate_74 : decode cX3_bestCandidate 74 = .ok (.istore_n 2, 1) := by decide +kernel
theorem dX3_bestCandidate_75 : decode cX3_bestCandidate 75 = .ok (.iinc 3 1, 3) := by decide +kernel
theorem dX3_bestCandidate_78 : decode cX3_bestCandidate 78 = .ok (.goto (-69), 3) := by decide +kernel
theorem dX3_bestCandidate_81 : decode cX3_bestCandidate 81 = .ok (.iload_n 2, 1) := by decide +kernel
theorem dX3_bestCandidate_82 : decode cX3_bestCandidate 82 = .ok (.ireturn, 1) := by decide +kernel
set_option maxRecDepth 20000 in
theorem ggX3_leastOfPair_X2_isOn : GoodIn wsX3_leastOfPair wsX2_isOn := goodIn_r _ [6, 7, 8, 30, 31, 32, 33, 34, 35, 36, 37] (by decide +kernel) (by decide +kernel)
set_option maxRecDepth 20000 in
theorem gX3_leastOfPair_X2_isOn : GoodIn wsX3_leastOfPair (wsV RX3 77 RX2 yX2_isOn wsX2_isOn) := goodIn_app (goodIn_of _ (by decide +kernel)) ggX3_leastOfPair_X2_isOn
set_option maxRecDepth 20000 in
theorem ggX3_leastOfPair_X3_isOnCloseAbove : GoodIn wsX3_leastOfPair wsX3_isOnCloseAbove := goodIn_r _ [13, 1, 14, 15, 16, 17, 2, 3, 4, 5, 6, 7, 8, 18, 19, 20, 21, 22, 23, 24, 25, 26, 27, 28, 29, 30, 31, 32, 33, 34, 35, 36, 37] (by decide +kernel) (by decide +kernel)
set_option maxRecDepth 20000 in
theorem gX3_leastOfPair_X3_isOnCloseAbove : GoodIn wsX3_leastOfPair (wsV RX3 81 RX3 yX3_isOnCloseAbove wsX3_isOnCloseAbove) := goodIn_app (goodIn_of _ (by decide +kernel)) ggX3_leastOfPair_X3_isOnCloseAbove
theorem dX3_leastOfPair_0 : decode cX3_leastOfPair 0 = .ok (.iconst 0, 1) := by decide +kernel
theorem dX3_leastOfPair_1 : decode cX3_leastOfPair 1 = .ok (.istore_n 1, 1) := by decide +kernel
theorem dX3_leastOfPair_2 : decode cX3_leastOfPair 2 = .ok (.iload_n 1, 1) := by decide +kernel
theorem dX3_leastOfPair_3 : decode cX3_leastOfPair 3 = .ok (.aload_n 0, 1) := by decide +kernel
theorem dX3_leastOfPair_4 : decode cX3_leastOfPair 4 = .ok (.getfield 42, 3) := by decide +kernel
theorem dX3_leastOfPair_7 : decode cX3_leastOfPair 7 = .ok (.arraylength, 1) := by decide +kernel
theorem dX3_leastOfPair_8 : decode cX3_leastOfPair 8 = .ok (.if_icmp .ge 31, 3) := by decide +kernel
theorem dX3_leastOfPair_11 : decode cX3_leastOfPair 11 = .ok (.aload_n 0, 1) := by decide +kernel
theorem dX3_leastOfPair_12 : decode cX3_leastOfPair 12 = .ok (.getfield 42, 3) := by decide +kernel
theorem dX3_leastOfPair_15 : decode cX3_leastOfPair 15 = .ok (.iload_n 1, 1) := by decide +kernel
theorem dX3_leastOfPair_16 : decode cX3_leastOfPair 16 = .ok (.aaload, 1) := by decide +kernel
theorem dX3_leastOfPair_17 : decode cX3_leastOfPair 17 = .ok (.invokevirtual 77, 3) := by decide +kernel
theorem dX3_leastOfPair_20 : decode cX3_leastOfPair 20 = .ok (.ifCond .eq 13, 3) := by decide +kernel
theorem dX3_leastOfPair_23 : decode cX3_leastOfPair 23 = .ok (.aload_n 0, 1) := by decide +kernel
theorem dX3_leastOfPair_24 : decode cX3_leastOfPair 24 = .ok (.iload_n 1, 1) := by decide +kernel
theorem dX3_leastOfPair_25 : decode cX3_leastOfPair 25 = .ok (.invokevirtual 81, 3) := by decide +kernel
theorem dX3_leastOfPair_28 : decode cX3_leastOfPair 28 = .ok (.ifCond .eq 5, 3) := by decide +kernel
theorem dX3_leastOfPair_31 : decode cX3_leastOfPair 31 = .ok (.iload_n 1, 1) := by decide +kernel
theorem dX3_leastOfPair_32 : decode cX3_leastOfPair 32 = .ok (.ireturn, 1) := by decide +kernel
theorem dX3_leastOfPair_33 : decode cX3_leastOfPair 33 = .ok (.iinc 1 1, 3) := by decide +kernel
theorem dX3_leastOfPair_36 : decode cX3_leastOfPair 36 = .ok (.goto (-34), 3) := by decide +kernel
theorem dX3_leastOfPair_39 : decode cX3_leastOfPair 39 = .ok (.iconst (-1), 1) := by decide +kernel
theorem dX3_leastOfPair_40 : decode cX3_leastOfPair 40 = .ok (.ireturn, 1) := by decide +kernel
set_option maxRecDepth 20000 in
theorem ggX3_isOnCloseAbove_X2_isOn : GoodIn wsX3_isOnCloseAbove wsX2_isOn := goodIn_r _ [10, 11, 12, 25, 26, 27, 28, 29, 30, 31, 32] (by decide +kernel) (by decide +kernel)
set_option maxRecDepth 20000 in
theorem gX3_isOnCloseAbove_X2_isOn : GoodIn wsX3_isOnCloseAbove (wsV RX3 77 RX2 yX2_isOn wsX2_isOn) := goodIn_app (goodIn_of _ (by decide +kernel)) ggX3_isOnCloseAbove_X2_isOn
theorem dX3_isOnCloseAbove_0 : decode cX3_isOnCloseAbove 0 = .ok (.iload_n 1, 1) := by decide +kernel
theorem dX3_isOnCloseAbove_1 : decode cX3_isOnCloseAbove 1 = .ok (.iconst 3, 1) := by decide +kernel
theorem dX3_isOnCloseAbove_2 : decode cX3_isOnCloseAbove 2 = .ok (.iadd, 1) := by decide +kernel
theorem dX3_isOnCloseAbove_3 : decode cX3_isOnCloseAbove 3 = .ok (.aload_n 0, 1) := by decide +kernel
theorem dX3_isOnCloseAbove_4 : decode cX3_isOnCloseAbove 4 = .ok (.getfield 42, 3) := by decide +kernel
theorem dX3_isOnCloseAbove_7 : decode cX3_isOnCloseAbove 7 = .ok (.arraylength, 1) := by decide +kernel
theorem dX3_isOnCloseAbove_8 : decode cX3_isOnCloseAbove 8 = .ok (.iconst 1, 1) := by decide +kernel
theorem dX3_isOnCloseAbove_9 : decode cX3_isOnCloseAbove 9 = .ok (.isub, 1) := by decide +kernel
theorem dX3_isOnCloseAbove_10 : decode cX3_isOnCloseAbove 10 = .ok (.invokestatic 85, 3) := by decide +kernel
theorem dX3_isOnCloseAbove_13 : decode cX3_isOnCloseAbove 13 = .ok (.istore_n 2, 1) := by decide +kernel
theorem dX3_isOnCloseAbove_14 : decode cX3_isOnCloseAbove 14 = .ok (.iload_n 1, 1) := by decide +kernel
theorem dX3_isOnCloseAbove_15 : decode cX3_isOnCloseAbove 15 = .ok (.iconst 1, 1) := by decide +kernel
theorem dX3_isOnCloseAbove_16 : decode cX3_isOnCloseAbove 16 = .ok (.iadd, 1) := by decide +kernel
theorem dX3_isOnCloseAbove_17 : decode cX3_isOnCloseAbove 17 = .ok (.istore_n 3, 1) := by decide +kernel
theorem dX3_isOnCloseAbove_18 : decode cX3_isOnCloseAbove 18 = .ok (.iload_n 3, 1) := by decide +kernel
theorem dX3_isOnCloseAbove_19 : decode cX3_isOnCloseAbove 19 = .ok (.iload_n 2, 1) := by decide +kernel
theorem dX3_isOnCloseAbove_20 : decode cX3_isOnCloseAbove 20 = .ok (.if_icmp .gt 23, 3) := by decide +kernel
theorem dX3_isOnCloseAbove_23 : decode cX3_isOnCloseAbove 23 = .ok (.aload_n 0, 1) := by decide +kernel
theorem dX3_isOnCloseAbove_24 : decode cX3_isOnCloseAbove 24 = .ok (.getfield 42, 3) := by decide +kernel
theorem dX3_isOnCloseAbove_27 : decode cX3_isOnCloseAbove 27 = .ok (.iload_n 3, 1) := by decide +kernel
theorem dX3_isOnCloseAbove_28 : decode cX3_isOnCloseAbove 28 = .ok (.aaload, 1) := by decide +kernel
theorem dX3_isOnCloseAbove_29 : decode cX3_isOnCloseAbove 29 = .ok (.invokevirtual 77, 3) := by decide +kernel
theorem dX3_isOnCloseAbove_32 : decode cX3_isOnCloseAbove 32 = .ok (.ifCond .eq 5, 3) := by decide +kernel
theorem dX3_isOnCloseAbove_35 : decode cX3_isOnCloseAbove 35 = .ok (.iconst 1, 1) := by decide +kernel
theorem dX3_isOnCloseAbove_36 : decode cX3_isOnCloseAbove 36 = .ok (.ireturn, 1) := by decide +kernel
theorem dX3_isOnCloseAbove_37 : decode cX3_isOnCloseAbove 37 = .ok (.iinc 3 1, 3) := by decide +kernel
theorem dX3_isOnCloseAbove_40 : decode cX3_isOnCloseAbove 40 = .ok (.goto (-22), 3) := by decide +kernel
theorem dX3_isOnCloseAbove_43 : decode cX3_isOnCloseAbove 43 = .ok (.iconst 0, 1) := by decide +kernel
theorem dX3_isOnCloseAbove_44 : decode cX3_isOnCloseAbove 44 = .ok (.ireturn, 1) := by decide +kernel
set_option maxRecDepth 20000 in
theorem ggX3_leastOn_X2_isOn : GoodIn wsX3_leastOn wsX2_isOn := goodIn_r _ [6, 7, 8, 21, 22, 23, 24, 25, 26, 27, 28] (by decide +kernel) (by decide +kernel)
set_option maxRecDepth 20000 in
theorem gX3_leastOn_X2_isOn : GoodIn wsX3_leastOn (wsV RX3 77 RX2 yX2_isOn wsX2_isOn) := goodIn_app (goodIn_of _ (by decide +kernel)) ggX3_leastOn_X2_isOn
theorem dX3_leastOn_0 : decode cX3_leastOn 0 = .ok (.iconst 0, 1) := by decide +kernel
theorem dX3_leastOn_1 : decode cX3_leastOn 1 = .ok (.istore_n 1, 1) := by decide +kernel
theorem dX3_leastOn_2 : decode cX3_leastOn 2 = .ok (.iload_n 1, 1) := by decide +kernel
theorem dX3_leastOn_3 : decode cX3_leastOn 3 = .ok (.aload_n 0, 1) := by decide +kernel
theorem dX3_leastOn_4 : decode cX3_leastOn 4 = .ok (.getfield 42, 3) := by decide +kernel
theorem dX3_leastOn_7 : decode cX3_leastOn 7 = .ok (.arraylength, 1) := by decide +kernel
theorem dX3_leastOn_8 : decode cX3_leastOn 8 = .ok (.if_icmp .ge 23, 3) := by decide +kernel
theorem dX3_leastOn_11 : decode cX3_leastOn 11 = .ok (.aload_n 0, 1) := by decide +kernel
theorem dX3_leastOn_12 : decode cX3_leastOn 12 = .ok (.getfield 42, 3) := by decide +kernel
theorem dX3_leastOn_15 : decode cX3_leastOn 15 = .ok (.iload_n 1, 1) := by decide +kernel
theorem dX3_leastOn_16 : decode cX3_leastOn 16 = .ok (.aaload, 1) := by decide +kernel
theorem dX3_leastOn_17 : decode cX3_leastOn 17 = .ok (.invokevirtual 77, 3) := by decide +kernel
theorem dX3_leastOn_20 : decode cX3_leastOn 20 = .ok (.ifCond .eq 5, 3) := by decide +kernel
theorem dX3_leastOn_23 : decode cX3_leastOn 23 = .ok (.iload_n 1, 1) := by decide +kernel
theorem dX3_leastOn_24 : decode cX3_leastOn 24 = .ok (.ireturn, 1) := by decide +kernel
theorem dX3_leastOn_25 : decode cX3_leastOn 25 = .ok (.iinc 1 1, 3) := by decide +kernel
theorem dX3_leastOn_28 : decode cX3_leastOn 28 = .ok (.goto (-26), 3) := by decide +kernel
theorem dX3_leastOn_31 : decode cX3_leastOn 31 = .ok (.iconst (-1), 1) := by decide +kernel
theorem dX3_leastOn_32 : decode cX3_leastOn 32 = .ok (.ireturn, 1) := by decide +kernel
theorem dX3_fireRank_0 : decode cX3_fireRank 0 = .ok (.aload_n 0, 1) := by decide +kernel
theorem dX3_fireRank_1 : decode cX3_fireRank 1 = .ok (.getfield 37, 3) := by decide +kernel
theorem dX3_fireRank_4 : decode cX3_fireRank 4 = .ok (.iconst (-1), 1) := by decide +kernel
theorem dX3_fireRank_5 : decode cX3_fireRank 5 = .ok (.if_icmp .ne 7, 3) := by decide +kernel
theorem dX3_fireRank_8 : decode cX3_fireRank 8 = .ok (.iconst (-1), 1) := by decide +kernel
theorem dX3_fireRank_9 : decode cX3_fireRank 9 = .ok (.goto 15, 3) := by decide +kernel
theorem dX3_fireRank_12 : decode cX3_fireRank 12 = .ok (.aload_n 0, 1) := by decide +kernel
theorem dX3_fireRank_13 : decode cX3_fireRank 13 = .ok (.getfield 42, 3) := by decide +kernel
theorem dX3_fireRank_16 : decode cX3_fireRank 16 = .ok (.aload_n 0, 1) := by decide +kernel
theorem dX3_fireRank_17 : decode cX3_fireRank 17 = .ok (.getfield 37, 3) := by decide +kernel
theorem dX3_fireRank_20 : decode cX3_fireRank 20 = .ok (.aaload, 1) := by decide +kernel
theorem dX3_fireRank_21 : decode cX3_fireRank 21 = .ok (.getfield 61, 3) := by decide +kernel
theorem dX3_fireRank_24 : decode cX3_fireRank 24 = .ok (.ireturn, 1) := by decide +kernel
theorem dX3_pullWhereSuspected_0 : decode cX3_pullWhereSuspected 0 = .ok (.aload_n 0, 1) := by decide +kernel
theorem dX3_pullWhereSuspected_1 : decode cX3_pullWhereSuspected 1 = .ok (.getfield 34, 3) := by decide +kernel
theorem dX3_pullWhereSuspected_4 : decode cX3_pullWhereSuspected 4 = .ok (.iconst 1, 1) := by decide +kernel
theorem dX3_pullWhereSuspected_5 : decode cX3_pullWhereSuspected 5 = .ok (.if_icmp .ne 11, 3) := by decide +kernel
theorem dX3_pullWhereSuspected_8 : decode cX3_pullWhereSuspected 8 = .ok (.aload_n 0, 1) := by decide +kernel
theorem dX3_pullWhereSuspected_9 : decode cX3_pullWhereSuspected 9 = .ok (.getfield 37, 3) := by decide +kernel
theorem dX3_pullWhereSuspected_12 : decode cX3_pullWhereSuspected 12 = .ok (.iconst (-1), 1) := by decide +kernel
theorem dX3_pullWhereSuspected_13 : decode cX3_pullWhereSuspected 13 = .ok (.if_icmp .ne 5, 3) := by decide +kernel
theorem dX3_pullWhereSuspected_16 : decode cX3_pullWhereSuspected 16 = .ok (.iconst 0, 1) := by decide +kernel
theorem dX3_pullWhereSuspected_17 : decode cX3_pullWhereSuspected 17 = .ok (.ireturn, 1) := by decide +kernel
theorem dX3_pullWhereSuspected_18 : decode cX3_pullWhereSuspected 18 = .ok (.aload_n 0, 1) := by decide +kernel
theorem dX3_pullWhereSuspected_19 : decode cX3_pullWhereSuspected 19 = .ok (.getfield 42, 3) := by decide +kernel
theorem dX3_pullWhereSuspected_22 : decode cX3_pullWhereSuspected 22 = .ok (.aload_n 0, 1) := by decide +kernel
theorem dX3_pullWhereSuspected_23 : decode cX3_pullWhereSuspected 23 = .ok (.getfield 37, 3) := by decide +kernel
theorem dX3_pullWhereSuspected_26 : decode cX3_pullWhereSuspected 26 = .ok (.aaload, 1) := by decide +kernel
theorem dX3_pullWhereSuspected_27 : decode cX3_pullWhereSuspected 27 = .ok (.iconst 1, 1) := by decide +kernel
theorem dX3_pullWhereSuspected_28 : decode cX3_pullWhereSuspected 28 = .ok (.putfield 73, 3) := by decide +kernel
theorem dX3_pullWhereSuspected_31 : decode cX3_pullWhereSuspected 31 = .ok (.iconst 1, 1) := by decide +kernel
theorem dX3_pullWhereSuspected_32 : decode cX3_pullWhereSuspected 32 = .ok (.ireturn, 1) := by decide +kernel
set_option maxRecDepth 20000 in
theorem ggX3_endFire_X3_leastOn : GoodIn wsX3_endFire wsX3_leastOn := goodIn_r _ [9, 1, 10, 11, 12, 13, 14, 15, 16, 17, 18, 19, 20, 21, 22, 23, 24, 25, 26, 27, 28, 29, 30, 31, 32, 33, 34, 35, 36] (by decide +kernel) (by decide +kernel)
set_option maxRecDepth 20000 in
theorem gX3_endFire_X3_leastOn : GoodIn wsX3_endFire (wsV RX3 67 RX3 yX3_leastOn wsX3_leastOn) := goodIn_app (goodIn_of _ (by decide +kernel)) ggX3_endFire_X3_leastOn
theorem dX3_endFire_0 : decode cX3_endFire 0 = .ok (.aload_n 0, 1) := by decide +kernel
theorem dX3_endFire_1 : decode cX3_endFire 1 = .ok (.invokevirtual 67, 3) := by decide +kernel
theorem dX3_endFire_4 : decode cX3_endFire 4 = .ok (.iconst (-1), 1) := by decide +kernel
theorem dX3_endFire_5 : decode cX3_endFire 5 = .ok (.if_icmp .eq 5, 3) := by decide +kernel
theorem dX3_endFire_8 : decode cX3_endFire 8 = .ok (.iconst 0, 1) := by decide +kernel
theorem dX3_endFire_9 : decode cX3_endFire 9 = .ok (.ireturn, 1) := by decide +kernel
theorem dX3_endFire_10 : decode cX3_endFire 10 = .ok (.iconst 0, 1) := by decide +kernel
theorem dX3_endFire_11 : decode cX3_endFire 11 = .ok (.istore_n 1, 1) := by decide +kernel
theorem dX3_endFire_12 : decode cX3_endFire 12 = .ok (.iload_n 1, 1) := by decide +kernel
theorem dX3_endFire_13 : decode cX3_endFire 13 = .ok (.aload_n 0, 1) := by decide +kernel
theorem dX3_endFire_14 : decode cX3_endFire 14 = .ok (.getfield 42, 3) := by decide +kernel
theorem dX3_endFire_17 : decode cX3_endFire 17 = .ok (.arraylength, 1) := by decide +kernel
theorem dX3_endFire_18 : decode cX3_endFire 18 = .ok (.if_icmp .ge 19, 3) := by decide +kernel
theorem dX3_endFire_21 : decode cX3_endFire 21 = .ok (.aload_n 0, 1) := by decide +kernel
theorem dX3_endFire_22 : decode cX3_endFire 22 = .ok (.getfield 42, 3) := by decide +kernel
theorem dX3_endFire_25 : decode cX3_endFire 25 = .ok (.iload_n 1, 1) := by decide +kernel
theorem dX3_endFire_26 : decode cX3_endFire 26 = .ok (.aaload, 1) := by decide +kernel
theorem dX3_endFire_27 : decode cX3_endFire 27 = .ok (.iconst 0, 1) := by decide +kernel
theorem dX3_endFire_28 : decode cX3_endFire 28 = .ok (.putfield 73, 3) := by decide +kernel
theorem dX3_endFire_31 : decode cX3_endFire 31 = .ok (.iinc 1 1, 3) := by decide +kernel
theorem dX3_endFire_34 : decode cX3_endFire 34 = .ok (.goto (-22), 3) := by decide +kernel
theorem dX3_endFire_37 : decode cX3_endFire 37 = .ok (.aload_n 0, 1) := by decide +kernel
theorem dX3_endFire_38 : decode cX3_endFire 38 = .ok (.iconst 0, 1) := by decide +kernel
theorem dX3_endFire_39 : decode cX3_endFire 39 = .ok (.putfield 34, 3) := by decide +kernel
theorem dX3_endFire_42 : decode cX3_endFire 42 = .ok (.aload_n 0, 1) := by decide +kernel
theorem dX3_endFire_43 : decode cX3_endFire 43 = .ok (.iconst (-1), 1) := by decide +kernel
theorem dX3_endFire_44 : decode cX3_endFire 44 = .ok (.putfield 37, 3) := by decide +kernel
theorem dX3_endFire_47 : decode cX3_endFire 47 = .ok (.iconst 1, 1) := by decide +kernel
theorem dX3_endFire_48 : decode cX3_endFire 48 = .ok (.ireturn, 1) := by decide +kernel
theorem dX3_want_0 : decode cX3_want 0 = .ok (.aload_n 0, 1) := by decide +kernel
theorem dX3_want_1 : decode cX3_want 1 = .ok (.iload_n 1, 1) := by decide +kernel
theorem dX3_want_2 : decode cX3_want 2 = .ok (.putfield 31, 3) := by decide +kernel
theorem dX3_want_5 : decode cX3_want 5 = .ok (.aload_n 0, 1) := by decide +kernel
theorem dX3_want_6 : decode cX3_want 6 = .ok (.iload_n 2, 1) := by decide +kernel
theorem dX3_want_7 : decode cX3_want 7 = .ok (.putfield 91, 3) := by decide +kernel
theorem dX3_want_10 : decode cX3_want 10 = .ok (.return_, 1) := by decide +kernel
set_option maxRecDepth 20000 in
theorem ggX3_settleDevices_X0_act : GoodIn wsX3_settleDevices wsX0_act := goodIn_r _ [9, 10, 11, 12, 13, 14, 55, 56, 57, 58, 59, 60, 61, 62, 63, 64, 65, 66, 67, 68, 69] (by decide +kernel) (by decide +kernel)
set_option maxRecDepth 20000 in
theorem gX3_settleDevices_X0_act : GoodIn wsX3_settleDevices (wsV RX3 94 RX0 yX0_act wsX0_act) := goodIn_app (goodIn_of _ (by decide +kernel)) ggX3_settleDevices_X0_act
set_option maxRecDepth 20000 in
theorem gX3_settleDevices_X0_act_u94X1 : GoodIn wsX3_settleDevices (va_wsU RX3 94 RX1 "TunnelWatch$Device" ⟨"TunnelWatch$Device", "act", "(I)V"⟩ yX0_act wsX0_act) := goodIn_app (goodIn_of _ (by decide +kernel)) ggX3_settleDevices_X0_act
set_option maxRecDepth 20000 in
theorem gX3_settleDevices_X0_act_u98X1 : GoodIn wsX3_settleDevices (va_wsU RX3 98 RX1 "TunnelWatch$Device" ⟨"TunnelWatch$Fan", "act", "(I)V"⟩ yX0_act wsX0_act) := goodIn_app (goodIn_of _ (by decide +kernel)) ggX3_settleDevices_X0_act
set_option maxRecDepth 20000 in
theorem ggX3_settleDevices_X1_judgeOut : GoodIn wsX3_settleDevices wsX1_judgeOut := goodIn_r _ [25, 26, 27, 28, 29, 30, 31, 32, 33, 34, 35, 36, 24, 37, 38, 39, 40, 41, 8, 42, 13, 11, 55, 56, 57, 58, 59, 60, 61, 62, 63, 64, 65, 66, 67, 68, 69] (by decide +kernel) (by decide +kernel)
set_option maxRecDepth 20000 in
theorem gX3_settleDevices_X1_judgeOut : GoodIn wsX3_settleDevices (wsV RX3 99 RX1 yX1_judgeOut wsX1_judgeOut) := goodIn_app (goodIn_of _ (by decide +kernel)) ggX3_settleDevices_X1_judgeOut
theorem dX3_settleDevices_0 : decode cX3_settleDevices 0 = .ok (.aload_n 0, 1) := by decide +kernel
theorem dX3_settleDevices_1 : decode cX3_settleDevices 1 = .ok (.getfield 12, 3) := by decide +kernel
theorem dX3_settleDevices_4 : decode cX3_settleDevices 4 = .ok (.iload_n 1, 1) := by decide +kernel
theorem dX3_settleDevices_5 : decode cX3_settleDevices 5 = .ok (.invokevirtual 94, 3) := by decide +kernel
theorem dX3_settleDevices_8 : decode cX3_settleDevices 8 = .ok (.aload_n 0, 1) := by decide +kernel
theorem dX3_settleDevices_9 : decode cX3_settleDevices 9 = .ok (.getfield 18, 3) := by decide +kernel
theorem dX3_settleDevices_12 : decode cX3_settleDevices 12 = .ok (.iload_n 1, 1) := by decide +kernel
theorem dX3_settleDevices_13 : decode cX3_settleDevices 13 = .ok (.invokevirtual 94, 3) := by decide +kernel
theorem dX3_settleDevices_16 : decode cX3_settleDevices 16 = .ok (.iconst 0, 1) := by decide +kernel
theorem dX3_settleDevices_17 : decode cX3_settleDevices 17 = .ok (.istore_n 2, 1) := by decide +kernel
theorem dX3_settleDevices_18 : decode cX3_settleDevices 18 = .ok (.iload_n 2, 1) := by decide +kernel
theorem dX3_settleDevices_19 : decode cX3_settleDevices 19 = .ok (.aload_n 0, 1) := by decide +kernel
theorem dX3_settleDevices_20 : decode cX3_settleDevices 20 = .ok (.getfield 48, 3) := by decide +kernel
theorem dX3_settleDevices_23 : decode cX3_settleDevices 23 = .ok (.if_icmp .ge 29, 3) := by decide +kernel
theorem dX3_settleDevices_26 : decode cX3_settleDevices 26 = .ok (.aload_n 0, 1) := by decide +kernel
theorem dX3_settleDevices_27 : decode cX3_settleDevices 27 = .ok (.getfield 23, 3) := by decide +kernel
theorem dX3_settleDevices_30 : decode cX3_settleDevices 30 = .ok (.iload_n 2, 1) := by decide +kernel
theorem dX3_settleDevices_31 : decode cX3_settleDevices 31 = .ok (.aaload, 1) := by decide +kernel
theorem dX3_settleDevices_32 : decode cX3_settleDevices 32 = .ok (.iload_n 1, 1) := by decide +kernel
theorem dX3_settleDevices_33 : decode cX3_settleDevices 33 = .ok (.invokevirtual 98, 3) := by decide +kernel
theorem dX3_settleDevices_36 : decode cX3_settleDevices 36 = .ok (.aload_n 0, 1) := by decide +kernel
theorem dX3_settleDevices_37 : decode cX3_settleDevices 37 = .ok (.getfield 23, 3) := by decide +kernel
theorem dX3_settleDevices_40 : decode cX3_settleDevices 40 = .ok (.iload_n 2, 1) := by decide +kernel
theorem dX3_settleDevices_41 : decode cX3_settleDevices 41 = .ok (.aaload, 1) := by decide +kernel
theorem dX3_settleDevices_42 : decode cX3_settleDevices 42 = .ok (.iload_n 1, 1) := by decide +kernel
theorem dX3_settleDevices_43 : decode cX3_settleDevices 43 = .ok (.invokevirtual 99, 3) := by decide +kernel
theorem dX3_settleDevices_46 : decode cX3_settleDevices 46 = .ok (.iinc 2 1, 3) := by decide +kernel
theorem dX3_settleDevices_49 : decode cX3_settleDevices 49 = .ok (.goto (-31), 3) := by decide +kernel
theorem dX3_settleDevices_52 : decode cX3_settleDevices 52 = .ok (.return_, 1) := by decide +kernel
set_option maxRecDepth 20000 in
theorem ggX3_commandTraffic_X0_send : GoodIn wsX3_commandTraffic wsX0_send := goodIn_r _ [11, 12, 13, 35, 36, 37, 38, 39, 40, 41, 42, 43, 44, 45, 46, 47, 48, 49] (by decide +kernel) (by decide +kernel)
set_option maxRecDepth 20000 in
theorem gX3_commandTraffic_X0_send : GoodIn wsX3_commandTraffic (wsV RX3 111 RX0 yX0_send wsX0_send) := goodIn_app (goodIn_of _ (by decide +kernel)) ggX3_commandTraffic_X0_send
set_option maxRecDepth 20000 in
theorem gX3_commandTraffic_X0_send_u111X1 : GoodIn wsX3_commandTraffic (va_wsU RX3 111 RX1 "TunnelWatch$Device" ⟨"TunnelWatch$Device", "send", "(II)V"⟩ yX0_send wsX0_send) := goodIn_app (goodIn_of _ (by decide +kernel)) ggX3_commandTraffic_X0_send
set_option maxRecDepth 20000 in
theorem ggX3_commandTraffic_X3_isHalted : GoodIn wsX3_commandTraffic wsX3_isHalted := goodIn_r _ [21, 6, 2, 3, 22, 23, 24, 25, 26, 27, 28, 29, 30, 31, 32, 33, 34, 35, 36, 37, 38, 39, 40, 41, 42, 43, 44, 45, 46, 47, 48, 49] (by decide +kernel) (by decide +kernel)
set_option maxRecDepth 20000 in
theorem gX3_commandTraffic_X3_isHalted : GoodIn wsX3_commandTraffic (wsV RX3 115 RX3 yX3_isHalted wsX3_isHalted) := goodIn_app (goodIn_of _ (by decide +kernel)) ggX3_commandTraffic_X3_isHalted
theorem dX3_commandTraffic_0 : decode cX3_commandTraffic 0 = .ok (.aload_n 0, 1) := by decide +kernel
theorem dX3_commandTraffic_1 : decode cX3_commandTraffic 1 = .ok (.getfield 18, 3) := by decide +kernel
theorem dX3_commandTraffic_4 : decode cX3_commandTraffic 4 = .ok (.getfield 102, 3) := by decide +kernel
theorem dX3_commandTraffic_7 : decode cX3_commandTraffic 7 = .ok (.iconst 1, 1) := by decide +kernel
theorem dX3_commandTraffic_8 : decode cX3_commandTraffic 8 = .ok (.if_icmp .eq 14, 3) := by decide +kernel
theorem dX3_commandTraffic_11 : decode cX3_commandTraffic 11 = .ok (.aload_n 0, 1) := by decide +kernel
theorem dX3_commandTraffic_12 : decode cX3_commandTraffic 12 = .ok (.getfield 18, 3) := by decide +kernel
theorem dX3_commandTraffic_15 : decode cX3_commandTraffic 15 = .ok (.getfield 105, 3) := by decide +kernel
theorem dX3_commandTraffic_18 : decode cX3_commandTraffic 18 = .ok (.iconst 1, 1) := by decide +kernel
theorem dX3_commandTraffic_19 : decode cX3_commandTraffic 19 = .ok (.if_icmp .ne 7, 3) := by decide +kernel
theorem dX3_commandTraffic_22 : decode cX3_commandTraffic 22 = .ok (.iconst 1, 1) := by decide +kernel
theorem dX3_commandTraffic_23 : decode cX3_commandTraffic 23 = .ok (.goto 4, 3) := by decide +kernel
theorem dX3_commandTraffic_26 : decode cX3_commandTraffic 26 = .ok (.iconst 0, 1) := by decide +kernel
theorem dX3_commandTraffic_27 : decode cX3_commandTraffic 27 = .ok (.istore_n 3, 1) := by decide +kernel
theorem dX3_commandTraffic_28 : decode cX3_commandTraffic 28 = .ok (.iload_n 1, 1) := by decide +kernel
theorem dX3_commandTraffic_29 : decode cX3_commandTraffic 29 = .ok (.ifCond .ne 22, 3) := by decide +kernel
theorem dX3_commandTraffic_32 : decode cX3_commandTraffic 32 = .ok (.aload_n 0, 1) := by decide +kernel
theorem dX3_commandTraffic_33 : decode cX3_commandTraffic 33 = .ok (.getfield 34, 3) := by decide +kernel
theorem dX3_commandTraffic_36 : decode cX3_commandTraffic 36 = .ok (.iconst 1, 1) := by decide +kernel
theorem dX3_commandTraffic_37 : decode cX3_commandTraffic 37 = .ok (.if_icmp .eq 14, 3) := by decide +kernel
theorem dX3_commandTraffic_40 : decode cX3_commandTraffic 40 = .ok (.aload_n 0, 1) := by decide +kernel
theorem dX3_commandTraffic_41 : decode cX3_commandTraffic 41 = .ok (.getfield 108, 3) := by decide +kernel
theorem dX3_commandTraffic_44 : decode cX3_commandTraffic 44 = .ok (.ifCond .ne 7, 3) := by decide +kernel
theorem dX3_commandTraffic_47 : decode cX3_commandTraffic 47 = .ok (.iload_n 3, 1) := by decide +kernel
theorem dX3_commandTraffic_48 : decode cX3_commandTraffic 48 = .ok (.ifCond .eq 7, 3) := by decide +kernel
theorem dX3_commandTraffic_51 : decode cX3_commandTraffic 51 = .ok (.iconst 1, 1) := by decide +kernel
theorem dX3_commandTraffic_52 : decode cX3_commandTraffic 52 = .ok (.goto 4, 3) := by decide +kernel
theorem dX3_commandTraffic_55 : decode cX3_commandTraffic 55 = .ok (.iconst 0, 1) := by decide +kernel
theorem dX3_commandTraffic_56 : decode cX3_commandTraffic 56 = .ok (.istore 4, 2) := by decide +kernel
theorem dX3_commandTraffic_58 : decode cX3_commandTraffic 58 = .ok (.aload_n 0, 1) := by decide +kernel
theorem dX3_commandTraffic_59 : decode cX3_commandTraffic 59 = .ok (.getfield 12, 3) := by decide +kernel
theorem dX3_commandTraffic_62 : decode cX3_commandTraffic 62 = .ok (.iload 4, 2) := by decide +kernel
theorem dX3_commandTraffic_64 : decode cX3_commandTraffic 64 = .ok (.ifCond .eq 7, 3) := by decide +kernel
theorem dX3_commandTraffic_67 : decode cX3_commandTraffic 67 = .ok (.iconst 1, 1) := by decide +kernel
theorem dX3_commandTraffic_68 : decode cX3_commandTraffic 68 = .ok (.goto 4, 3) := by decide +kernel
theorem dX3_commandTraffic_71 : decode cX3_commandTraffic 71 = .ok (.iconst 0, 1) := by decide +kernel
theorem dX3_commandTraffic_72 : decode cX3_commandTraffic 72 = .ok (.iload_n 2, 1) := by decide +kernel
theorem dX3_commandTraffic_73 : decode cX3_commandTraffic 73 = .ok (.invokevirtual 111, 3) := by decide +kernel
theorem dX3_commandTraffic_76 : decode cX3_commandTraffic 76 = .ok (.iload_n 1, 1) := by decide +kernel
theorem dX3_commandTraffic_77 : decode cX3_commandTraffic 77 = .ok (.ifCond .eq 26, 3) := by decide +kernel
theorem dX3_commandTraffic_80 : decode cX3_commandTraffic 80 = .ok (.aload_n 0, 1) := by decide +kernel
theorem dX3_commandTraffic_81 : decode cX3_commandTraffic 81 = .ok (.getfield 18, 3) := by decide +kernel
theorem dX3_commandTraffic_84 : decode cX3_commandTraffic 84 = .ok (.getfield 102, 3) := by decide +kernel
theorem dX3_commandTraffic_87 : decode cX3_commandTraffic 87 = .ok (.iconst 1, 1) := by decide +kernel
theorem dX3_commandTraffic_88 : decode cX3_commandTraffic 88 = .ok (.if_icmp .eq 11, 3) := by decide +kernel
theorem dX3_commandTraffic_91 : decode cX3_commandTraffic 91 = .ok (.aload_n 0, 1) := by decide +kernel
theorem dX3_commandTraffic_92 : decode cX3_commandTraffic 92 = .ok (.iload_n 2, 1) := by decide +kernel
theorem dX3_commandTraffic_93 : decode cX3_commandTraffic 93 = .ok (.invokevirtual 115, 3) := by decide +kernel
theorem dX3_commandTraffic_96 : decode cX3_commandTraffic 96 = .ok (.ifCond .eq 7, 3) := by decide +kernel
theorem dX3_commandTraffic_99 : decode cX3_commandTraffic 99 = .ok (.iconst 1, 1) := by decide +kernel
theorem dX3_commandTraffic_100 : decode cX3_commandTraffic 100 = .ok (.goto 4, 3) := by decide +kernel
theorem dX3_commandTraffic_103 : decode cX3_commandTraffic 103 = .ok (.iconst 0, 1) := by decide +kernel
theorem dX3_commandTraffic_104 : decode cX3_commandTraffic 104 = .ok (.istore 5, 2) := by decide +kernel
theorem dX3_commandTraffic_106 : decode cX3_commandTraffic 106 = .ok (.aload_n 0, 1) := by decide +kernel
theorem dX3_commandTraffic_107 : decode cX3_commandTraffic 107 = .ok (.getfield 18, 3) := by decide +kernel
theorem dX3_commandTraffic_110 : decode cX3_commandTraffic 110 = .ok (.iload 5, 2) := by decide +kernel
theorem dX3_commandTraffic_112 : decode cX3_commandTraffic 112 = .ok (.ifCond .eq 7, 3) := by decide +kernel
theorem dX3_commandTraffic_115 : decode cX3_commandTraffic 115 = .ok (.iconst 1, 1) := by decide +kernel
theorem dX3_commandTraffic_116 : decode cX3_commandTraffic 116 = .ok (.goto 4, 3) := by decide +kernel
theorem dX3_commandTraffic_119 : decode cX3_commandTraffic 119 = .ok (.iconst 0, 1) := by decide +kernel
theorem dX3_commandTraffic_120 : decode cX3_commandTraffic 120 = .ok (.iload_n 2, 1) := by decide +kernel
theorem dX3_commandTraffic_121 : decode cX3_commandTraffic 121 = .ok (.invokevirtual 111, 3) := by decide +kernel
theorem dX3_commandTraffic_124 : decode cX3_commandTraffic 124 = .ok (.return_, 1) := by decide +kernel
theorem dX3_isHalted_0 : decode cX3_isHalted 0 = .ok (.aload_n 0, 1) := by decide +kernel
theorem dX3_isHalted_1 : decode cX3_isHalted 1 = .ok (.getfield 12, 3) := by decide +kernel
theorem dX3_isHalted_4 : decode cX3_isHalted 4 = .ok (.getfield 102, 3) := by decide +kernel
theorem dX3_isHalted_7 : decode cX3_isHalted 7 = .ok (.iconst 1, 1) := by decide +kernel
theorem dX3_isHalted_8 : decode cX3_isHalted 8 = .ok (.if_icmp .ne 32, 3) := by decide +kernel
theorem dX3_isHalted_11 : decode cX3_isHalted 11 = .ok (.aload_n 0, 1) := by decide +kernel
theorem dX3_isHalted_12 : decode cX3_isHalted 12 = .ok (.getfield 12, 3) := by decide +kernel
theorem dX3_isHalted_15 : decode cX3_isHalted 15 = .ok (.getfield 105, 3) := by decide +kernel
theorem dX3_isHalted_18 : decode cX3_isHalted 18 = .ok (.iconst 1, 1) := by decide +kernel
theorem dX3_isHalted_19 : decode cX3_isHalted 19 = .ok (.if_icmp .eq 17, 3) := by decide +kernel
theorem dX3_isHalted_22 : decode cX3_isHalted 22 = .ok (.iload_n 1, 1) := by decide +kernel
theorem dX3_isHalted_23 : decode cX3_isHalted 23 = .ok (.aload_n 0, 1) := by decide +kernel
theorem dX3_isHalted_24 : decode cX3_isHalted 24 = .ok (.getfield 12, 3) := by decide +kernel
theorem dX3_isHalted_27 : decode cX3_isHalted 27 = .ok (.getfield 118, 3) := by decide +kernel
theorem dX3_isHalted_30 : decode cX3_isHalted 30 = .ok (.isub, 1) := by decide +kernel
theorem dX3_isHalted_31 : decode cX3_isHalted 31 = .ok (.bipush 60, 2) := by decide +kernel
theorem dX3_isHalted_33 : decode cX3_isHalted 33 = .ok (.if_icmp .lt 7, 3) := by decide +kernel
theorem dX3_isHalted_36 : decode cX3_isHalted 36 = .ok (.iconst 1, 1) := by decide +kernel
theorem dX3_isHalted_37 : decode cX3_isHalted 37 = .ok (.goto 4, 3) := by decide +kernel
theorem dX3_isHalted_40 : decode cX3_isHalted 40 = .ok (.iconst 0, 1) := by decide +kernel
theorem dX3_isHalted_41 : decode cX3_isHalted 41 = .ok (.ireturn, 1) := by decide +kernel
set_option maxRecDepth 20000 in
theorem ggX3_isUnsafe_X3_isHalted : GoodIn wsX3_isUnsafe wsX3_isHalted := goodIn_r _ [9, 4, 2, 10, 3, 19, 20, 21, 22, 23, 24, 25, 26, 27, 28, 29, 30, 31, 32, 33, 34, 35, 36, 37, 38, 39, 40, 41, 42, 43, 44, 45] (by decide +kernel) (by decide +kernel)
set_option maxRecDepth 20000 in
theorem gX3_isUnsafe_X3_isHalted : GoodIn wsX3_isUnsafe (wsV RX3 115 RX3 yX3_isHalted wsX3_isHalted) := goodIn_app (goodIn_of _ (by decide +kernel)) ggX3_isUnsafe_X3_isHalted
set_option maxRecDepth 20000 in
theorem ggX3_isUnsafe_X3_countBlowing : GoodIn wsX3_isUnsafe wsX3_countBlowing := goodIn_r _ [14, 15, 16, 17, 18, 19, 20, 21, 22, 23, 24, 25, 26, 27, 28, 29, 30, 31, 32, 33, 34, 35, 36, 37, 38, 39, 40, 41, 42, 43, 44, 45] (by decide +kernel) (by decide +kernel)
set_option maxRecDepth 20000 in
theorem gX3_isUnsafe_X3_countBlowing : GoodIn wsX3_isUnsafe (wsV RX3 121 RX3 yX3_countBlowing wsX3_countBlowing) := goodIn_app (goodIn_of _ (by decide +kernel)) ggX3_isUnsafe_X3_countBlowing
theorem dX3_isUnsafe_0 : decode cX3_isUnsafe 0 = .ok (.aload_n 0, 1) := by decide +kernel
theorem dX3_isUnsafe_1 : decode cX3_isUnsafe 1 = .ok (.getfield 18, 3) := by decide +kernel
theorem dX3_isUnsafe_4 : decode cX3_isUnsafe 4 = .ok (.getfield 102, 3) := by decide +kernel
theorem dX3_isUnsafe_7 : decode cX3_isUnsafe 7 = .ok (.iconst 1, 1) := by decide +kernel
theorem dX3_isUnsafe_8 : decode cX3_isUnsafe 8 = .ok (.if_icmp .ne 7, 3) := by decide +kernel
theorem dX3_isUnsafe_11 : decode cX3_isUnsafe 11 = .ok (.iconst 1, 1) := by decide +kernel
theorem dX3_isUnsafe_12 : decode cX3_isUnsafe 12 = .ok (.goto 4, 3) := by decide +kernel
theorem dX3_isUnsafe_15 : decode cX3_isUnsafe 15 = .ok (.iconst 0, 1) := by decide +kernel
theorem dX3_isUnsafe_16 : decode cX3_isUnsafe 16 = .ok (.istore_n 2, 1) := by decide +kernel
theorem dX3_isUnsafe_17 : decode cX3_isUnsafe 17 = .ok (.iload_n 2, 1) := by decide +kernel
theorem dX3_isUnsafe_18 : decode cX3_isUnsafe 18 = .ok (.ifCond .eq 26, 3) := by decide +kernel
theorem dX3_isUnsafe_21 : decode cX3_isUnsafe 21 = .ok (.aload_n 0, 1) := by decide +kernel
theorem dX3_isUnsafe_22 : decode cX3_isUnsafe 22 = .ok (.getfield 18, 3) := by decide +kernel
theorem dX3_isUnsafe_25 : decode cX3_isUnsafe 25 = .ok (.getfield 118, 3) := by decide +kernel
theorem dX3_isUnsafe_28 : decode cX3_isUnsafe 28 = .ok (.iload_n 1, 1) := by decide +kernel
theorem dX3_isUnsafe_29 : decode cX3_isUnsafe 29 = .ok (.if_icmp .ne 15, 3) := by decide +kernel
theorem dX3_isUnsafe_32 : decode cX3_isUnsafe 32 = .ok (.aload_n 0, 1) := by decide +kernel
theorem dX3_isUnsafe_33 : decode cX3_isUnsafe 33 = .ok (.iload_n 1, 1) := by decide +kernel
theorem dX3_isUnsafe_34 : decode cX3_isUnsafe 34 = .ok (.invokevirtual 115, 3) := by decide +kernel
theorem dX3_isUnsafe_37 : decode cX3_isUnsafe 37 = .ok (.ifCond .ne 7, 3) := by decide +kernel
theorem dX3_isUnsafe_40 : decode cX3_isUnsafe 40 = .ok (.iconst 1, 1) := by decide +kernel
theorem dX3_isUnsafe_41 : decode cX3_isUnsafe 41 = .ok (.goto 4, 3) := by decide +kernel
theorem dX3_isUnsafe_44 : decode cX3_isUnsafe 44 = .ok (.iconst 0, 1) := by decide +kernel
theorem dX3_isUnsafe_45 : decode cX3_isUnsafe 45 = .ok (.istore_n 3, 1) := by decide +kernel
theorem dX3_isUnsafe_46 : decode cX3_isUnsafe 46 = .ok (.iload_n 2, 1) := by decide +kernel
theorem dX3_isUnsafe_47 : decode cX3_isUnsafe 47 = .ok (.ifCond .eq 17, 3) := by decide +kernel
theorem dX3_isUnsafe_50 : decode cX3_isUnsafe 50 = .ok (.aload_n 0, 1) := by decide +kernel
theorem dX3_isUnsafe_51 : decode cX3_isUnsafe 51 = .ok (.getfield 12, 3) := by decide +kernel
theorem dX3_isUnsafe_54 : decode cX3_isUnsafe 54 = .ok (.getfield 102, 3) := by decide +kernel
theorem dX3_isUnsafe_57 : decode cX3_isUnsafe 57 = .ok (.ifCond .ne 7, 3) := by decide +kernel
theorem dX3_isUnsafe_60 : decode cX3_isUnsafe 60 = .ok (.iconst 1, 1) := by decide +kernel
theorem dX3_isUnsafe_61 : decode cX3_isUnsafe 61 = .ok (.goto 4, 3) := by decide +kernel
theorem dX3_isUnsafe_64 : decode cX3_isUnsafe 64 = .ok (.iconst 0, 1) := by decide +kernel
theorem dX3_isUnsafe_65 : decode cX3_isUnsafe 65 = .ok (.istore 4, 2) := by decide +kernel
theorem dX3_isUnsafe_67 : decode cX3_isUnsafe 67 = .ok (.aload_n 0, 1) := by decide +kernel
theorem dX3_isUnsafe_68 : decode cX3_isUnsafe 68 = .ok (.iconst (-1), 1) := by decide +kernel
theorem dX3_isUnsafe_69 : decode cX3_isUnsafe 69 = .ok (.invokevirtual 121, 3) := by decide +kernel
theorem dX3_isUnsafe_72 : decode cX3_isUnsafe 72 = .ok (.ifCond .le 15, 3) := by decide +kernel
theorem dX3_isUnsafe_75 : decode cX3_isUnsafe 75 = .ok (.aload_n 0, 1) := by decide +kernel
theorem dX3_isUnsafe_76 : decode cX3_isUnsafe 76 = .ok (.iconst 1, 1) := by decide +kernel
theorem dX3_isUnsafe_77 : decode cX3_isUnsafe 77 = .ok (.invokevirtual 121, 3) := by decide +kernel
theorem dX3_isUnsafe_80 : decode cX3_isUnsafe 80 = .ok (.ifCond .le 7, 3) := by decide +kernel
theorem dX3_isUnsafe_83 : decode cX3_isUnsafe 83 = .ok (.iconst 1, 1) := by decide +kernel
theorem dX3_isUnsafe_84 : decode cX3_isUnsafe 84 = .ok (.goto 4, 3) := by decide +kernel
theorem dX3_isUnsafe_87 : decode cX3_isUnsafe 87 = .ok (.iconst 0, 1) := by decide +kernel
theorem dX3_isUnsafe_88 : decode cX3_isUnsafe 88 = .ok (.istore 5, 2) := by decide +kernel
theorem dX3_isUnsafe_90 : decode cX3_isUnsafe 90 = .ok (.iload_n 3, 1) := by decide +kernel
theorem dX3_isUnsafe_91 : decode cX3_isUnsafe 91 = .ok (.ifCond .ne 13, 3) := by decide +kernel
theorem dX3_isUnsafe_94 : decode cX3_isUnsafe 94 = .ok (.iload 4, 2) := by decide +kernel
theorem dX3_isUnsafe_96 : decode cX3_isUnsafe 96 = .ok (.ifCond .ne 8, 3) := by decide +kernel
theorem dX3_isUnsafe_99 : decode cX3_isUnsafe 99 = .ok (.iload 5, 2) := by decide +kernel
theorem dX3_isUnsafe_101 : decode cX3_isUnsafe 101 = .ok (.ifCond .eq 7, 3) := by decide +kernel
theorem dX3_isUnsafe_104 : decode cX3_isUnsafe 104 = .ok (.iconst 1, 1) := by decide +kernel
theorem dX3_isUnsafe_105 : decode cX3_isUnsafe 105 = .ok (.goto 4, 3) := by decide +kernel
theorem dX3_isUnsafe_108 : decode cX3_isUnsafe 108 = .ok (.iconst 0, 1) := by decide +kernel
theorem dX3_isUnsafe_109 : decode cX3_isUnsafe 109 = .ok (.ireturn, 1) := by decide +kernel
theorem dX3_countBlowing_0 : decode cX3_countBlowing 0 = .ok (.iconst 0, 1) := by decide +kernel
theorem dX3_countBlowing_1 : decode cX3_countBlowing 1 = .ok (.istore_n 2, 1) := by decide +kernel
theorem dX3_countBlowing_2 : decode cX3_countBlowing 2 = .ok (.iconst 0, 1) := by decide +kernel
theorem dX3_countBlowing_3 : decode cX3_countBlowing 3 = .ok (.istore_n 3, 1) := by decide +kernel
theorem dX3_countBlowing_4 : decode cX3_countBlowing 4 = .ok (.iload_n 3, 1) := by decide +kernel
theorem dX3_countBlowing_5 : decode cX3_countBlowing 5 = .ok (.aload_n 0, 1) := by decide +kernel
theorem dX3_countBlowing_6 : decode cX3_countBlowing 6 = .ok (.getfield 48, 3) := by decide +kernel
theorem dX3_countBlowing_9 : decode cX3_countBlowing 9 = .ok (.if_icmp .ge 25, 3) := by decide +kernel
theorem dX3_countBlowing_12 : decode cX3_countBlowing 12 = .ok (.aload_n 0, 1) := by decide +kernel
theorem dX3_countBlowing_13 : decode cX3_countBlowing 13 = .ok (.getfield 23, 3) := by decide +kernel
theorem dX3_countBlowing_16 : decode cX3_countBlowing 16 = .ok (.iload_n 3, 1) := by decide +kernel
theorem dX3_countBlowing_17 : decode cX3_countBlowing 17 = .ok (.aaload, 1) := by decide +kernel
theorem dX3_countBlowing_18 : decode cX3_countBlowing 18 = .ok (.getfield 125, 3) := by decide +kernel
theorem dX3_countBlowing_21 : decode cX3_countBlowing 21 = .ok (.iload_n 1, 1) := by decide +kernel
theorem dX3_countBlowing_22 : decode cX3_countBlowing 22 = .ok (.if_icmp .ne 6, 3) := by decide +kernel
theorem dX3_countBlowing_25 : decode cX3_countBlowing 25 = .ok (.iinc 2 1, 3) := by decide +kernel
theorem dX3_countBlowing_28 : decode cX3_countBlowing 28 = .ok (.iinc 3 1, 3) := by decide +kernel
theorem dX3_countBlowing_31 : decode cX3_countBlowing 31 = .ok (.goto (-27), 3) := by decide +kernel
theorem dX3_countBlowing_34 : decode cX3_countBlowing 34 = .ok (.iload_n 2, 1) := by decide +kernel
theorem dX3_countBlowing_35 : decode cX3_countBlowing 35 = .ok (.ireturn, 1) := by decide +kernel
set_option maxRecDepth 20000 in
theorem ggX3_drawnKw_X1_drawnKw : GoodIn wsX3_drawnKw wsX1_drawnKw := goodIn_r _ [7, 8, 9, 10, 11, 12, 25, 26, 27, 28, 29, 30, 31, 32, 33, 34, 35, 36, 37, 38, 39] (by decide +kernel) (by decide +kernel)
set_option maxRecDepth 20000 in
theorem gX3_drawnKw_X1_drawnKw : GoodIn wsX3_drawnKw (wsV RX3 126 RX1 yX1_drawnKw wsX1_drawnKw) := goodIn_app (goodIn_of _ (by decide +kernel)) ggX3_drawnKw_X1_drawnKw
theorem dX3_drawnKw_0 : decode cX3_drawnKw 0 = .ok (.iconst 0, 1) := by decide +kernel
theorem dX3_drawnKw_1 : decode cX3_drawnKw 1 = .ok (.istore_n 2, 1) := by decide +kernel
theorem dX3_drawnKw_2 : decode cX3_drawnKw 2 = .ok (.iconst 0, 1) := by decide +kernel
theorem dX3_drawnKw_3 : decode cX3_drawnKw 3 = .ok (.istore_n 3, 1) := by decide +kernel
theorem dX3_drawnKw_4 : decode cX3_drawnKw 4 = .ok (.iload_n 3, 1) := by decide +kernel
theorem dX3_drawnKw_5 : decode cX3_drawnKw 5 = .ok (.aload_n 0, 1) := by decide +kernel
theorem dX3_drawnKw_6 : decode cX3_drawnKw 6 = .ok (.getfield 48, 3) := by decide +kernel
theorem dX3_drawnKw_9 : decode cX3_drawnKw 9 = .ok (.if_icmp .ge 22, 3) := by decide +kernel
theorem dX3_drawnKw_12 : decode cX3_drawnKw 12 = .ok (.iload_n 2, 1) := by decide +kernel
theorem dX3_drawnKw_13 : decode cX3_drawnKw 13 = .ok (.aload_n 0, 1) := by decide +kernel
theorem dX3_drawnKw_14 : decode cX3_drawnKw 14 = .ok (.getfield 23, 3) := by decide +kernel
theorem dX3_drawnKw_17 : decode cX3_drawnKw 17 = .ok (.iload_n 3, 1) := by decide +kernel
theorem dX3_drawnKw_18 : decode cX3_drawnKw 18 = .ok (.aaload, 1) := by decide +kernel
theorem dX3_drawnKw_19 : decode cX3_drawnKw 19 = .ok (.iload_n 1, 1) := by decide +kernel
theorem dX3_drawnKw_20 : decode cX3_drawnKw 20 = .ok (.invokevirtual 126, 3) := by decide +kernel
theorem dX3_drawnKw_23 : decode cX3_drawnKw 23 = .ok (.iadd, 1) := by decide +kernel
theorem dX3_drawnKw_24 : decode cX3_drawnKw 24 = .ok (.istore_n 2, 1) := by decide +kernel
theorem dX3_drawnKw_25 : decode cX3_drawnKw 25 = .ok (.iinc 3 1, 3) := by decide +kernel
theorem dX3_drawnKw_28 : decode cX3_drawnKw 28 = .ok (.goto (-24), 3) := by decide +kernel
theorem dX3_drawnKw_31 : decode cX3_drawnKw 31 = .ok (.iload_n 2, 1) := by decide +kernel
theorem dX3_drawnKw_32 : decode cX3_drawnKw 32 = .ok (.ireturn, 1) := by decide +kernel
set_option maxRecDepth 20000 in
theorem ggX3_stopFans_X3_isHalted : GoodIn wsX3_stopFans wsX3_isHalted := goodIn_r _ [7, 8, 9, 10, 11, 46, 47, 48, 49, 50, 51, 52, 53, 54, 55, 56, 57, 58, 59, 60, 61, 62, 63, 64, 65, 66, 67, 68, 69, 70, 71, 72] (by decide +kernel) (by decide +kernel)
set_option maxRecDepth 20000 in
theorem gX3_stopFans_X3_isHalted : GoodIn wsX3_stopFans (wsV RX3 115 RX3 yX3_isHalted wsX3_isHalted) := goodIn_app (goodIn_of _ (by decide +kernel)) ggX3_stopFans_X3_isHalted
set_option maxRecDepth 20000 in
theorem ggX3_stopFans_X3_stopBlowingAgainst : GoodIn wsX3_stopFans wsX3_stopBlowingAgainst := goodIn_r _ [15, 16, 17, 18, 19, 1, 20, 21, 22, 23, 24, 25, 26, 27, 28, 29, 30, 31, 32, 46, 47, 48, 49, 50, 51, 52, 53, 54, 55, 56, 57, 58, 59, 60, 61, 62, 63, 64, 65, 66, 67, 68, 69, 70, 71, 72] (by decide +kernel) (by decide +kernel)
set_option maxRecDepth 20000 in
theorem gX3_stopFans_X3_stopBlowingAgainst : GoodIn wsX3_stopFans (wsV RX3 129 RX3 yX3_stopBlowingAgainst wsX3_stopBlowingAgainst) := goodIn_app (goodIn_of _ (by decide +kernel)) ggX3_stopFans_X3_stopBlowingAgainst
set_option maxRecDepth 20000 in
theorem ggX3_stopFans_X3_countBlowing : GoodIn wsX3_stopFans wsX3_countBlowing := goodIn_r _ [36, 16, 17, 18, 19, 46, 47, 48, 49, 50, 51, 52, 53, 54, 55, 56, 57, 58, 59, 60, 61, 62, 63, 64, 65, 66, 67, 68, 69, 70, 71, 72] (by decide +kernel) (by decide +kernel)
set_option maxRecDepth 20000 in
theorem gX3_stopFans_X3_countBlowing : GoodIn wsX3_stopFans (wsV RX3 121 RX3 yX3_countBlowing wsX3_countBlowing) := goodIn_app (goodIn_of _ (by decide +kernel)) ggX3_stopFans_X3_countBlowing
set_option maxRecDepth 20000 in
theorem ggX3_stopFans_X3_longestRun : GoodIn wsX3_stopFans wsX3_longestRun := goodIn_r _ [40, 16, 17, 18, 19, 1, 41, 46, 47, 48, 49, 50, 51, 52, 53, 54, 55, 56, 57, 58, 59, 60, 61, 62, 63, 64, 65, 66, 67, 68, 69, 70, 71, 72] (by decide +kernel) (by decide +kernel)
set_option maxRecDepth 20000 in
theorem gX3_stopFans_X3_longestRun : GoodIn wsX3_stopFans (wsV RX3 132 RX3 yX3_longestRun wsX3_longestRun) := goodIn_app (goodIn_of _ (by decide +kernel)) ggX3_stopFans_X3_longestRun
set_option maxRecDepth 20000 in
theorem ggX3_stopFans_X3_stopAt : GoodIn wsX3_stopFans wsX3_stopAt := goodIn_r _ [45, 17, 20, 21, 22, 23, 24, 25, 26, 27, 28, 29, 30, 31, 32, 46, 47, 48, 49, 50, 51, 52, 53, 54, 55, 56, 57, 58, 59, 60, 61, 62, 63, 64, 65, 66, 67, 68, 69, 70, 71, 72] (by decide +kernel) (by decide +kernel)
set_option maxRecDepth 20000 in
theorem gX3_stopFans_X3_stopAt : GoodIn wsX3_stopFans (wsV RX3 136 RX3 yX3_stopAt wsX3_stopAt) := goodIn_app (goodIn_of _ (by decide +kernel)) ggX3_stopFans_X3_stopAt
theorem dX3_stopFans_0 : decode cX3_stopFans 0 = .ok (.iload_n 1, 1) := by decide +kernel
theorem dX3_stopFans_1 : decode cX3_stopFans 1 = .ok (.ifCond .eq 11, 3) := by decide +kernel
theorem dX3_stopFans_4 : decode cX3_stopFans 4 = .ok (.aload_n 0, 1) := by decide +kernel
theorem dX3_stopFans_5 : decode cX3_stopFans 5 = .ok (.iload_n 2, 1) := by decide +kernel
theorem dX3_stopFans_6 : decode cX3_stopFans 6 = .ok (.invokevirtual 115, 3) := by decide +kernel
theorem dX3_stopFans_9 : decode cX3_stopFans 9 = .ok (.ifCond .eq 8, 3) := by decide +kernel
theorem dX3_stopFans_12 : decode cX3_stopFans 12 = .ok (.aload_n 0, 1) := by decide +kernel
theorem dX3_stopFans_13 : decode cX3_stopFans 13 = .ok (.iload_n 2, 1) := by decide +kernel
theorem dX3_stopFans_14 : decode cX3_stopFans 14 = .ok (.invokevirtual 129, 3) := by decide +kernel
theorem dX3_stopFans_17 : decode cX3_stopFans 17 = .ok (.aload_n 0, 1) := by decide +kernel
theorem dX3_stopFans_18 : decode cX3_stopFans 18 = .ok (.aload_n 0, 1) := by decide +kernel
theorem dX3_stopFans_19 : decode cX3_stopFans 19 = .ok (.getfield 31, 3) := by decide +kernel
theorem dX3_stopFans_22 : decode cX3_stopFans 22 = .ok (.invokevirtual 121, 3) := by decide +kernel
theorem dX3_stopFans_25 : decode cX3_stopFans 25 = .ok (.aload_n 0, 1) := by decide +kernel
theorem dX3_stopFans_26 : decode cX3_stopFans 26 = .ok (.getfield 91, 3) := by decide +kernel
theorem dX3_stopFans_29 : decode cX3_stopFans 29 = .ok (.isub, 1) := by decide +kernel
theorem dX3_stopFans_30 : decode cX3_stopFans 30 = .ok (.istore_n 3, 1) := by decide +kernel
theorem dX3_stopFans_31 : decode cX3_stopFans 31 = .ok (.iconst 0, 1) := by decide +kernel
theorem dX3_stopFans_32 : decode cX3_stopFans 32 = .ok (.istore 4, 2) := by decide +kernel
theorem dX3_stopFans_34 : decode cX3_stopFans 34 = .ok (.iload 4, 2) := by decide +kernel
theorem dX3_stopFans_36 : decode cX3_stopFans 36 = .ok (.iload_n 3, 1) := by decide +kernel
theorem dX3_stopFans_37 : decode cX3_stopFans 37 = .ok (.if_icmp .ge 19, 3) := by decide +kernel
theorem dX3_stopFans_40 : decode cX3_stopFans 40 = .ok (.aload_n 0, 1) := by decide +kernel
theorem dX3_stopFans_41 : decode cX3_stopFans 41 = .ok (.aload_n 0, 1) := by decide +kernel
theorem dX3_stopFans_42 : decode cX3_stopFans 42 = .ok (.iconst 0, 1) := by decide +kernel
theorem dX3_stopFans_43 : decode cX3_stopFans 43 = .ok (.invokevirtual 132, 3) := by decide +kernel
theorem dX3_stopFans_46 : decode cX3_stopFans 46 = .ok (.iload_n 2, 1) := by decide +kernel
theorem dX3_stopFans_47 : decode cX3_stopFans 47 = .ok (.invokevirtual 136, 3) := by decide +kernel
theorem dX3_stopFans_50 : decode cX3_stopFans 50 = .ok (.iinc 4 1, 3) := by decide +kernel
theorem dX3_stopFans_53 : decode cX3_stopFans 53 = .ok (.goto (-19), 3) := by decide +kernel
theorem dX3_stopFans_56 : decode cX3_stopFans 56 = .ok (.return_, 1) := by decide +kernel
set_option maxRecDepth 20000 in
theorem ggX3_stopBlowingAgainst_X1_stand : GoodIn wsX3_stopBlowingAgainst wsX1_stand := goodIn_r _ [10, 11, 12, 13, 14, 15, 16, 17, 18, 31, 32, 33, 34, 35, 36, 37, 38, 39, 40, 41, 42, 43, 44, 45] (by decide +kernel) (by decide +kernel)
set_option maxRecDepth 20000 in
theorem gX3_stopBlowingAgainst_X1_stand : GoodIn wsX3_stopBlowingAgainst (wsV RX3 139 RX1 yX1_stand wsX1_stand) := goodIn_app (goodIn_of _ (by decide +kernel)) ggX3_stopBlowingAgainst_X1_stand
theorem dX3_stopBlowingAgainst_0 : decode cX3_stopBlowingAgainst 0 = .ok (.iconst 0, 1) := by decide +kernel
theorem dX3_stopBlowingAgainst_1 : decode cX3_stopBlowingAgainst 1 = .ok (.istore_n 2, 1) := by decide +kernel
theorem dX3_stopBlowingAgainst_2 : decode cX3_stopBlowingAgainst 2 = .ok (.iload_n 2, 1) := by decide +kernel
theorem dX3_stopBlowingAgainst_3 : decode cX3_stopBlowingAgainst 3 = .ok (.aload_n 0, 1) := by decide +kernel
theorem dX3_stopBlowingAgainst_4 : decode cX3_stopBlowingAgainst 4 = .ok (.getfield 48, 3) := by decide +kernel
theorem dX3_stopBlowingAgainst_7 : decode cX3_stopBlowingAgainst 7 = .ok (.if_icmp .ge 36, 3) := by decide +kernel
theorem dX3_stopBlowingAgainst_10 : decode cX3_stopBlowingAgainst 10 = .ok (.aload_n 0, 1) := by decide +kernel
theorem dX3_stopBlowingAgainst_11 : decode cX3_stopBlowingAgainst 11 = .ok (.getfield 23, 3) := by decide +kernel
theorem dX3_stopBlowingAgainst_14 : decode cX3_stopBlowingAgainst 14 = .ok (.iload_n 2, 1) := by decide +kernel
theorem dX3_stopBlowingAgainst_15 : decode cX3_stopBlowingAgainst 15 = .ok (.aaload, 1) := by decide +kernel
theorem dX3_stopBlowingAgainst_16 : decode cX3_stopBlowingAgainst 16 = .ok (.getfield 125, 3) := by decide +kernel
theorem dX3_stopBlowingAgainst_19 : decode cX3_stopBlowingAgainst 19 = .ok (.aload_n 0, 1) := by decide +kernel
theorem dX3_stopBlowingAgainst_20 : decode cX3_stopBlowingAgainst 20 = .ok (.getfield 31, 3) := by decide +kernel
theorem dX3_stopBlowingAgainst_23 : decode cX3_stopBlowingAgainst 23 = .ok (.ineg, 1) := by decide +kernel
theorem dX3_stopBlowingAgainst_24 : decode cX3_stopBlowingAgainst 24 = .ok (.if_icmp .ne 13, 3) := by decide +kernel
theorem dX3_stopBlowingAgainst_27 : decode cX3_stopBlowingAgainst 27 = .ok (.aload_n 0, 1) := by decide +kernel
theorem dX3_stopBlowingAgainst_28 : decode cX3_stopBlowingAgainst 28 = .ok (.getfield 23, 3) := by decide +kernel
theorem dX3_stopBlowingAgainst_31 : decode cX3_stopBlowingAgainst 31 = .ok (.iload_n 2, 1) := by decide +kernel
theorem dX3_stopBlowingAgainst_32 : decode cX3_stopBlowingAgainst 32 = .ok (.aaload, 1) := by decide +kernel
theorem dX3_stopBlowingAgainst_33 : decode cX3_stopBlowingAgainst 33 = .ok (.iload_n 1, 1) := by decide +kernel
theorem dX3_stopBlowingAgainst_34 : decode cX3_stopBlowingAgainst 34 = .ok (.invokevirtual 139, 3) := by decide +kernel
theorem dX3_stopBlowingAgainst_37 : decode cX3_stopBlowingAgainst 37 = .ok (.iinc 2 1, 3) := by decide +kernel
theorem dX3_stopBlowingAgainst_40 : decode cX3_stopBlowingAgainst 40 = .ok (.goto (-38), 3) := by decide +kernel
theorem dX3_stopBlowingAgainst_43 : decode cX3_stopBlowingAgainst 43 = .ok (.return_, 1) := by decide +kernel
set_option maxRecDepth 20000 in
theorem ggX3_stopLongestRun_X3_longestRun : GoodIn wsX3_stopLongestRun wsX3_longestRun := goodIn_r _ [5, 6, 7, 8, 9, 10, 11, 29, 30, 31, 32, 33, 34, 35, 36, 37, 38, 39, 40, 41, 42, 43, 44, 45, 46, 47, 48, 49, 50, 51, 52, 53, 54, 55] (by decide +kernel) (by decide +kernel)
set_option maxRecDepth 20000 in
theorem gX3_stopLongestRun_X3_longestRun : GoodIn wsX3_stopLongestRun (wsV RX3 132 RX3 yX3_longestRun wsX3_longestRun) := goodIn_app (goodIn_of _ (by decide +kernel)) ggX3_stopLongestRun_X3_longestRun
set_option maxRecDepth 20000 in
theorem ggX3_stopLongestRun_X3_stopAt : GoodIn wsX3_stopLongestRun wsX3_stopAt := goodIn_r _ [15, 7, 16, 17, 18, 19, 20, 21, 22, 23, 24, 25, 26, 27, 28, 29, 30, 31, 32, 33, 34, 35, 36, 37, 38, 39, 40, 41, 42, 43, 44, 45, 46, 47, 48, 49, 50, 51, 52, 53, 54, 55] (by decide +kernel) (by decide +kernel)
set_option maxRecDepth 20000 in
theorem gX3_stopLongestRun_X3_stopAt : GoodIn wsX3_stopLongestRun (wsV RX3 136 RX3 yX3_stopAt wsX3_stopAt) := goodIn_app (goodIn_of _ (by decide +kernel)) ggX3_stopLongestRun_X3_stopAt
theorem dX3_stopLongestRun_0 : decode cX3_stopLongestRun 0 = .ok (.aload_n 0, 1) := by decide +kernel
theorem dX3_stopLongestRun_1 : decode cX3_stopLongestRun 1 = .ok (.iconst 1, 1) := by decide +kernel
theorem dX3_stopLongestRun_2 : decode cX3_stopLongestRun 2 = .ok (.invokevirtual 132, 3) := by decide +kernel
theorem dX3_stopLongestRun_5 : decode cX3_stopLongestRun 5 = .ok (.istore_n 2, 1) := by decide +kernel
theorem dX3_stopLongestRun_6 : decode cX3_stopLongestRun 6 = .ok (.aload_n 0, 1) := by decide +kernel
theorem dX3_stopLongestRun_7 : decode cX3_stopLongestRun 7 = .ok (.iload_n 2, 1) := by decide +kernel
theorem dX3_stopLongestRun_8 : decode cX3_stopLongestRun 8 = .ok (.iload_n 1, 1) := by decide +kernel
theorem dX3_stopLongestRun_9 : decode cX3_stopLongestRun 9 = .ok (.invokevirtual 136, 3) := by decide +kernel
theorem dX3_stopLongestRun_12 : decode cX3_stopLongestRun 12 = .ok (.iload_n 2, 1) := by decide +kernel
theorem dX3_stopLongestRun_13 : decode cX3_stopLongestRun 13 = .ok (.iconst (-1), 1) := by decide +kernel
theorem dX3_stopLongestRun_14 : decode cX3_stopLongestRun 14 = .ok (.if_icmp .eq 7, 3) := by decide +kernel
theorem dX3_stopLongestRun_17 : decode cX3_stopLongestRun 17 = .ok (.iconst 1, 1) := by decide +kernel
theorem dX3_stopLongestRun_18 : decode cX3_stopLongestRun 18 = .ok (.goto 4, 3) := by decide +kernel
theorem dX3_stopLongestRun_21 : decode cX3_stopLongestRun 21 = .ok (.iconst 0, 1) := by decide +kernel
theorem dX3_stopLongestRun_22 : decode cX3_stopLongestRun 22 = .ok (.ireturn, 1) := by decide +kernel
set_option maxRecDepth 20000 in
theorem ggX3_stopAt_X1_stand : GoodIn wsX3_stopAt wsX1_stand := goodIn_r _ [6, 7, 8, 9, 10, 11, 12, 13, 14, 27, 28, 29, 30, 31, 32, 33, 34, 35, 36, 37, 38, 39, 40, 41] (by decide +kernel) (by decide +kernel)
set_option maxRecDepth 20000 in
theorem gX3_stopAt_X1_stand : GoodIn wsX3_stopAt (wsV RX3 139 RX1 yX1_stand wsX1_stand) := goodIn_app (goodIn_of _ (by decide +kernel)) ggX3_stopAt_X1_stand
theorem dX3_stopAt_0 : decode cX3_stopAt 0 = .ok (.iload_n 1, 1) := by decide +kernel
theorem dX3_stopAt_1 : decode cX3_stopAt 1 = .ok (.iconst (-1), 1) := by decide +kernel
theorem dX3_stopAt_2 : decode cX3_stopAt 2 = .ok (.if_icmp .eq 13, 3) := by decide +kernel
theorem dX3_stopAt_5 : decode cX3_stopAt 5 = .ok (.aload_n 0, 1) := by decide +kernel
theorem dX3_stopAt_6 : decode cX3_stopAt 6 = .ok (.getfield 23, 3) := by decide +kernel
theorem dX3_stopAt_9 : decode cX3_stopAt 9 = .ok (.iload_n 1, 1) := by decide +kernel
theorem dX3_stopAt_10 : decode cX3_stopAt 10 = .ok (.aaload, 1) := by decide +kernel
theorem dX3_stopAt_11 : decode cX3_stopAt 11 = .ok (.iload_n 2, 1) := by decide +kernel
theorem dX3_stopAt_12 : decode cX3_stopAt 12 = .ok (.invokevirtual 139, 3) := by decide +kernel
theorem dX3_stopAt_15 : decode cX3_stopAt 15 = .ok (.return_, 1) := by decide +kernel
theorem dX3_longestRun_0 : decode cX3_longestRun 0 = .ok (.iconst (-1), 1) := by decide +kernel
theorem dX3_longestRun_1 : decode cX3_longestRun 1 = .ok (.istore_n 2, 1) := by decide +kernel
theorem dX3_longestRun_2 : decode cX3_longestRun 2 = .ok (.iconst 0, 1) := by decide +kernel
theorem dX3_longestRun_3 : decode cX3_longestRun 3 = .ok (.istore_n 3, 1) := by decide +kernel
theorem dX3_longestRun_4 : decode cX3_longestRun 4 = .ok (.iload_n 3, 1) := by decide +kernel
theorem dX3_longestRun_5 : decode cX3_longestRun 5 = .ok (.aload_n 0, 1) := by decide +kernel
theorem dX3_longestRun_6 : decode cX3_longestRun 6 = .ok (.getfield 48, 3) := by decide +kernel
theorem dX3_longestRun_9 : decode cX3_longestRun 9 = .ok (.if_icmp .ge 86, 3) := by decide +kernel
theorem dX3_longestRun_12 : decode cX3_longestRun 12 = .ok (.aload_n 0, 1) := by decide +kernel
theorem dX3_longestRun_13 : decode cX3_longestRun 13 = .ok (.getfield 23, 3) := by decide +kernel
theorem dX3_longestRun_16 : decode cX3_longestRun 16 = .ok (.iload_n 3, 1) := by decide +kernel
theorem dX3_longestRun_17 : decode cX3_longestRun 17 = .ok (.aaload, 1) := by decide +kernel
theorem dX3_longestRun_18 : decode cX3_longestRun 18 = .ok (.getfield 125, 3) := by decide +kernel
theorem dX3_longestRun_21 : decode cX3_longestRun 21 = .ok (.istore 4, 2) := by decide +kernel
theorem dX3_longestRun_23 : decode cX3_longestRun 23 = .ok (.iload_n 1, 1) := by decide +kernel
theorem dX3_longestRun_24 : decode cX3_longestRun 24 = .ok (.ifCond .eq 16, 3) := by decide +kernel
theorem dX3_longestRun_27 : decode cX3_longestRun 27 = .ok (.iload 4, 2) := by decide +kernel
theorem dX3_longestRun_29 : decode cX3_longestRun 29 = .ok (.ifCond .eq 7, 3) := by decide +kernel
theorem dX3_longestRun_32 : decode cX3_longestRun 32 = .ok (.iconst 1, 1) := by decide +kernel
theorem dX3_longestRun_33 : decode cX3_longestRun 33 = .ok (.goto 21, 3) := by decide +kernel
theorem dX3_longestRun_36 : decode cX3_longestRun 36 = .ok (.iconst 0, 1) := by decide +kernel
theorem dX3_longestRun_37 : decode cX3_longestRun 37 = .ok (.goto 17, 3) := by decide +kernel
theorem dX3_longestRun_40 : decode cX3_longestRun 40 = .ok (.iload 4, 2) := by decide +kernel
theorem dX3_longestRun_42 : decode cX3_longestRun 42 = .ok (.aload_n 0, 1) := by decide +kernel
theorem dX3_longestRun_43 : decode cX3_longestRun 43 = .ok (.getfield 31, 3) := by decide +kernel
theorem dX3_longestRun_46 : decode cX3_longestRun 46 = .ok (.if_icmp .ne 7, 3) := by decide +kernel
theorem dX3_longestRun_49 : decode cX3_longestRun 49 = .ok (.iconst 1, 1) := by decide +kernel
theorem dX3_longestRun_50 : decode cX3_longestRun 50 = .ok (.goto 4, 3) := by decide +kernel
theorem dX3_longestRun_53 : decode cX3_longestRun 53 = .ok (.iconst 0, 1) := by decide +kernel
theorem dX3_longestRun_54 : decode cX3_longestRun 54 = .ok (.istore 5, 2) := by decide +kernel
theorem dX3_longestRun_56 : decode cX3_longestRun 56 = .ok (.iload 5, 2) := by decide +kernel
theorem dX3_longestRun_58 : decode cX3_longestRun 58 = .ok (.ifCond .eq 31, 3) := by decide +kernel
theorem dX3_longestRun_61 : decode cX3_longestRun 61 = .ok (.iload_n 2, 1) := by decide +kernel
theorem dX3_longestRun_62 : decode cX3_longestRun 62 = .ok (.iconst (-1), 1) := by decide +kernel
theorem dX3_longestRun_63 : decode cX3_longestRun 63 = .ok (.if_icmp .eq 24, 3) := by decide +kernel
theorem dX3_longestRun_66 : decode cX3_longestRun 66 = .ok (.aload_n 0, 1) := by decide +kernel
theorem dX3_longestRun_67 : decode cX3_longestRun 67 = .ok (.getfield 23, 3) := by decide +kernel
theorem dX3_longestRun_70 : decode cX3_longestRun 70 = .ok (.iload_n 3, 1) := by decide +kernel
theorem dX3_longestRun_71 : decode cX3_longestRun 71 = .ok (.aaload, 1) := by decide +kernel
theorem dX3_longestRun_72 : decode cX3_longestRun 72 = .ok (.getfield 142, 3) := by decide +kernel
theorem dX3_longestRun_75 : decode cX3_longestRun 75 = .ok (.aload_n 0, 1) := by decide +kernel
theorem dX3_longestRun_76 : decode cX3_longestRun 76 = .ok (.getfield 23, 3) := by decide +kernel
theorem dX3_longestRun_79 : decode cX3_longestRun 79 = .ok (.iload_n 2, 1) := by decide +kernel
theorem dX3_longestRun_80 : decode cX3_longestRun 80 = .ok (.aaload, 1) := by decide +kernel
theorem dX3_longestRun_81 : decode cX3_longestRun 81 = .ok (.getfield 142, 3) := by decide +kernel
theorem dX3_longestRun_84 : decode cX3_longestRun 84 = .ok (.if_icmp .le 5, 3) := by decide +kernel
theorem dX3_longestRun_87 : decode cX3_longestRun 87 = .ok (.iload_n 3, 1) := by decide +kernel
theorem dX3_longestRun_88 : decode cX3_longestRun 88 = .ok (.istore_n 2, 1) := by decide +kernel
theorem dX3_longestRun_89 : decode cX3_longestRun 89 = .ok (.iinc 3 1, 3) := by decide +kernel
theorem dX3_longestRun_92 : decode cX3_longestRun 92 = .ok (.goto (-88), 3) := by decide +kernel
theorem dX3_longestRun_95 : decode cX3_longestRun 95 = .ok (.iload_n 2, 1) := by decide +kernel
theorem dX3_longestRun_96 : decode cX3_longestRun 96 = .ok (.ireturn, 1) := by decide +kernel
set_option maxRecDepth 20000 in
theorem ggX3_leastRunReady_X3_isReady : GoodIn wsX3_leastRunReady wsX3_isReady := goodIn_r _ [8, 9, 10, 11, 12, 13, 14, 15, 16, 17, 18, 19, 20, 21, 22, 23, 24, 25, 26, 48, 49, 50, 51, 52, 53, 39, 40, 41, 42, 43, 44, 45, 46, 47, 27, 28, 29, 30, 31, 32, 33, 34, 35, 36, 37, 38] (by decide +kernel) (by decide +kernel)
set_option maxRecDepth 20000 in
theorem gX3_leastRunReady_X3_isReady : GoodIn wsX3_leastRunReady (wsV RX3 145 RX3 yX3_isReady wsX3_isReady) := goodIn_app (goodIn_of _ (by decide +kernel)) ggX3_leastRunReady_X3_isReady
theorem dX3_leastRunReady_0 : decode cX3_leastRunReady 0 = .ok (.iconst (-1), 1) := by decide +kernel
theorem dX3_leastRunReady_1 : decode cX3_leastRunReady 1 = .ok (.istore_n 3, 1) := by decide +kernel
theorem dX3_leastRunReady_2 : decode cX3_leastRunReady 2 = .ok (.iconst 0, 1) := by decide +kernel
theorem dX3_leastRunReady_3 : decode cX3_leastRunReady 3 = .ok (.istore 4, 2) := by decide +kernel
theorem dX3_leastRunReady_5 : decode cX3_leastRunReady 5 = .ok (.iload 4, 2) := by decide +kernel
theorem dX3_leastRunReady_7 : decode cX3_leastRunReady 7 = .ok (.aload_n 0, 1) := by decide +kernel
theorem dX3_leastRunReady_8 : decode cX3_leastRunReady 8 = .ok (.getfield 48, 3) := by decide +kernel
theorem dX3_leastRunReady_11 : decode cX3_leastRunReady 11 = .ok (.if_icmp .ge 55, 3) := by decide +kernel
theorem dX3_leastRunReady_14 : decode cX3_leastRunReady 14 = .ok (.aload_n 0, 1) := by decide +kernel
theorem dX3_leastRunReady_15 : decode cX3_leastRunReady 15 = .ok (.aload_n 0, 1) := by decide +kernel
theorem dX3_leastRunReady_16 : decode cX3_leastRunReady 16 = .ok (.getfield 23, 3) := by decide +kernel
theorem dX3_leastRunReady_19 : decode cX3_leastRunReady 19 = .ok (.iload 4, 2) := by decide +kernel
theorem dX3_leastRunReady_21 : decode cX3_leastRunReady 21 = .ok (.aaload, 1) := by decide +kernel
theorem dX3_leastRunReady_22 : decode cX3_leastRunReady 22 = .ok (.iload_n 1, 1) := by decide +kernel
theorem dX3_leastRunReady_23 : decode cX3_leastRunReady 23 = .ok (.iload_n 2, 1) := by decide +kernel
theorem dX3_leastRunReady_24 : decode cX3_leastRunReady 24 = .ok (.invokevirtual 145, 3) := by decide +kernel
theorem dX3_leastRunReady_27 : decode cX3_leastRunReady 27 = .ok (.ifCond .eq 33, 3) := by decide +kernel
theorem dX3_leastRunReady_30 : decode cX3_leastRunReady 30 = .ok (.iload_n 3, 1) := by decide +kernel
theorem dX3_leastRunReady_31 : decode cX3_leastRunReady 31 = .ok (.iconst (-1), 1) := by decide +kernel
theorem dX3_leastRunReady_32 : decode cX3_leastRunReady 32 = .ok (.if_icmp .eq 25, 3) := by decide +kernel
theorem dX3_leastRunReady_35 : decode cX3_leastRunReady 35 = .ok (.aload_n 0, 1) := by decide +kernel
theorem dX3_leastRunReady_36 : decode cX3_leastRunReady 36 = .ok (.getfield 23, 3) := by decide +kernel
theorem dX3_leastRunReady_39 : decode cX3_leastRunReady 39 = .ok (.iload 4, 2) := by decide +kernel
theorem dX3_leastRunReady_41 : decode cX3_leastRunReady 41 = .ok (.aaload, 1) := by decide +kernel
theorem dX3_leastRunReady_42 : decode cX3_leastRunReady 42 = .ok (.getfield 142, 3) := by decide +kernel
theorem dX3_leastRunReady_45 : decode cX3_leastRunReady 45 = .ok (.aload_n 0, 1) := by decide +kernel
theorem dX3_leastRunReady_46 : decode cX3_leastRunReady 46 = .ok (.getfield 23, 3) := by decide +kernel
theorem dX3_leastRunReady_49 : decode cX3_leastRunReady 49 = .ok (.iload_n 3, 1) := by decide +kernel
theorem dX3_leastRunReady_50 : decode cX3_leastRunReady 50 = .ok (.aaload, 1) := by decide +kernel
theorem dX3_leastRunReady_51 : decode cX3_leastRunReady 51 = .ok (.getfield 142, 3) := by decide +kernel
theorem dX3_leastRunReady_54 : decode cX3_leastRunReady 54 = .ok (.if_icmp .ge 6, 3) := by decide +kernel
theorem dX3_leastRunReady_57 : decode cX3_leastRunReady 57 = .ok (.iload 4, 2) := by decide +kernel
theorem dX3_leastRunReady_59 : decode cX3_leastRunReady 59 = .ok (.istore_n 3, 1) := by decide +kernel
theorem dX3_leastRunReady_60 : decode cX3_leastRunReady 60 = .ok (.iinc 4 1, 3) := by decide +kernel
theorem dX3_leastRunReady_63 : decode cX3_leastRunReady 63 = .ok (.goto (-58), 3) := by decide +kernel
theorem dX3_leastRunReady_66 : decode cX3_leastRunReady 66 = .ok (.iload_n 3, 1) := by decide +kernel
theorem dX3_leastRunReady_67 : decode cX3_leastRunReady 67 = .ok (.ireturn, 1) := by decide +kernel
set_option maxRecDepth 20000 in
theorem ggX3_isReady_X1_hasRested : GoodIn wsX3_isReady wsX1_hasRested := goodIn_r _ [10, 11, 12, 13, 14, 9, 15, 16, 2, 17, 18, 25, 26, 27, 28, 29, 30, 31, 32, 33, 19, 20, 21, 22, 23, 24] (by decide +kernel) (by decide +kernel)
set_option maxRecDepth 20000 in
theorem gX3_isReady_X1_hasRested : GoodIn wsX3_isReady (wsV RX3 152 RX1 yX1_hasRested wsX1_hasRested) := goodIn_app (goodIn_of _ (by decide +kernel)) ggX3_isReady_X1_hasRested
theorem dX3_isReady_0 : decode cX3_isReady 0 = .ok (.aload_n 1, 1) := by decide +kernel
theorem dX3_isReady_1 : decode cX3_isReady 1 = .ok (.getfield 125, 3) := by decide +kernel
theorem dX3_isReady_4 : decode cX3_isReady 4 = .ok (.ifCond .ne 27, 3) := by decide +kernel
theorem dX3_isReady_7 : decode cX3_isReady 7 = .ok (.aload_n 1, 1) := by decide +kernel
theorem dX3_isReady_8 : decode cX3_isReady 8 = .ok (.getfield 149, 3) := by decide +kernel
theorem dX3_isReady_11 : decode cX3_isReady 11 = .ok (.ifCond .ne 20, 3) := by decide +kernel
theorem dX3_isReady_14 : decode cX3_isReady 14 = .ok (.aload_n 1, 1) := by decide +kernel
theorem dX3_isReady_15 : decode cX3_isReady 15 = .ok (.aload_n 0, 1) := by decide +kernel
theorem dX3_isReady_16 : decode cX3_isReady 16 = .ok (.getfield 31, 3) := by decide +kernel
theorem dX3_isReady_19 : decode cX3_isReady 19 = .ok (.iload_n 2, 1) := by decide +kernel
theorem dX3_isReady_20 : decode cX3_isReady 20 = .ok (.iload_n 3, 1) := by decide +kernel
theorem dX3_isReady_21 : decode cX3_isReady 21 = .ok (.invokevirtual 152, 3) := by decide +kernel
theorem dX3_isReady_24 : decode cX3_isReady 24 = .ok (.ifCond .eq 7, 3) := by decide +kernel
theorem dX3_isReady_27 : decode cX3_isReady 27 = .ok (.iconst 1, 1) := by decide +kernel
theorem dX3_isReady_28 : decode cX3_isReady 28 = .ok (.goto 4, 3) := by decide +kernel
theorem dX3_isReady_31 : decode cX3_isReady 31 = .ok (.iconst 0, 1) := by decide +kernel
theorem dX3_isReady_32 : decode cX3_isReady 32 = .ok (.ireturn, 1) := by decide +kernel
theorem dX3_countRun_0 : decode cX3_countRun 0 = .ok (.iconst 0, 1) := by decide +kernel
theorem dX3_countRun_1 : decode cX3_countRun 1 = .ok (.istore_n 1, 1) := by decide +kernel
theorem dX3_countRun_2 : decode cX3_countRun 2 = .ok (.iload_n 1, 1) := by decide +kernel
theorem dX3_countRun_3 : decode cX3_countRun 3 = .ok (.aload_n 0, 1) := by decide +kernel
theorem dX3_countRun_4 : decode cX3_countRun 4 = .ok (.getfield 48, 3) := by decide +kernel
theorem dX3_countRun_7 : decode cX3_countRun 7 = .ok (.if_icmp .ge 36, 3) := by decide +kernel
theorem dX3_countRun_10 : decode cX3_countRun 10 = .ok (.aload_n 0, 1) := by decide +kernel
theorem dX3_countRun_11 : decode cX3_countRun 11 = .ok (.getfield 23, 3) := by decide +kernel
theorem dX3_countRun_14 : decode cX3_countRun 14 = .ok (.iload_n 1, 1) := by decide +kernel
theorem dX3_countRun_15 : decode cX3_countRun 15 = .ok (.aaload, 1) := by decide +kernel
theorem dX3_countRun_16 : decode cX3_countRun 16 = .ok (.getfield 125, 3) := by decide +kernel
theorem dX3_countRun_19 : decode cX3_countRun 19 = .ok (.ifCond .eq 18, 3) := by decide +kernel
theorem dX3_countRun_22 : decode cX3_countRun 22 = .ok (.aload_n 0, 1) := by decide +kernel
theorem dX3_countRun_23 : decode cX3_countRun 23 = .ok (.getfield 23, 3) := by decide +kernel
theorem dX3_countRun_26 : decode cX3_countRun 26 = .ok (.iload_n 1, 1) := by decide +kernel
theorem dX3_countRun_27 : decode cX3_countRun 27 = .ok (.aaload, 1) := by decide +kernel
theorem dX3_countRun_28 : decode cX3_countRun 28 = .ok (.dup, 1) := by decide +kernel
theorem dX3_countRun_29 : decode cX3_countRun 29 = .ok (.getfield 142, 3) := by decide +kernel
theorem dX3_countRun_32 : decode cX3_countRun 32 = .ok (.iconst 1, 1) := by decide +kernel
theorem dX3_countRun_33 : decode cX3_countRun 33 = .ok (.iadd, 1) := by decide +kernel
theorem dX3_countRun_34 : decode cX3_countRun 34 = .ok (.putfield 142, 3) := by decide +kernel
theorem dX3_countRun_37 : decode cX3_countRun 37 = .ok (.iinc 1 1, 3) := by decide +kernel
theorem dX3_countRun_40 : decode cX3_countRun 40 = .ok (.goto (-38), 3) := by decide +kernel
theorem dX3_countRun_43 : decode cX3_countRun 43 = .ok (.return_, 1) := by decide +kernel
