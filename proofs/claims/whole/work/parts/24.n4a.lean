def wsX4_clamp : List Cond := .code yX4_clamp cX4_clamp 3 (some .int) :: ([.methodLink RX4 270 Lib.Math.min.name, .static Lib.Math.min.name, .initialized "java/lang/Math", .code Lib.Math.min.name Lib.Math.min.code 2 (some .int), .methodLink RX4 275 Lib.Math.max.name, .static Lib.Math.max.name, .code Lib.Math.max.name Lib.Math.max.code 2 (some .int)])
def wsX4_init_r1 : List Cond := [Cond.methodLink RX4 1 objectInit, Cond.instanceMethod objectInit, Cond.code objectInit ⟨#[0xb1]⟩ 1 none, Cond.fieldLink RX4 13 "TunnelWatch" "sectionCount" "I", Cond.fieldLink RX4 17 "TunnelWatch" "rest" "I", Cond.constant RX4 20 (100000), Cond.fieldLink RX4 21 "TunnelWatch" "feedLimit" "I", Cond.classLink RX4 24 RX3, Cond.instantiable RX3 12, Cond.initialized RX3, Cond.fieldLink RX4 29 "TunnelWatch" "first" "LTunnelWatch$Tube;", Cond.fieldLink RX4 33 "TunnelWatch" "second" "LTunnelWatch$Tube;", Cond.arrayClass .int, Cond.fieldLink RX4 36 "TunnelWatch" "startCounts" "[I", Cond.methodLink RX4 9 yX4_clamp, Cond.static yX4_clamp, Cond.initialized RX4, Cond.code yX4_clamp cX4_clamp 3 (some .int), Cond.methodLink RX4 270 Lib.Math.min.name, Cond.static Lib.Math.min.name, Cond.initialized "java/lang/Math", Cond.code Lib.Math.min.name Lib.Math.min.code 2 (some .int), Cond.methodLink RX4 275 Lib.Math.max.name, Cond.static Lib.Math.max.name]
def wsX4_init_r2 : List Cond := [Cond.code Lib.Math.max.name Lib.Math.max.code 2 (some .int), Cond.methodLink RX4 26 yX3_init, Cond.instanceMethod yX3_init, Cond.code yX3_init cX3_init 3 none, Cond.methodLink RX3 3 objectInit, Cond.classLink RX3 9 RX0, Cond.instantiable RX0 6, Cond.initialized RX0, Cond.fieldLink RX3 12 "TunnelWatch$Tube" "signals" "LTunnelWatch$Device;", Cond.fieldLink RX3 18 "TunnelWatch$Tube" "barrier" "LTunnelWatch$Device;", Cond.classLink RX3 21 RX1, Cond.fieldLink RX3 23 "TunnelWatch$Tube" "fans" "[LTunnelWatch$Fan;", Cond.fieldLink RX3 27 "TunnelWatch$Tube" "wishedDirection" "I", Cond.fieldLink RX3 31 "TunnelWatch$Tube" "wantedDirection" "I", Cond.fieldLink RX3 34 "TunnelWatch$Tube" "status" "I", Cond.fieldLink RX3 37 "TunnelWatch$Tube" "fireSection" "I", Cond.classLink RX3 40 RX2, Cond.fieldLink RX3 42 "TunnelWatch$Tube" "sections" "[LTunnelWatch$Section;", Cond.instantiable RX2 8, Cond.initialized RX2, Cond.instantiable RX1 9, Cond.initialized RX1, Cond.instanceMethod yX0_init, Cond.code yX0_init cX0_init 1 none]
def wsX4_init_r3 : List Cond := [Cond.methodLink RX0 1 objectInit, Cond.fieldLink RX0 7 "TunnelWatch$Device" "lagTicks" "I", Cond.instanceMethod yX2_init, Cond.code yX2_init cX2_init 1 none, Cond.methodLink RX2 3 objectInit, Cond.fieldLink RX2 9 "TunnelWatch$Section" "ownDirection" "I", Cond.fieldLink RX2 15 "TunnelWatch$Section" "otherDirection" "I", Cond.instanceMethod yX1_init, Cond.code yX1_init cX1_init 1 none]
def wsX4_init : List Cond := .code yX4_init cX4_init 4 none :: ((wsX4_init_r1 ++ (wsX4_init_r2 ++ wsX4_init_r3)) ++ wsX40 ++ wsX30 ++ wsX00 ++ wsX20 ++ wsX10)
def wsX4_isWithin : List Cond := .code yX4_isWithin cX4_isWithin 3 (some .boolean) :: ([])
def wsX4_need : List Cond := .code yX4_need cX4_need 1 none :: ([.classLink RX4 278 "java/lang/IllegalArgumentException", .initialized "java/lang/IllegalArgumentException"] ++ (vx_at0 RX4 280 "java/lang/IllegalArgumentException" ["java/lang/RuntimeException", "java/lang/Exception"]).filter goodWord)
def wsX4_needTube : List Cond := .code yX4_needTube cX4_needTube 1 none :: ([.methodLink RX4 43 yX4_isWithin, .static yX4_isWithin, .initialized RX4, .code yX4_isWithin cX4_isWithin 3 (some .boolean), .methodLink RX4 47 yX4_need, .static yX4_need, .code yX4_need cX4_need 1 none, .classLink RX4 278 "java/lang/IllegalArgumentException", .initialized "java/lang/IllegalArgumentException"] ++ (vx_at0 RX4 280 "java/lang/IllegalArgumentException" ["java/lang/RuntimeException", "java/lang/Exception"]).filter goodWord)
def wsX4_tubeAt : List Cond := .code yX4_tubeAt cX4_tubeAt 2 (some (.object "TunnelWatch$Tube")) :: ([.fieldLink RX4 29 "TunnelWatch" "first" "LTunnelWatch$Tube;", .fieldLink RX4 33 "TunnelWatch" "second" "LTunnelWatch$Tube;"] ++ wsX40)
def wsX4_needState : List Cond := .code yX4_needState cX4_needState 1 none :: ([.classLink RX4 281 "java/lang/IllegalStateException", .initialized "java/lang/IllegalStateException"] ++ (vx_at0 RX4 283 "java/lang/IllegalStateException" ["java/lang/RuntimeException", "java/lang/Exception"]).filter goodWord)
def wsX4_fan_r1 : List Cond := [Cond.fieldLink RX4 55 "TunnelWatch$Tube" "fanCount" "I", Cond.fieldLink RX4 61 "TunnelWatch" "time" "I", Cond.methodLink RX4 40 yX4_needTube, Cond.static yX4_needTube, Cond.initialized RX4, Cond.code yX4_needTube cX4_needTube 1 none, Cond.methodLink RX4 43 yX4_isWithin, Cond.static yX4_isWithin, Cond.code yX4_isWithin cX4_isWithin 3 (some .boolean), Cond.methodLink RX4 47 yX4_need, Cond.static yX4_need, Cond.code yX4_need cX4_need 1 none, Cond.classLink RX4 278 "java/lang/IllegalArgumentException", Cond.initialized "java/lang/IllegalArgumentException", Cond.methodLink RX4 51 yX4_tubeAt, Cond.instanceMethod yX4_tubeAt, Cond.selects RX4 yX4_tubeAt yX4_tubeAt, Cond.code yX4_tubeAt cX4_tubeAt 2 (some (.object "TunnelWatch$Tube")), Cond.fieldLink RX4 29 "TunnelWatch" "first" "LTunnelWatch$Tube;", Cond.fieldLink RX4 33 "TunnelWatch" "second" "LTunnelWatch$Tube;", Cond.methodLink RX4 58 yX4_needState, Cond.static yX4_needState, Cond.code yX4_needState cX4_needState 1 none, Cond.classLink RX4 281 "java/lang/IllegalStateException"]
def wsX4_fan_r2 : List Cond := [Cond.initialized "java/lang/IllegalStateException", Cond.methodLink RX4 64 yX3_addFan, Cond.instanceMethod yX3_addFan, Cond.selects RX3 yX3_addFan yX3_addFan, Cond.initialized RX3, Cond.code yX3_addFan cX3_addFan 3 (some .int), Cond.fieldLink RX3 48 "TunnelWatch$Tube" "fanCount" "I", Cond.fieldLink RX3 23 "TunnelWatch$Tube" "fans" "[LTunnelWatch$Fan;", Cond.fieldLink RX3 51 "TunnelWatch$Fan" "kw" "I"]
def wsX4_fan : List Cond := .code yX4_fan cX4_fan 4 (some .int) :: ((wsX4_fan_r1 ++ wsX4_fan_r2) ++ wsX30 ++ wsX40 ++ wsX10 ++ (vx_at0 RX4 280 "java/lang/IllegalArgumentException" ["java/lang/RuntimeException", "java/lang/Exception"]).filter goodWord ++ (vx_at0 RX4 283 "java/lang/IllegalStateException" ["java/lang/RuntimeException", "java/lang/Exception"]).filter goodWord)
def wsX4_needDevice : List Cond := .code yX4_needDevice cX4_needDevice 3 none :: ([.fieldLink RX4 55 "TunnelWatch$Tube" "fanCount" "I", .methodLink RX4 40 yX4_needTube, .static yX4_needTube, .initialized RX4, .code yX4_needTube cX4_needTube 1 none, .methodLink RX4 43 yX4_isWithin, .static yX4_isWithin, .code yX4_isWithin cX4_isWithin 3 (some .boolean), .methodLink RX4 47 yX4_need, .static yX4_need, .code yX4_need cX4_need 1 none, .classLink RX4 278 "java/lang/IllegalArgumentException", .initialized "java/lang/IllegalArgumentException", .methodLink RX4 51 yX4_tubeAt, .instanceMethod yX4_tubeAt, .selects RX4 yX4_tubeAt yX4_tubeAt, .code yX4_tubeAt cX4_tubeAt 2 (some (.object "TunnelWatch$Tube")), .fieldLink RX4 29 "TunnelWatch" "first" "LTunnelWatch$Tube;", .fieldLink RX4 33 "TunnelWatch" "second" "LTunnelWatch$Tube;"] ++ wsX30 ++ wsX40 ++ (vx_at0 RX4 280 "java/lang/IllegalArgumentException" ["java/lang/RuntimeException", "java/lang/Exception"]).filter goodWord)
def wsX4_lag_r1 : List Cond := [Cond.fieldLink RX4 76 "TunnelWatch$Device" "lagTicks" "I", Cond.methodLink RX4 68 yX4_needDevice, Cond.instanceMethod yX4_needDevice, Cond.selects RX4 yX4_needDevice yX4_needDevice, Cond.initialized RX4, Cond.code yX4_needDevice cX4_needDevice 3 none, Cond.fieldLink RX4 55 "TunnelWatch$Tube" "fanCount" "I", Cond.methodLink RX4 40 yX4_needTube, Cond.static yX4_needTube, Cond.code yX4_needTube cX4_needTube 1 none, Cond.methodLink RX4 43 yX4_isWithin, Cond.static yX4_isWithin, Cond.code yX4_isWithin cX4_isWithin 3 (some .boolean), Cond.methodLink RX4 47 yX4_need, Cond.static yX4_need, Cond.code yX4_need cX4_need 1 none, Cond.classLink RX4 278 "java/lang/IllegalArgumentException", Cond.initialized "java/lang/IllegalArgumentException", Cond.methodLink RX4 51 yX4_tubeAt, Cond.instanceMethod yX4_tubeAt, Cond.selects RX4 yX4_tubeAt yX4_tubeAt, Cond.code yX4_tubeAt cX4_tubeAt 2 (some (.object "TunnelWatch$Tube")), Cond.fieldLink RX4 29 "TunnelWatch" "first" "LTunnelWatch$Tube;", Cond.fieldLink RX4 33 "TunnelWatch" "second" "LTunnelWatch$Tube;"]
def wsX4_lag_r2 : List Cond := [Cond.methodLink RX4 72 yX3_deviceAt, Cond.instanceMethod yX3_deviceAt, Cond.selects RX3 yX3_deviceAt yX3_deviceAt, Cond.initialized RX3, Cond.code yX3_deviceAt cX3_deviceAt 2 (some (.object "TunnelWatch$Device")), Cond.fieldLink RX3 12 "TunnelWatch$Tube" "signals" "LTunnelWatch$Device;", Cond.fieldLink RX3 18 "TunnelWatch$Tube" "barrier" "LTunnelWatch$Device;", Cond.fieldLink RX3 23 "TunnelWatch$Tube" "fans" "[LTunnelWatch$Fan;"]
def wsX4_lag : List Cond := .code yX4_lag cX4_lag 6 (some .int) :: ((wsX4_lag_r1 ++ wsX4_lag_r2) ++ wsX00 ++ wsX10 ++ wsX30 ++ wsX40 ++ (vx_at0 RX4 280 "java/lang/IllegalArgumentException" ["java/lang/RuntimeException", "java/lang/Exception"]).filter goodWord)
def wsX4_needSection : List Cond := .code yX4_needSection cX4_needSection 3 none :: ([.fieldLink RX4 13 "TunnelWatch" "sectionCount" "I", .methodLink RX4 40 yX4_needTube, .static yX4_needTube, .initialized RX4, .code yX4_needTube cX4_needTube 1 none, .methodLink RX4 43 yX4_isWithin, .static yX4_isWithin, .code yX4_isWithin cX4_isWithin 3 (some .boolean), .methodLink RX4 47 yX4_need, .static yX4_need, .code yX4_need cX4_need 1 none, .classLink RX4 278 "java/lang/IllegalArgumentException", .initialized "java/lang/IllegalArgumentException"] ++ wsX40 ++ (vx_at0 RX4 280 "java/lang/IllegalArgumentException" ["java/lang/RuntimeException", "java/lang/Exception"]).filter goodWord)
def wsX4_directionOf : List Cond := .code yX4_directionOf cX4_directionOf 1 (some .int) :: ([])
def wsX4_plan_r1 : List Cond := [Cond.fieldLink RX4 61 "TunnelWatch" "time" "I", Cond.fieldLink RX4 84 "TunnelWatch$Tube" "sections" "[LTunnelWatch$Section;", Cond.fieldLink RX4 88 "TunnelWatch$Section" "rank" "I", Cond.fieldLink RX4 96 "TunnelWatch$Section" "ownDirection" "I", Cond.fieldLink RX4 99 "TunnelWatch$Section" "ownFans" "I", Cond.fieldLink RX4 102 "TunnelWatch$Section" "otherFans" "I", Cond.methodLink RX4 81 yX4_needSection, Cond.instanceMethod yX4_needSection, Cond.selects RX4 yX4_needSection yX4_needSection, Cond.initialized RX4, Cond.code yX4_needSection cX4_needSection 3 none, Cond.fieldLink RX4 13 "TunnelWatch" "sectionCount" "I", Cond.methodLink RX4 40 yX4_needTube, Cond.static yX4_needTube, Cond.code yX4_needTube cX4_needTube 1 none, Cond.methodLink RX4 43 yX4_isWithin, Cond.static yX4_isWithin, Cond.code yX4_isWithin cX4_isWithin 3 (some .boolean), Cond.methodLink RX4 47 yX4_need, Cond.static yX4_need, Cond.code yX4_need cX4_need 1 none, Cond.classLink RX4 278 "java/lang/IllegalArgumentException", Cond.initialized "java/lang/IllegalArgumentException", Cond.methodLink RX4 58 yX4_needState]
def wsX4_plan_r2 : List Cond := [Cond.static yX4_needState, Cond.code yX4_needState cX4_needState 1 none, Cond.classLink RX4 281 "java/lang/IllegalStateException", Cond.initialized "java/lang/IllegalStateException", Cond.methodLink RX4 51 yX4_tubeAt, Cond.instanceMethod yX4_tubeAt, Cond.selects RX4 yX4_tubeAt yX4_tubeAt, Cond.code yX4_tubeAt cX4_tubeAt 2 (some (.object "TunnelWatch$Tube")), Cond.fieldLink RX4 29 "TunnelWatch" "first" "LTunnelWatch$Tube;", Cond.fieldLink RX4 33 "TunnelWatch" "second" "LTunnelWatch$Tube;", Cond.methodLink RX4 93 yX4_directionOf, Cond.static yX4_directionOf, Cond.code yX4_directionOf cX4_directionOf 1 (some .int)]
def wsX4_plan : List Cond := .code yX4_plan cX4_plan 8 none :: ((wsX4_plan_r1 ++ wsX4_plan_r2) ++ wsX40 ++ wsX30 ++ wsX20 ++ (vx_at0 RX4 280 "java/lang/IllegalArgumentException" ["java/lang/RuntimeException", "java/lang/Exception"]).filter goodWord ++ (vx_at0 RX4 283 "java/lang/IllegalStateException" ["java/lang/RuntimeException", "java/lang/Exception"]).filter goodWord)
def wsX4_turn_r1 : List Cond := [Cond.fieldLink RX4 61 "TunnelWatch" "time" "I", Cond.fieldLink RX4 84 "TunnelWatch$Tube" "sections" "[LTunnelWatch$Section;", Cond.fieldLink RX4 105 "TunnelWatch$Section" "otherDirection" "I", Cond.methodLink RX4 81 yX4_needSection, Cond.instanceMethod yX4_needSection, Cond.selects RX4 yX4_needSection yX4_needSection, Cond.initialized RX4, Cond.code yX4_needSection cX4_needSection 3 none, Cond.fieldLink RX4 13 "TunnelWatch" "sectionCount" "I", Cond.methodLink RX4 40 yX4_needTube, Cond.static yX4_needTube, Cond.code yX4_needTube cX4_needTube 1 none, Cond.methodLink RX4 43 yX4_isWithin, Cond.static yX4_isWithin, Cond.code yX4_isWithin cX4_isWithin 3 (some .boolean), Cond.methodLink RX4 47 yX4_need, Cond.static yX4_need, Cond.code yX4_need cX4_need 1 none, Cond.classLink RX4 278 "java/lang/IllegalArgumentException", Cond.initialized "java/lang/IllegalArgumentException", Cond.methodLink RX4 58 yX4_needState, Cond.static yX4_needState, Cond.code yX4_needState cX4_needState 1 none, Cond.classLink RX4 281 "java/lang/IllegalStateException"]
def wsX4_turn_r2 : List Cond := [Cond.initialized "java/lang/IllegalStateException", Cond.methodLink RX4 51 yX4_tubeAt, Cond.instanceMethod yX4_tubeAt, Cond.selects RX4 yX4_tubeAt yX4_tubeAt, Cond.code yX4_tubeAt cX4_tubeAt 2 (some (.object "TunnelWatch$Tube")), Cond.fieldLink RX4 29 "TunnelWatch" "first" "LTunnelWatch$Tube;", Cond.fieldLink RX4 33 "TunnelWatch" "second" "LTunnelWatch$Tube;", Cond.methodLink RX4 93 yX4_directionOf, Cond.static yX4_directionOf, Cond.code yX4_directionOf cX4_directionOf 1 (some .int)]
def wsX4_turn : List Cond := .code yX4_turn cX4_turn 4 none :: ((wsX4_turn_r1 ++ wsX4_turn_r2) ++ wsX40 ++ wsX30 ++ wsX20 ++ (vx_at0 RX4 280 "java/lang/IllegalArgumentException" ["java/lang/RuntimeException", "java/lang/Exception"]).filter goodWord ++ (vx_at0 RX4 283 "java/lang/IllegalStateException" ["java/lang/RuntimeException", "java/lang/Exception"]).filter goodWord)
def wsX4_sense_r1 : List Cond := [Cond.fieldLink RX4 84 "TunnelWatch$Tube" "sections" "[LTunnelWatch$Section;", Cond.fieldLink RX4 108 "TunnelWatch$Section" "value" "I", Cond.methodLink RX4 81 yX4_needSection, Cond.instanceMethod yX4_needSection, Cond.selects RX4 yX4_needSection yX4_needSection, Cond.initialized RX4, Cond.code yX4_needSection cX4_needSection 3 none, Cond.fieldLink RX4 13 "TunnelWatch" "sectionCount" "I", Cond.methodLink RX4 40 yX4_needTube, Cond.static yX4_needTube, Cond.code yX4_needTube cX4_needTube 1 none, Cond.methodLink RX4 43 yX4_isWithin, Cond.static yX4_isWithin, Cond.code yX4_isWithin cX4_isWithin 3 (some .boolean), Cond.methodLink RX4 47 yX4_need, Cond.static yX4_need, Cond.code yX4_need cX4_need 1 none, Cond.classLink RX4 278 "java/lang/IllegalArgumentException", Cond.initialized "java/lang/IllegalArgumentException", Cond.methodLink RX4 51 yX4_tubeAt, Cond.instanceMethod yX4_tubeAt, Cond.selects RX4 yX4_tubeAt yX4_tubeAt, Cond.code yX4_tubeAt cX4_tubeAt 2 (some (.object "TunnelWatch$Tube")), Cond.fieldLink RX4 29 "TunnelWatch" "first" "LTunnelWatch$Tube;"]
def wsX4_sense_r2 : List Cond := [Cond.fieldLink RX4 33 "TunnelWatch" "second" "LTunnelWatch$Tube;"]
def wsX4_sense : List Cond := .code yX4_sense cX4_sense 6 (some .int) :: ((wsX4_sense_r1 ++ wsX4_sense_r2) ++ wsX30 ++ wsX20 ++ wsX40 ++ (vx_at0 RX4 280 "java/lang/IllegalArgumentException" ["java/lang/RuntimeException", "java/lang/Exception"]).filter goodWord)
def wsX4_deafen_r1 : List Cond := [Cond.fieldLink RX4 84 "TunnelWatch$Tube" "sections" "[LTunnelWatch$Section;", Cond.fieldLink RX4 111 "TunnelWatch$Section" "deaf" "Z", Cond.methodLink RX4 81 yX4_needSection, Cond.instanceMethod yX4_needSection, Cond.selects RX4 yX4_needSection yX4_needSection, Cond.initialized RX4, Cond.code yX4_needSection cX4_needSection 3 none, Cond.fieldLink RX4 13 "TunnelWatch" "sectionCount" "I", Cond.methodLink RX4 40 yX4_needTube, Cond.static yX4_needTube, Cond.code yX4_needTube cX4_needTube 1 none, Cond.methodLink RX4 43 yX4_isWithin, Cond.static yX4_isWithin, Cond.code yX4_isWithin cX4_isWithin 3 (some .boolean), Cond.methodLink RX4 47 yX4_need, Cond.static yX4_need, Cond.code yX4_need cX4_need 1 none, Cond.classLink RX4 278 "java/lang/IllegalArgumentException", Cond.initialized "java/lang/IllegalArgumentException", Cond.methodLink RX4 51 yX4_tubeAt, Cond.instanceMethod yX4_tubeAt, Cond.selects RX4 yX4_tubeAt yX4_tubeAt, Cond.code yX4_tubeAt cX4_tubeAt 2 (some (.object "TunnelWatch$Tube")), Cond.fieldLink RX4 29 "TunnelWatch" "first" "LTunnelWatch$Tube;"]
def wsX4_deafen_r2 : List Cond := [Cond.fieldLink RX4 33 "TunnelWatch" "second" "LTunnelWatch$Tube;"]
def wsX4_deafen : List Cond := .code yX4_deafen cX4_deafen 6 (some .boolean) :: ((wsX4_deafen_r1 ++ wsX4_deafen_r2) ++ wsX30 ++ wsX20 ++ wsX40 ++ (vx_at0 RX4 280 "java/lang/IllegalArgumentException" ["java/lang/RuntimeException", "java/lang/Exception"]).filter goodWord)
def wsX4_pull_r1 : List Cond := [Cond.fieldLink RX4 84 "TunnelWatch$Tube" "sections" "[LTunnelWatch$Section;", Cond.fieldLink RX4 115 "TunnelWatch$Section" "pulled" "Z", Cond.methodLink RX4 81 yX4_needSection, Cond.instanceMethod yX4_needSection, Cond.selects RX4 yX4_needSection yX4_needSection, Cond.initialized RX4, Cond.code yX4_needSection cX4_needSection 3 none, Cond.fieldLink RX4 13 "TunnelWatch" "sectionCount" "I", Cond.methodLink RX4 40 yX4_needTube, Cond.static yX4_needTube, Cond.code yX4_needTube cX4_needTube 1 none, Cond.methodLink RX4 43 yX4_isWithin, Cond.static yX4_isWithin, Cond.code yX4_isWithin cX4_isWithin 3 (some .boolean), Cond.methodLink RX4 47 yX4_need, Cond.static yX4_need, Cond.code yX4_need cX4_need 1 none, Cond.classLink RX4 278 "java/lang/IllegalArgumentException", Cond.initialized "java/lang/IllegalArgumentException", Cond.methodLink RX4 51 yX4_tubeAt, Cond.instanceMethod yX4_tubeAt, Cond.selects RX4 yX4_tubeAt yX4_tubeAt, Cond.code yX4_tubeAt cX4_tubeAt 2 (some (.object "TunnelWatch$Tube")), Cond.fieldLink RX4 29 "TunnelWatch" "first" "LTunnelWatch$Tube;"]
def wsX4_pull_r2 : List Cond := [Cond.fieldLink RX4 33 "TunnelWatch" "second" "LTunnelWatch$Tube;"]
def wsX4_pull : List Cond := .code yX4_pull cX4_pull 5 (some .boolean) :: ((wsX4_pull_r1 ++ wsX4_pull_r2) ++ wsX30 ++ wsX20 ++ wsX40 ++ (vx_at0 RX4 280 "java/lang/IllegalArgumentException" ["java/lang/RuntimeException", "java/lang/Exception"]).filter goodWord)
def wsX4_confirm_r1 : List Cond := [Cond.methodLink RX4 40 yX4_needTube, Cond.static yX4_needTube, Cond.initialized RX4, Cond.code yX4_needTube cX4_needTube 1 none, Cond.methodLink RX4 43 yX4_isWithin, Cond.static yX4_isWithin, Cond.code yX4_isWithin cX4_isWithin 3 (some .boolean), Cond.methodLink RX4 47 yX4_need, Cond.static yX4_need, Cond.code yX4_need cX4_need 1 none, Cond.classLink RX4 278 "java/lang/IllegalArgumentException", Cond.initialized "java/lang/IllegalArgumentException", Cond.methodLink RX4 51 yX4_tubeAt, Cond.instanceMethod yX4_tubeAt, Cond.selects RX4 yX4_tubeAt yX4_tubeAt, Cond.code yX4_tubeAt cX4_tubeAt 2 (some (.object "TunnelWatch$Tube")), Cond.fieldLink RX4 29 "TunnelWatch" "first" "LTunnelWatch$Tube;", Cond.fieldLink RX4 33 "TunnelWatch" "second" "LTunnelWatch$Tube;", Cond.methodLink RX4 118 yX3_pullWhereSuspected, Cond.instanceMethod yX3_pullWhereSuspected, Cond.selects RX3 yX3_pullWhereSuspected yX3_pullWhereSuspected, Cond.initialized RX3, Cond.code yX3_pullWhereSuspected cX3_pullWhereSuspected 1 (some .boolean), Cond.fieldLink RX3 34 "TunnelWatch$Tube" "status" "I"]
def wsX4_confirm_r2 : List Cond := [Cond.fieldLink RX3 37 "TunnelWatch$Tube" "fireSection" "I", Cond.fieldLink RX3 42 "TunnelWatch$Tube" "sections" "[LTunnelWatch$Section;", Cond.fieldLink RX3 73 "TunnelWatch$Section" "pulled" "Z"]
def wsX4_confirm : List Cond := .code yX4_confirm cX4_confirm 2 (some .boolean) :: ((wsX4_confirm_r1 ++ wsX4_confirm_r2) ++ wsX40 ++ wsX30 ++ wsX20 ++ (vx_at0 RX4 280 "java/lang/IllegalArgumentException" ["java/lang/RuntimeException", "java/lang/Exception"]).filter goodWord)
def wsX4_reset_r1 : List Cond := [Cond.methodLink RX4 40 yX4_needTube, Cond.static yX4_needTube, Cond.initialized RX4, Cond.code yX4_needTube cX4_needTube 1 none, Cond.methodLink RX4 43 yX4_isWithin, Cond.static yX4_isWithin, Cond.code yX4_isWithin cX4_isWithin 3 (some .boolean), Cond.methodLink RX4 47 yX4_need, Cond.static yX4_need, Cond.code yX4_need cX4_need 1 none, Cond.classLink RX4 278 "java/lang/IllegalArgumentException", Cond.initialized "java/lang/IllegalArgumentException", Cond.methodLink RX4 51 yX4_tubeAt, Cond.instanceMethod yX4_tubeAt, Cond.selects RX4 yX4_tubeAt yX4_tubeAt, Cond.code yX4_tubeAt cX4_tubeAt 2 (some (.object "TunnelWatch$Tube")), Cond.fieldLink RX4 29 "TunnelWatch" "first" "LTunnelWatch$Tube;", Cond.fieldLink RX4 33 "TunnelWatch" "second" "LTunnelWatch$Tube;", Cond.methodLink RX4 122 yX3_endFire, Cond.instanceMethod yX3_endFire, Cond.selects RX3 yX3_endFire yX3_endFire, Cond.initialized RX3, Cond.code yX3_endFire cX3_endFire 2 (some .boolean), Cond.fieldLink RX3 42 "TunnelWatch$Tube" "sections" "[LTunnelWatch$Section;"]
def wsX4_reset_r2 : List Cond := [Cond.fieldLink RX3 73 "TunnelWatch$Section" "pulled" "Z", Cond.fieldLink RX3 34 "TunnelWatch$Tube" "status" "I", Cond.fieldLink RX3 37 "TunnelWatch$Tube" "fireSection" "I", Cond.methodLink RX3 67 yX3_leastOn, Cond.instanceMethod yX3_leastOn, Cond.selects RX3 yX3_leastOn yX3_leastOn, Cond.code yX3_leastOn cX3_leastOn 2 (some .int), Cond.methodLink RX3 77 yX2_isOn, Cond.instanceMethod yX2_isOn, Cond.selects RX2 yX2_isOn yX2_isOn, Cond.initialized RX2, Cond.code yX2_isOn cX2_isOn 1 (some .boolean), Cond.fieldLink RX2 18 "TunnelWatch$Section" "value" "I", Cond.fieldLink RX2 21 "TunnelWatch$Section" "deaf" "Z"]
def wsX4_reset : List Cond := .code yX4_reset cX4_reset 2 (some .boolean) :: ((wsX4_reset_r1 ++ wsX4_reset_r2) ++ wsX40 ++ wsX30 ++ wsX20 ++ (vx_at0 RX4 280 "java/lang/IllegalArgumentException" ["java/lang/RuntimeException", "java/lang/Exception"]).filter goodWord)
def wsX4_wish : List Cond := .code yX4_wish cX4_wish 5 none :: ([.fieldLink RX4 125 "TunnelWatch$Tube" "wishedDirection" "I", .fieldLink RX4 128 "TunnelWatch$Tube" "wishedFans" "I", .methodLink RX4 40 yX4_needTube, .static yX4_needTube, .initialized RX4, .code yX4_needTube cX4_needTube 1 none, .methodLink RX4 43 yX4_isWithin, .static yX4_isWithin, .code yX4_isWithin cX4_isWithin 3 (some .boolean), .methodLink RX4 47 yX4_need, .static yX4_need, .code yX4_need cX4_need 1 none, .classLink RX4 278 "java/lang/IllegalArgumentException", .initialized "java/lang/IllegalArgumentException", .methodLink RX4 51 yX4_tubeAt, .instanceMethod yX4_tubeAt, .selects RX4 yX4_tubeAt yX4_tubeAt, .code yX4_tubeAt cX4_tubeAt 2 (some (.object "TunnelWatch$Tube")), .fieldLink RX4 29 "TunnelWatch" "first" "LTunnelWatch$Tube;", .fieldLink RX4 33 "TunnelWatch" "second" "LTunnelWatch$Tube;", .methodLink RX4 93 yX4_directionOf, .static yX4_directionOf, .code yX4_directionOf cX4_directionOf 1 (some .int)] ++ wsX30 ++ wsX40 ++ (vx_at0 RX4 280 "java/lang/IllegalArgumentException" ["java/lang/RuntimeException", "java/lang/Exception"]).filter goodWord)
def wsX4_order : List Cond := .code yX4_order cX4_order 5 (some .boolean) :: ([.fieldLink RX4 131 "TunnelWatch$Tube" "stopOrdered" "Z", .methodLink RX4 40 yX4_needTube, .static yX4_needTube, .initialized RX4, .code yX4_needTube cX4_needTube 1 none, .methodLink RX4 43 yX4_isWithin, .static yX4_isWithin, .code yX4_isWithin cX4_isWithin 3 (some .boolean), .methodLink RX4 47 yX4_need, .static yX4_need, .code yX4_need cX4_need 1 none, .classLink RX4 278 "java/lang/IllegalArgumentException", .initialized "java/lang/IllegalArgumentException", .methodLink RX4 51 yX4_tubeAt, .instanceMethod yX4_tubeAt, .selects RX4 yX4_tubeAt yX4_tubeAt, .code yX4_tubeAt cX4_tubeAt 2 (some (.object "TunnelWatch$Tube")), .fieldLink RX4 29 "TunnelWatch" "first" "LTunnelWatch$Tube;", .fieldLink RX4 33 "TunnelWatch" "second" "LTunnelWatch$Tube;"] ++ wsX30 ++ wsX40 ++ (vx_at0 RX4 280 "java/lang/IllegalArgumentException" ["java/lang/RuntimeException", "java/lang/Exception"]).filter goodWord)
def wsX4_limit : List Cond := .code yX4_limit cX4_limit 3 (some .int) :: ([.constant RX4 20 (100000), .fieldLink RX4 21 "TunnelWatch" "feedLimit" "I", .methodLink RX4 43 yX4_isWithin, .static yX4_isWithin, .initialized RX4, .code yX4_isWithin cX4_isWithin 3 (some .boolean), .methodLink RX4 47 yX4_need, .static yX4_need, .code yX4_need cX4_need 1 none, .classLink RX4 278 "java/lang/IllegalArgumentException", .initialized "java/lang/IllegalArgumentException"] ++ wsX40 ++ (vx_at0 RX4 280 "java/lang/IllegalArgumentException" ["java/lang/RuntimeException", "java/lang/Exception"]).filter goodWord)
def wsX4_fail_r1 : List Cond := [Cond.fieldLink RX4 134 "TunnelWatch$Device" "failed" "Z", Cond.methodLink RX4 68 yX4_needDevice, Cond.instanceMethod yX4_needDevice, Cond.selects RX4 yX4_needDevice yX4_needDevice, Cond.initialized RX4, Cond.code yX4_needDevice cX4_needDevice 3 none, Cond.fieldLink RX4 55 "TunnelWatch$Tube" "fanCount" "I", Cond.methodLink RX4 40 yX4_needTube, Cond.static yX4_needTube, Cond.code yX4_needTube cX4_needTube 1 none, Cond.methodLink RX4 43 yX4_isWithin, Cond.static yX4_isWithin, Cond.code yX4_isWithin cX4_isWithin 3 (some .boolean), Cond.methodLink RX4 47 yX4_need, Cond.static yX4_need, Cond.code yX4_need cX4_need 1 none, Cond.classLink RX4 278 "java/lang/IllegalArgumentException", Cond.initialized "java/lang/IllegalArgumentException", Cond.methodLink RX4 51 yX4_tubeAt, Cond.instanceMethod yX4_tubeAt, Cond.selects RX4 yX4_tubeAt yX4_tubeAt, Cond.code yX4_tubeAt cX4_tubeAt 2 (some (.object "TunnelWatch$Tube")), Cond.fieldLink RX4 29 "TunnelWatch" "first" "LTunnelWatch$Tube;", Cond.fieldLink RX4 33 "TunnelWatch" "second" "LTunnelWatch$Tube;"]
def wsX4_fail_r2 : List Cond := [Cond.methodLink RX4 72 yX3_deviceAt, Cond.instanceMethod yX3_deviceAt, Cond.selects RX3 yX3_deviceAt yX3_deviceAt, Cond.initialized RX3, Cond.code yX3_deviceAt cX3_deviceAt 2 (some (.object "TunnelWatch$Device")), Cond.fieldLink RX3 12 "TunnelWatch$Tube" "signals" "LTunnelWatch$Device;", Cond.fieldLink RX3 18 "TunnelWatch$Tube" "barrier" "LTunnelWatch$Device;", Cond.fieldLink RX3 23 "TunnelWatch$Tube" "fans" "[LTunnelWatch$Fan;"]
def wsX4_fail : List Cond := .code yX4_fail cX4_fail 5 (some .boolean) :: ((wsX4_fail_r1 ++ wsX4_fail_r2) ++ wsX00 ++ wsX10 ++ wsX30 ++ wsX40 ++ (vx_at0 RX4 280 "java/lang/IllegalArgumentException" ["java/lang/RuntimeException", "java/lang/Exception"]).filter goodWord)
def wsX4_mend_r1 : List Cond := [Cond.methodLink RX4 68 yX4_needDevice, Cond.instanceMethod yX4_needDevice, Cond.selects RX4 yX4_needDevice yX4_needDevice, Cond.initialized RX4, Cond.code yX4_needDevice cX4_needDevice 3 none, Cond.fieldLink RX4 55 "TunnelWatch$Tube" "fanCount" "I", Cond.methodLink RX4 40 yX4_needTube, Cond.static yX4_needTube, Cond.code yX4_needTube cX4_needTube 1 none, Cond.methodLink RX4 43 yX4_isWithin, Cond.static yX4_isWithin, Cond.code yX4_isWithin cX4_isWithin 3 (some .boolean), Cond.methodLink RX4 47 yX4_need, Cond.static yX4_need, Cond.code yX4_need cX4_need 1 none, Cond.classLink RX4 278 "java/lang/IllegalArgumentException", Cond.initialized "java/lang/IllegalArgumentException", Cond.methodLink RX4 51 yX4_tubeAt, Cond.instanceMethod yX4_tubeAt, Cond.selects RX4 yX4_tubeAt yX4_tubeAt, Cond.code yX4_tubeAt cX4_tubeAt 2 (some (.object "TunnelWatch$Tube")), Cond.fieldLink RX4 29 "TunnelWatch" "first" "LTunnelWatch$Tube;", Cond.fieldLink RX4 33 "TunnelWatch" "second" "LTunnelWatch$Tube;", Cond.methodLink RX4 72 yX3_deviceAt]
def wsX4_mend_r2 : List Cond := [Cond.instanceMethod yX3_deviceAt, Cond.selects RX3 yX3_deviceAt yX3_deviceAt, Cond.initialized RX3, Cond.code yX3_deviceAt cX3_deviceAt 2 (some (.object "TunnelWatch$Device")), Cond.fieldLink RX3 12 "TunnelWatch$Tube" "signals" "LTunnelWatch$Device;", Cond.fieldLink RX3 18 "TunnelWatch$Tube" "barrier" "LTunnelWatch$Device;", Cond.fieldLink RX3 23 "TunnelWatch$Tube" "fans" "[LTunnelWatch$Fan;", Cond.methodLink RX4 137 yX0_repair, Cond.instanceMethod yX0_repair, Cond.selects RX0 yX0_repair yX0_repair, Cond.initialized RX0, Cond.code yX0_repair cX0_repair 2 (some .boolean), Cond.fieldLink RX0 19 "TunnelWatch$Device" "failed" "Z", Cond.fieldLink RX0 26 "TunnelWatch$Device" "out" "Z", Cond.fieldLink RX0 13 "TunnelWatch$Device" "command" "I", Cond.fieldLink RX0 23 "TunnelWatch$Device" "actual" "I", Cond.methodLink RX4 137 ⟨"TunnelWatch$Device", "repair", "()Z"⟩, Cond.sameMethod "TunnelWatch$Device" "TunnelWatch$Device" "repair" "()Z", Cond.selects RX1 ⟨"TunnelWatch$Device", "repair", "()Z"⟩ yX0_repair]
def wsX4_mend : List Cond := .code yX4_mend cX4_mend 3 (some .boolean) :: ((wsX4_mend_r1 ++ wsX4_mend_r2) ++ wsX30 ++ wsX40 ++ wsX00 ++ wsX10 ++ (vx_at0 RX4 280 "java/lang/IllegalArgumentException" ["java/lang/RuntimeException", "java/lang/Exception"]).filter goodWord)
def wsX4_tubeThatCounts : List Cond := .code yX4_tubeThatCounts cX4_tubeThatCounts 3 (some .int) :: ([.fieldLink RX4 29 "TunnelWatch" "first" "LTunnelWatch$Tube;", .fieldLink RX4 143 "TunnelWatch$Tube" "status" "I", .fieldLink RX4 33 "TunnelWatch" "second" "LTunnelWatch$Tube;", .methodLink RX4 222 yX3_fireRank, .instanceMethod yX3_fireRank, .selects RX3 yX3_fireRank yX3_fireRank, .initialized RX3, .code yX3_fireRank cX3_fireRank 1 (some .int), .fieldLink RX3 37 "TunnelWatch$Tube" "fireSection" "I", .fieldLink RX3 42 "TunnelWatch$Tube" "sections" "[LTunnelWatch$Section;", .fieldLink RX3 61 "TunnelWatch$Section" "rank" "I"] ++ wsX40 ++ wsX30 ++ wsX20)
def wsX4_wantFans : List Cond := .code yX4_wantFans cX4_wantFans 5 none :: ([.fieldLink RX4 146 "TunnelWatch$Tube" "fireSection" "I", .fieldLink RX4 125 "TunnelWatch$Tube" "wishedDirection" "I", .fieldLink RX4 128 "TunnelWatch$Tube" "wishedFans" "I", .fieldLink RX4 84 "TunnelWatch$Tube" "sections" "[LTunnelWatch$Section;", .fieldLink RX4 96 "TunnelWatch$Section" "ownDirection" "I", .fieldLink RX4 99 "TunnelWatch$Section" "ownFans" "I", .fieldLink RX4 105 "TunnelWatch$Section" "otherDirection" "I", .fieldLink RX4 102 "TunnelWatch$Section" "otherFans" "I", .methodLink RX4 225 yX3_want, .instanceMethod yX3_want, .selects RX3 yX3_want yX3_want, .initialized RX3, .code yX3_want cX3_want 3 none, .fieldLink RX3 31 "TunnelWatch$Tube" "wantedDirection" "I", .fieldLink RX3 91 "TunnelWatch$Tube" "wantedFans" "I"] ++ wsX30 ++ wsX20)
def wsX4_load : List Cond := .code yX4_load cX4_load 1 (some .int) :: ([.fieldLink RX4 29 "TunnelWatch" "first" "LTunnelWatch$Tube;", .fieldLink RX4 61 "TunnelWatch" "time" "I", .fieldLink RX4 33 "TunnelWatch" "second" "LTunnelWatch$Tube;", .methodLink RX4 178 yX3_drawnKw, .instanceMethod yX3_drawnKw, .selects RX3 yX3_drawnKw yX3_drawnKw, .initialized RX3, .code yX3_drawnKw cX3_drawnKw 4 (some .int), .fieldLink RX3 48 "TunnelWatch$Tube" "fanCount" "I", .fieldLink RX3 23 "TunnelWatch$Tube" "fans" "[LTunnelWatch$Fan;", .methodLink RX3 126 yX1_drawnKw, .instanceMethod yX1_drawnKw, .selects RX1 yX1_drawnKw yX1_drawnKw, .initialized RX1, .code yX1_drawnKw cX1_drawnKw 2 (some .int), .fieldLink RX1 22 "TunnelWatch$Fan" "command" "I", .sameField "TunnelWatch$Fan" "TunnelWatch$Device" "command" "I", .fieldLink RX1 25 "TunnelWatch$Fan" "sentTick" "I", .sameField "TunnelWatch$Fan" "TunnelWatch$Device" "sentTick" "I", .fieldLink RX1 36 "TunnelWatch$Fan" "kw" "I"] ++ wsX40 ++ wsX30 ++ wsX00 ++ wsX10)
def wsX4_shedLoad_r1 : List Cond := [Cond.fieldLink RX4 21 "TunnelWatch" "feedLimit" "I", Cond.fieldLink RX4 61 "TunnelWatch" "time" "I", Cond.methodLink RX4 228 yX4_load, Cond.instanceMethod yX4_load, Cond.selects RX4 yX4_load yX4_load, Cond.initialized RX4, Cond.code yX4_load cX4_load 1 (some .int), Cond.fieldLink RX4 29 "TunnelWatch" "first" "LTunnelWatch$Tube;", Cond.fieldLink RX4 33 "TunnelWatch" "second" "LTunnelWatch$Tube;", Cond.methodLink RX4 178 yX3_drawnKw, Cond.instanceMethod yX3_drawnKw, Cond.selects RX3 yX3_drawnKw yX3_drawnKw, Cond.initialized RX3, Cond.code yX3_drawnKw cX3_drawnKw 4 (some .int), Cond.fieldLink RX3 48 "TunnelWatch$Tube" "fanCount" "I", Cond.fieldLink RX3 23 "TunnelWatch$Tube" "fans" "[LTunnelWatch$Fan;", Cond.methodLink RX3 126 yX1_drawnKw, Cond.instanceMethod yX1_drawnKw, Cond.selects RX1 yX1_drawnKw yX1_drawnKw, Cond.initialized RX1, Cond.code yX1_drawnKw cX1_drawnKw 2 (some .int), Cond.fieldLink RX1 22 "TunnelWatch$Fan" "command" "I", Cond.sameField "TunnelWatch$Fan" "TunnelWatch$Device" "command" "I", Cond.fieldLink RX1 25 "TunnelWatch$Fan" "sentTick" "I"]
def wsX4_shedLoad_r2 : List Cond := [Cond.sameField "TunnelWatch$Fan" "TunnelWatch$Device" "sentTick" "I", Cond.fieldLink RX1 36 "TunnelWatch$Fan" "kw" "I", Cond.methodLink RX4 231 yX3_stopLongestRun, Cond.instanceMethod yX3_stopLongestRun, Cond.selects RX3 yX3_stopLongestRun yX3_stopLongestRun, Cond.code yX3_stopLongestRun cX3_stopLongestRun 3 (some .boolean), Cond.methodLink RX3 132 yX3_longestRun, Cond.instanceMethod yX3_longestRun, Cond.selects RX3 yX3_longestRun yX3_longestRun, Cond.code yX3_longestRun cX3_longestRun 6 (some .int), Cond.fieldLink RX3 125 "TunnelWatch$Fan" "command" "I", Cond.fieldLink RX3 31 "TunnelWatch$Tube" "wantedDirection" "I", Cond.fieldLink RX3 142 "TunnelWatch$Fan" "runTicks" "I", Cond.methodLink RX3 136 yX3_stopAt, Cond.instanceMethod yX3_stopAt, Cond.selects RX3 yX3_stopAt yX3_stopAt, Cond.code yX3_stopAt cX3_stopAt 3 none, Cond.methodLink RX3 139 yX1_stand, Cond.instanceMethod yX1_stand, Cond.selects RX1 yX1_stand yX1_stand, Cond.code yX1_stand cX1_stand 2 none, Cond.methodLink RX1 9 ⟨"TunnelWatch$Fan", "send", "(II)V"⟩, Cond.sameMethod "TunnelWatch$Fan" "TunnelWatch$Device" "send" "(II)V", Cond.selects RX1 ⟨"TunnelWatch$Fan", "send", "(II)V"⟩ yX0_send]
def wsX4_shedLoad_r3 : List Cond := [Cond.instanceMethod yX0_send, Cond.initialized RX0, Cond.code yX0_send cX0_send 3 none, Cond.fieldLink RX0 13 "TunnelWatch$Device" "command" "I", Cond.fieldLink RX0 16 "TunnelWatch$Device" "sentTick" "I"]
def wsX4_shedLoad : List Cond := .code yX4_shedLoad cX4_shedLoad 4 none :: ((wsX4_shedLoad_r1 ++ (wsX4_shedLoad_r2 ++ wsX4_shedLoad_r3)) ++ wsX40 ++ wsX30 ++ wsX00 ++ wsX10)
def wsX4_starts : List Cond := .code yX4_starts cX4_starts 6 (some .int) :: ([.fieldLink RX4 36 "TunnelWatch" "startCounts" "[I"] ++ wsX40)
def wsX4_mayStart_r1 : List Cond := [Cond.fieldLink RX4 250 "TunnelWatch$Fan" "kw" "I", Cond.fieldLink RX4 21 "TunnelWatch" "feedLimit" "I", Cond.methodLink RX4 247 yX4_starts, Cond.instanceMethod yX4_starts, Cond.selects RX4 yX4_starts yX4_starts, Cond.initialized RX4, Cond.code yX4_starts cX4_starts 6 (some .int), Cond.fieldLink RX4 36 "TunnelWatch" "startCounts" "[I", Cond.methodLink RX4 228 yX4_load, Cond.instanceMethod yX4_load, Cond.selects RX4 yX4_load yX4_load, Cond.code yX4_load cX4_load 1 (some .int), Cond.fieldLink RX4 29 "TunnelWatch" "first" "LTunnelWatch$Tube;", Cond.fieldLink RX4 61 "TunnelWatch" "time" "I", Cond.fieldLink RX4 33 "TunnelWatch" "second" "LTunnelWatch$Tube;", Cond.methodLink RX4 178 yX3_drawnKw, Cond.instanceMethod yX3_drawnKw, Cond.selects RX3 yX3_drawnKw yX3_drawnKw, Cond.initialized RX3, Cond.code yX3_drawnKw cX3_drawnKw 4 (some .int), Cond.fieldLink RX3 48 "TunnelWatch$Tube" "fanCount" "I", Cond.fieldLink RX3 23 "TunnelWatch$Tube" "fans" "[LTunnelWatch$Fan;", Cond.methodLink RX3 126 yX1_drawnKw, Cond.instanceMethod yX1_drawnKw]
def wsX4_mayStart_r2 : List Cond := [Cond.selects RX1 yX1_drawnKw yX1_drawnKw, Cond.initialized RX1, Cond.code yX1_drawnKw cX1_drawnKw 2 (some .int), Cond.fieldLink RX1 22 "TunnelWatch$Fan" "command" "I", Cond.sameField "TunnelWatch$Fan" "TunnelWatch$Device" "command" "I", Cond.fieldLink RX1 25 "TunnelWatch$Fan" "sentTick" "I", Cond.sameField "TunnelWatch$Fan" "TunnelWatch$Device" "sentTick" "I", Cond.fieldLink RX1 36 "TunnelWatch$Fan" "kw" "I"]
def wsX4_mayStart : List Cond := .code yX4_mayStart cX4_mayStart 2 (some .boolean) :: ((wsX4_mayStart_r1 ++ wsX4_mayStart_r2) ++ wsX10 ++ wsX40 ++ wsX30 ++ wsX00)
def wsX4_startFan_r1 : List Cond := [Cond.fieldLink RX4 17 "TunnelWatch" "rest" "I", Cond.fieldLink RX4 61 "TunnelWatch" "time" "I", Cond.fieldLink RX4 184 "TunnelWatch" "unrestedStart" "Z", Cond.fieldLink RX4 36 "TunnelWatch" "startCounts" "[I", Cond.methodLink RX4 255 yX1_hasRested, Cond.instanceMethod yX1_hasRested, Cond.selects RX1 yX1_hasRested yX1_hasRested, Cond.initialized RX1, Cond.code yX1_hasRested cX1_hasRested 4 (some .boolean), Cond.fieldLink RX1 15 "TunnelWatch$Fan" "lastDirection" "I", Cond.methodLink RX1 39 yX1_restLeft, Cond.instanceMethod yX1_restLeft, Cond.selects RX1 yX1_restLeft yX1_restLeft, Cond.code yX1_restLeft cX1_restLeft 4 (some .int), Cond.fieldLink RX1 22 "TunnelWatch$Fan" "command" "I", Cond.sameField "TunnelWatch$Fan" "TunnelWatch$Device" "command" "I", Cond.fieldLink RX1 25 "TunnelWatch$Fan" "sentTick" "I", Cond.sameField "TunnelWatch$Fan" "TunnelWatch$Device" "sentTick" "I", Cond.methodLink RX4 258 yX1_blow, Cond.instanceMethod yX1_blow, Cond.selects RX1 yX1_blow yX1_blow, Cond.code yX1_blow cX1_blow 3 none, Cond.methodLink RX1 9 ⟨"TunnelWatch$Fan", "send", "(II)V"⟩, Cond.sameMethod "TunnelWatch$Fan" "TunnelWatch$Device" "send" "(II)V"]
def wsX4_startFan_r2 : List Cond := [Cond.selects RX1 ⟨"TunnelWatch$Fan", "send", "(II)V"⟩ yX0_send, Cond.instanceMethod yX0_send, Cond.initialized RX0, Cond.code yX0_send cX0_send 3 none, Cond.fieldLink RX0 13 "TunnelWatch$Device" "command" "I", Cond.fieldLink RX0 16 "TunnelWatch$Device" "sentTick" "I"]
def wsX4_startFan : List Cond := .code yX4_startFan cX4_startFan 3 none :: ((wsX4_startFan_r1 ++ wsX4_startFan_r2) ++ wsX40 ++ wsX10 ++ wsX00)
def wsX4_startFans_r1 : List Cond := [Cond.fieldLink RX4 149 "TunnelWatch$Tube" "wantedDirection" "I", Cond.fieldLink RX4 152 "TunnelWatch$Tube" "wantedFans" "I", Cond.fieldLink RX4 17 "TunnelWatch" "rest" "I", Cond.fieldLink RX4 61 "TunnelWatch" "time" "I", Cond.fieldLink RX4 158 "TunnelWatch$Tube" "fans" "[LTunnelWatch$Fan;", Cond.methodLink RX4 155 yX3_countBlowing, Cond.instanceMethod yX3_countBlowing, Cond.selects RX3 yX3_countBlowing yX3_countBlowing, Cond.initialized RX3, Cond.code yX3_countBlowing cX3_countBlowing 4 (some .int), Cond.fieldLink RX3 48 "TunnelWatch$Tube" "fanCount" "I", Cond.fieldLink RX3 23 "TunnelWatch$Tube" "fans" "[LTunnelWatch$Fan;", Cond.fieldLink RX3 125 "TunnelWatch$Fan" "command" "I", Cond.sameField "TunnelWatch$Fan" "TunnelWatch$Device" "command" "I", Cond.methodLink RX4 235 yX3_leastRunReady, Cond.instanceMethod yX3_leastRunReady, Cond.selects RX3 yX3_leastRunReady yX3_leastRunReady, Cond.code yX3_leastRunReady cX3_leastRunReady 5 (some .int), Cond.fieldLink RX3 142 "TunnelWatch$Fan" "runTicks" "I", Cond.methodLink RX3 145 yX3_isReady, Cond.instanceMethod yX3_isReady, Cond.selects RX3 yX3_isReady yX3_isReady, Cond.code yX3_isReady cX3_isReady 4 (some .boolean), Cond.fieldLink RX3 149 "TunnelWatch$Fan" "out" "Z"]
def wsX4_startFans_r2 : List Cond := [Cond.sameField "TunnelWatch$Fan" "TunnelWatch$Device" "out" "Z", Cond.fieldLink RX3 31 "TunnelWatch$Tube" "wantedDirection" "I", Cond.methodLink RX3 152 yX1_hasRested, Cond.instanceMethod yX1_hasRested, Cond.selects RX1 yX1_hasRested yX1_hasRested, Cond.initialized RX1, Cond.code yX1_hasRested cX1_hasRested 4 (some .boolean), Cond.fieldLink RX1 15 "TunnelWatch$Fan" "lastDirection" "I", Cond.methodLink RX1 39 yX1_restLeft, Cond.instanceMethod yX1_restLeft, Cond.selects RX1 yX1_restLeft yX1_restLeft, Cond.code yX1_restLeft cX1_restLeft 4 (some .int), Cond.fieldLink RX1 22 "TunnelWatch$Fan" "command" "I", Cond.fieldLink RX1 25 "TunnelWatch$Fan" "sentTick" "I", Cond.sameField "TunnelWatch$Fan" "TunnelWatch$Device" "sentTick" "I", Cond.methodLink RX4 239 yX4_mayStart, Cond.instanceMethod yX4_mayStart, Cond.selects RX4 yX4_mayStart yX4_mayStart, Cond.initialized RX4, Cond.code yX4_mayStart cX4_mayStart 2 (some .boolean), Cond.fieldLink RX4 250 "TunnelWatch$Fan" "kw" "I", Cond.fieldLink RX4 21 "TunnelWatch" "feedLimit" "I", Cond.methodLink RX4 247 yX4_starts, Cond.instanceMethod yX4_starts]
def wsX4_startFans_r3 : List Cond := [Cond.selects RX4 yX4_starts yX4_starts, Cond.code yX4_starts cX4_starts 6 (some .int), Cond.fieldLink RX4 36 "TunnelWatch" "startCounts" "[I", Cond.methodLink RX4 228 yX4_load, Cond.instanceMethod yX4_load, Cond.selects RX4 yX4_load yX4_load, Cond.code yX4_load cX4_load 1 (some .int), Cond.fieldLink RX4 29 "TunnelWatch" "first" "LTunnelWatch$Tube;", Cond.fieldLink RX4 33 "TunnelWatch" "second" "LTunnelWatch$Tube;", Cond.methodLink RX4 178 yX3_drawnKw, Cond.instanceMethod yX3_drawnKw, Cond.selects RX3 yX3_drawnKw yX3_drawnKw, Cond.code yX3_drawnKw cX3_drawnKw 4 (some .int), Cond.methodLink RX3 126 yX1_drawnKw, Cond.instanceMethod yX1_drawnKw, Cond.selects RX1 yX1_drawnKw yX1_drawnKw, Cond.code yX1_drawnKw cX1_drawnKw 2 (some .int), Cond.fieldLink RX1 36 "TunnelWatch$Fan" "kw" "I", Cond.methodLink RX4 243 yX4_startFan, Cond.instanceMethod yX4_startFan, Cond.selects RX4 yX4_startFan yX4_startFan, Cond.code yX4_startFan cX4_startFan 3 none, Cond.fieldLink RX4 184 "TunnelWatch" "unrestedStart" "Z", Cond.methodLink RX4 255 yX1_hasRested]
def wsX4_startFans_r4 : List Cond := [Cond.methodLink RX4 258 yX1_blow, Cond.instanceMethod yX1_blow, Cond.selects RX1 yX1_blow yX1_blow, Cond.code yX1_blow cX1_blow 3 none, Cond.methodLink RX1 9 ⟨"TunnelWatch$Fan", "send", "(II)V"⟩, Cond.sameMethod "TunnelWatch$Fan" "TunnelWatch$Device" "send" "(II)V", Cond.selects RX1 ⟨"TunnelWatch$Fan", "send", "(II)V"⟩ yX0_send, Cond.instanceMethod yX0_send, Cond.initialized RX0, Cond.code yX0_send cX0_send 3 none, Cond.fieldLink RX0 13 "TunnelWatch$Device" "command" "I", Cond.fieldLink RX0 16 "TunnelWatch$Device" "sentTick" "I"]
def wsX4_startFans : List Cond := .code yX4_startFans cX4_startFans 6 (some .boolean) :: ((wsX4_startFans_r1 ++ (wsX4_startFans_r2 ++ (wsX4_startFans_r3 ++ wsX4_startFans_r4))) ++ wsX30 ++ wsX40 ++ wsX00 ++ wsX10)
def wsX4_isBroken_r1 : List Cond := [Cond.fieldLink RX4 21 "TunnelWatch" "feedLimit" "I", Cond.fieldLink RX4 184 "TunnelWatch" "unrestedStart" "Z", Cond.fieldLink RX4 29 "TunnelWatch" "first" "LTunnelWatch$Tube;", Cond.fieldLink RX4 61 "TunnelWatch" "time" "I", Cond.fieldLink RX4 33 "TunnelWatch" "second" "LTunnelWatch$Tube;", Cond.methodLink RX4 228 yX4_load, Cond.instanceMethod yX4_load, Cond.selects RX4 yX4_load yX4_load, Cond.initialized RX4, Cond.code yX4_load cX4_load 1 (some .int), Cond.methodLink RX4 178 yX3_drawnKw, Cond.instanceMethod yX3_drawnKw, Cond.selects RX3 yX3_drawnKw yX3_drawnKw, Cond.initialized RX3, Cond.code yX3_drawnKw cX3_drawnKw 4 (some .int), Cond.fieldLink RX3 48 "TunnelWatch$Tube" "fanCount" "I", Cond.fieldLink RX3 23 "TunnelWatch$Tube" "fans" "[LTunnelWatch$Fan;", Cond.methodLink RX3 126 yX1_drawnKw, Cond.instanceMethod yX1_drawnKw, Cond.selects RX1 yX1_drawnKw yX1_drawnKw, Cond.initialized RX1, Cond.code yX1_drawnKw cX1_drawnKw 2 (some .int), Cond.fieldLink RX1 22 "TunnelWatch$Fan" "command" "I", Cond.sameField "TunnelWatch$Fan" "TunnelWatch$Device" "command" "I"]
def wsX4_isBroken_r2 : List Cond := [Cond.fieldLink RX1 25 "TunnelWatch$Fan" "sentTick" "I", Cond.sameField "TunnelWatch$Fan" "TunnelWatch$Device" "sentTick" "I", Cond.fieldLink RX1 36 "TunnelWatch$Fan" "kw" "I", Cond.methodLink RX4 247 yX4_starts, Cond.instanceMethod yX4_starts, Cond.selects RX4 yX4_starts yX4_starts, Cond.code yX4_starts cX4_starts 6 (some .int), Cond.fieldLink RX4 36 "TunnelWatch" "startCounts" "[I", Cond.methodLink RX4 261 yX3_isUnsafe, Cond.instanceMethod yX3_isUnsafe, Cond.selects RX3 yX3_isUnsafe yX3_isUnsafe, Cond.code yX3_isUnsafe cX3_isUnsafe 6 (some .boolean), Cond.fieldLink RX3 18 "TunnelWatch$Tube" "barrier" "LTunnelWatch$Device;", Cond.fieldLink RX3 102 "TunnelWatch$Device" "command" "I", Cond.fieldLink RX3 118 "TunnelWatch$Device" "sentTick" "I", Cond.fieldLink RX3 12 "TunnelWatch$Tube" "signals" "LTunnelWatch$Device;", Cond.methodLink RX3 115 yX3_isHalted, Cond.instanceMethod yX3_isHalted, Cond.selects RX3 yX3_isHalted yX3_isHalted, Cond.code yX3_isHalted cX3_isHalted 2 (some .boolean), Cond.fieldLink RX3 105 "TunnelWatch$Device" "actual" "I", Cond.methodLink RX3 121 yX3_countBlowing, Cond.instanceMethod yX3_countBlowing, Cond.selects RX3 yX3_countBlowing yX3_countBlowing]
def wsX4_isBroken_r3 : List Cond := [Cond.code yX3_countBlowing cX3_countBlowing 4 (some .int), Cond.fieldLink RX3 125 "TunnelWatch$Fan" "command" "I"]
def wsX4_isBroken : List Cond := .code yX4_isBroken cX4_isBroken 1 (some .boolean) :: ((wsX4_isBroken_r1 ++ (wsX4_isBroken_r2 ++ wsX4_isBroken_r3)) ++ wsX40 ++ wsX30 ++ wsX00 ++ wsX10)
def wsX4_tick_r1 : List Cond := [Cond.fieldLink RX4 61 "TunnelWatch" "time" "I", Cond.fieldLink RX4 36 "TunnelWatch" "startCounts" "[I", Cond.fieldLink RX4 184 "TunnelWatch" "unrestedStart" "Z", Cond.fieldLink RX4 29 "TunnelWatch" "first" "LTunnelWatch$Tube;", Cond.fieldLink RX4 33 "TunnelWatch" "second" "LTunnelWatch$Tube;", Cond.fieldLink RX4 181 "TunnelWatch" "brokenTicks" "I", Cond.methodLink RX4 187 yX3_settleDevices, Cond.instanceMethod yX3_settleDevices, Cond.selects RX3 yX3_settleDevices yX3_settleDevices, Cond.initialized RX3, Cond.code yX3_settleDevices cX3_settleDevices 3 none, Cond.fieldLink RX3 12 "TunnelWatch$Tube" "signals" "LTunnelWatch$Device;", Cond.fieldLink RX3 18 "TunnelWatch$Tube" "barrier" "LTunnelWatch$Device;", Cond.fieldLink RX3 48 "TunnelWatch$Tube" "fanCount" "I", Cond.fieldLink RX3 23 "TunnelWatch$Tube" "fans" "[LTunnelWatch$Fan;", Cond.methodLink RX3 94 yX0_act, Cond.instanceMethod yX0_act, Cond.selects RX0 yX0_act yX0_act, Cond.initialized RX0, Cond.code yX0_act cX0_act 2 none, Cond.fieldLink RX0 19 "TunnelWatch$Device" "failed" "Z", Cond.fieldLink RX0 16 "TunnelWatch$Device" "sentTick" "I", Cond.fieldLink RX0 7 "TunnelWatch$Device" "lagTicks" "I", Cond.fieldLink RX0 13 "TunnelWatch$Device" "command" "I"]
def wsX4_tick_r2 : List Cond := [Cond.fieldLink RX0 23 "TunnelWatch$Device" "actual" "I", Cond.methodLink RX3 94 ⟨"TunnelWatch$Device", "act", "(I)V"⟩, Cond.sameMethod "TunnelWatch$Device" "TunnelWatch$Device" "act" "(I)V", Cond.selects RX1 ⟨"TunnelWatch$Device", "act", "(I)V"⟩ yX0_act, Cond.methodLink RX3 98 ⟨"TunnelWatch$Fan", "act", "(I)V"⟩, Cond.sameMethod "TunnelWatch$Fan" "TunnelWatch$Device" "act" "(I)V", Cond.selects RX1 ⟨"TunnelWatch$Fan", "act", "(I)V"⟩ yX0_act, Cond.methodLink RX3 99 yX1_judgeOut, Cond.instanceMethod yX1_judgeOut, Cond.selects RX1 yX1_judgeOut yX1_judgeOut, Cond.initialized RX1, Cond.code yX1_judgeOut cX1_judgeOut 2 none, Cond.fieldLink RX1 19 "TunnelWatch$Fan" "actual" "I", Cond.sameField "TunnelWatch$Fan" "TunnelWatch$Device" "actual" "I", Cond.fieldLink RX1 22 "TunnelWatch$Fan" "command" "I", Cond.sameField "TunnelWatch$Fan" "TunnelWatch$Device" "command" "I", Cond.fieldLink RX1 25 "TunnelWatch$Fan" "sentTick" "I", Cond.sameField "TunnelWatch$Fan" "TunnelWatch$Device" "sentTick" "I", Cond.fieldLink RX1 28 "TunnelWatch$Fan" "out" "Z", Cond.sameField "TunnelWatch$Fan" "TunnelWatch$Device" "out" "Z", Cond.methodLink RX1 32 yX1_stand, Cond.instanceMethod yX1_stand, Cond.selects RX1 yX1_stand yX1_stand, Cond.code yX1_stand cX1_stand 2 none]
def wsX4_tick_r3 : List Cond := [Cond.methodLink RX1 9 ⟨"TunnelWatch$Fan", "send", "(II)V"⟩, Cond.sameMethod "TunnelWatch$Fan" "TunnelWatch$Device" "send" "(II)V", Cond.selects RX1 ⟨"TunnelWatch$Fan", "send", "(II)V"⟩ yX0_send, Cond.instanceMethod yX0_send, Cond.code yX0_send cX0_send 3 none, Cond.methodLink RX4 190 yX3_judgeFire, Cond.instanceMethod yX3_judgeFire, Cond.selects RX3 yX3_judgeFire yX3_judgeFire, Cond.code yX3_judgeFire cX3_judgeFire 2 none, Cond.fieldLink RX3 34 "TunnelWatch$Tube" "status" "I", Cond.fieldLink RX3 42 "TunnelWatch$Tube" "sections" "[LTunnelWatch$Section;", Cond.fieldLink RX3 61 "TunnelWatch$Section" "rank" "I", Cond.fieldLink RX3 37 "TunnelWatch$Tube" "fireSection" "I", Cond.methodLink RX3 54 yX3_bestCandidate, Cond.instanceMethod yX3_bestCandidate, Cond.selects RX3 yX3_bestCandidate yX3_bestCandidate, Cond.code yX3_bestCandidate cX3_bestCandidate 5 (some .int), Cond.fieldLink RX3 73 "TunnelWatch$Section" "pulled" "Z", Cond.methodLink RX3 70 yX3_leastOfPair, Cond.instanceMethod yX3_leastOfPair, Cond.selects RX3 yX3_leastOfPair yX3_leastOfPair, Cond.code yX3_leastOfPair cX3_leastOfPair 2 (some .int), Cond.methodLink RX3 77 yX2_isOn, Cond.instanceMethod yX2_isOn]
def wsX4_tick_r4 : List Cond := [Cond.selects RX2 yX2_isOn yX2_isOn, Cond.initialized RX2, Cond.code yX2_isOn cX2_isOn 1 (some .boolean), Cond.fieldLink RX2 18 "TunnelWatch$Section" "value" "I", Cond.fieldLink RX2 21 "TunnelWatch$Section" "deaf" "Z", Cond.methodLink RX3 81 yX3_isOnCloseAbove, Cond.instanceMethod yX3_isOnCloseAbove, Cond.selects RX3 yX3_isOnCloseAbove yX3_isOnCloseAbove, Cond.code yX3_isOnCloseAbove cX3_isOnCloseAbove 4 (some .boolean), Cond.methodLink RX3 85 Lib.Math.min.name, Cond.static Lib.Math.min.name, Cond.initialized "java/lang/Math", Cond.code Lib.Math.min.name Lib.Math.min.code 2 (some .int), Cond.methodLink RX3 58 yX3_judgeSuspicion, Cond.instanceMethod yX3_judgeSuspicion, Cond.selects RX3 yX3_judgeSuspicion yX3_judgeSuspicion, Cond.code yX3_judgeSuspicion cX3_judgeSuspicion 1 none, Cond.methodLink RX3 67 yX3_leastOn, Cond.instanceMethod yX3_leastOn, Cond.selects RX3 yX3_leastOn yX3_leastOn, Cond.code yX3_leastOn cX3_leastOn 2 (some .int), Cond.methodLink RX3 64 yX3_fireRank, Cond.instanceMethod yX3_fireRank, Cond.selects RX3 yX3_fireRank yX3_fireRank]
def wsX4_tick_r5 : List Cond := [Cond.code yX3_fireRank cX3_fireRank 1 (some .int), Cond.methodLink RX4 193 yX4_tubeThatCounts, Cond.instanceMethod yX4_tubeThatCounts, Cond.selects RX4 yX4_tubeThatCounts yX4_tubeThatCounts, Cond.initialized RX4, Cond.code yX4_tubeThatCounts cX4_tubeThatCounts 3 (some .int), Cond.fieldLink RX4 143 "TunnelWatch$Tube" "status" "I", Cond.methodLink RX4 222 yX3_fireRank, Cond.methodLink RX4 197 yX4_wantFans, Cond.static yX4_wantFans, Cond.code yX4_wantFans cX4_wantFans 5 none, Cond.fieldLink RX4 146 "TunnelWatch$Tube" "fireSection" "I", Cond.fieldLink RX4 125 "TunnelWatch$Tube" "wishedDirection" "I", Cond.fieldLink RX4 128 "TunnelWatch$Tube" "wishedFans" "I", Cond.fieldLink RX4 84 "TunnelWatch$Tube" "sections" "[LTunnelWatch$Section;", Cond.fieldLink RX4 96 "TunnelWatch$Section" "ownDirection" "I", Cond.fieldLink RX4 99 "TunnelWatch$Section" "ownFans" "I", Cond.fieldLink RX4 105 "TunnelWatch$Section" "otherDirection" "I", Cond.fieldLink RX4 102 "TunnelWatch$Section" "otherFans" "I", Cond.methodLink RX4 225 yX3_want, Cond.instanceMethod yX3_want, Cond.selects RX3 yX3_want yX3_want, Cond.code yX3_want cX3_want 3 none, Cond.fieldLink RX3 31 "TunnelWatch$Tube" "wantedDirection" "I"]
def wsX4_tick_r6 : List Cond := [Cond.fieldLink RX3 91 "TunnelWatch$Tube" "wantedFans" "I", Cond.methodLink RX4 201 yX3_commandTraffic, Cond.instanceMethod yX3_commandTraffic, Cond.selects RX3 yX3_commandTraffic yX3_commandTraffic, Cond.code yX3_commandTraffic cX3_commandTraffic 6 none, Cond.fieldLink RX3 102 "TunnelWatch$Device" "command" "I", Cond.fieldLink RX3 105 "TunnelWatch$Device" "actual" "I", Cond.fieldLink RX3 108 "TunnelWatch$Tube" "stopOrdered" "Z", Cond.methodLink RX3 111 yX0_send, Cond.selects RX0 yX0_send yX0_send, Cond.methodLink RX3 111 ⟨"TunnelWatch$Device", "send", "(II)V"⟩, Cond.sameMethod "TunnelWatch$Device" "TunnelWatch$Device" "send" "(II)V", Cond.selects RX1 ⟨"TunnelWatch$Device", "send", "(II)V"⟩ yX0_send, Cond.methodLink RX3 115 yX3_isHalted, Cond.instanceMethod yX3_isHalted, Cond.selects RX3 yX3_isHalted yX3_isHalted, Cond.code yX3_isHalted cX3_isHalted 2 (some .boolean), Cond.fieldLink RX3 118 "TunnelWatch$Device" "sentTick" "I", Cond.methodLink RX4 205 yX3_stopFans, Cond.instanceMethod yX3_stopFans, Cond.selects RX3 yX3_stopFans yX3_stopFans, Cond.code yX3_stopFans cX3_stopFans 5 none, Cond.methodLink RX3 129 yX3_stopBlowingAgainst, Cond.instanceMethod yX3_stopBlowingAgainst]
def wsX4_tick_r7 : List Cond := [Cond.selects RX3 yX3_stopBlowingAgainst yX3_stopBlowingAgainst, Cond.code yX3_stopBlowingAgainst cX3_stopBlowingAgainst 3 none, Cond.fieldLink RX3 125 "TunnelWatch$Fan" "command" "I", Cond.methodLink RX3 139 yX1_stand, Cond.methodLink RX3 121 yX3_countBlowing, Cond.instanceMethod yX3_countBlowing, Cond.selects RX3 yX3_countBlowing yX3_countBlowing, Cond.code yX3_countBlowing cX3_countBlowing 4 (some .int), Cond.methodLink RX3 132 yX3_longestRun, Cond.instanceMethod yX3_longestRun, Cond.selects RX3 yX3_longestRun yX3_longestRun, Cond.code yX3_longestRun cX3_longestRun 6 (some .int), Cond.fieldLink RX3 142 "TunnelWatch$Fan" "runTicks" "I", Cond.methodLink RX3 136 yX3_stopAt, Cond.instanceMethod yX3_stopAt, Cond.selects RX3 yX3_stopAt yX3_stopAt, Cond.code yX3_stopAt cX3_stopAt 3 none, Cond.methodLink RX4 208 yX4_shedLoad, Cond.instanceMethod yX4_shedLoad, Cond.selects RX4 yX4_shedLoad yX4_shedLoad, Cond.code yX4_shedLoad cX4_shedLoad 4 none, Cond.fieldLink RX4 21 "TunnelWatch" "feedLimit" "I", Cond.methodLink RX4 228 yX4_load, Cond.instanceMethod yX4_load]
def wsX4_tick_r8 : List Cond := [Cond.selects RX4 yX4_load yX4_load, Cond.code yX4_load cX4_load 1 (some .int), Cond.methodLink RX4 178 yX3_drawnKw, Cond.instanceMethod yX3_drawnKw, Cond.selects RX3 yX3_drawnKw yX3_drawnKw, Cond.code yX3_drawnKw cX3_drawnKw 4 (some .int), Cond.methodLink RX3 126 yX1_drawnKw, Cond.instanceMethod yX1_drawnKw, Cond.selects RX1 yX1_drawnKw yX1_drawnKw, Cond.code yX1_drawnKw cX1_drawnKw 2 (some .int), Cond.fieldLink RX1 36 "TunnelWatch$Fan" "kw" "I", Cond.methodLink RX4 231 yX3_stopLongestRun, Cond.instanceMethod yX3_stopLongestRun, Cond.selects RX3 yX3_stopLongestRun yX3_stopLongestRun, Cond.code yX3_stopLongestRun cX3_stopLongestRun 3 (some .boolean), Cond.methodLink RX4 212 yX4_startFans, Cond.instanceMethod yX4_startFans, Cond.selects RX4 yX4_startFans yX4_startFans, Cond.code yX4_startFans cX4_startFans 6 (some .boolean), Cond.fieldLink RX4 149 "TunnelWatch$Tube" "wantedDirection" "I", Cond.fieldLink RX4 152 "TunnelWatch$Tube" "wantedFans" "I", Cond.fieldLink RX4 17 "TunnelWatch" "rest" "I", Cond.fieldLink RX4 158 "TunnelWatch$Tube" "fans" "[LTunnelWatch$Fan;", Cond.methodLink RX4 155 yX3_countBlowing]
def wsX4_tick_r9 : List Cond := [Cond.methodLink RX4 235 yX3_leastRunReady, Cond.instanceMethod yX3_leastRunReady, Cond.selects RX3 yX3_leastRunReady yX3_leastRunReady, Cond.code yX3_leastRunReady cX3_leastRunReady 5 (some .int), Cond.methodLink RX3 145 yX3_isReady, Cond.instanceMethod yX3_isReady, Cond.selects RX3 yX3_isReady yX3_isReady, Cond.code yX3_isReady cX3_isReady 4 (some .boolean), Cond.fieldLink RX3 149 "TunnelWatch$Fan" "out" "Z", Cond.methodLink RX3 152 yX1_hasRested, Cond.instanceMethod yX1_hasRested, Cond.selects RX1 yX1_hasRested yX1_hasRested, Cond.code yX1_hasRested cX1_hasRested 4 (some .boolean), Cond.fieldLink RX1 15 "TunnelWatch$Fan" "lastDirection" "I", Cond.methodLink RX1 39 yX1_restLeft, Cond.instanceMethod yX1_restLeft, Cond.selects RX1 yX1_restLeft yX1_restLeft, Cond.code yX1_restLeft cX1_restLeft 4 (some .int), Cond.methodLink RX4 239 yX4_mayStart, Cond.instanceMethod yX4_mayStart, Cond.selects RX4 yX4_mayStart yX4_mayStart, Cond.code yX4_mayStart cX4_mayStart 2 (some .boolean), Cond.fieldLink RX4 250 "TunnelWatch$Fan" "kw" "I", Cond.methodLink RX4 247 yX4_starts]
def wsX4_tick_r10 : List Cond := [Cond.instanceMethod yX4_starts, Cond.selects RX4 yX4_starts yX4_starts, Cond.code yX4_starts cX4_starts 6 (some .int), Cond.methodLink RX4 243 yX4_startFan, Cond.instanceMethod yX4_startFan, Cond.selects RX4 yX4_startFan yX4_startFan, Cond.code yX4_startFan cX4_startFan 3 none, Cond.methodLink RX4 255 yX1_hasRested, Cond.methodLink RX4 258 yX1_blow, Cond.instanceMethod yX1_blow, Cond.selects RX1 yX1_blow yX1_blow, Cond.code yX1_blow cX1_blow 3 none, Cond.methodLink RX4 216 yX3_countRun, Cond.instanceMethod yX3_countRun, Cond.selects RX3 yX3_countRun yX3_countRun, Cond.code yX3_countRun cX3_countRun 2 none, Cond.methodLink RX4 219 yX4_isBroken, Cond.instanceMethod yX4_isBroken, Cond.selects RX4 yX4_isBroken yX4_isBroken, Cond.code yX4_isBroken cX4_isBroken 1 (some .boolean), Cond.methodLink RX4 261 yX3_isUnsafe, Cond.instanceMethod yX3_isUnsafe, Cond.selects RX3 yX3_isUnsafe yX3_isUnsafe, Cond.code yX3_isUnsafe cX3_isUnsafe 6 (some .boolean)]
def wsX4_tick : List Cond := .code yX4_tick cX4_tick 5 none :: ((wsX4_tick_r1 ++ (wsX4_tick_r2 ++ (wsX4_tick_r3 ++ (wsX4_tick_r4 ++ (wsX4_tick_r5 ++ (wsX4_tick_r6 ++ (wsX4_tick_r7 ++ (wsX4_tick_r8 ++ (wsX4_tick_r9 ++ wsX4_tick_r10))))))))) ++ wsX40 ++ wsX30 ++ wsX00 ++ wsX10 ++ wsX20)
def wsX4_ticks_r1 : List Cond := [Cond.fieldLink RX4 61 "TunnelWatch" "time" "I", Cond.methodLink RX4 43 yX4_isWithin, Cond.static yX4_isWithin, Cond.initialized RX4, Cond.code yX4_isWithin cX4_isWithin 3 (some .boolean), Cond.methodLink RX4 47 yX4_need, Cond.static yX4_need, Cond.code yX4_need cX4_need 1 none, Cond.classLink RX4 278 "java/lang/IllegalArgumentException", Cond.initialized "java/lang/IllegalArgumentException", Cond.methodLink RX4 58 yX4_needState, Cond.static yX4_needState, Cond.code yX4_needState cX4_needState 1 none, Cond.classLink RX4 281 "java/lang/IllegalStateException", Cond.initialized "java/lang/IllegalStateException", Cond.methodLink RX4 140 yX4_tick, Cond.instanceMethod yX4_tick, Cond.selects RX4 yX4_tick yX4_tick, Cond.code yX4_tick cX4_tick 5 none, Cond.fieldLink RX4 36 "TunnelWatch" "startCounts" "[I", Cond.fieldLink RX4 184 "TunnelWatch" "unrestedStart" "Z", Cond.fieldLink RX4 29 "TunnelWatch" "first" "LTunnelWatch$Tube;", Cond.fieldLink RX4 33 "TunnelWatch" "second" "LTunnelWatch$Tube;", Cond.fieldLink RX4 181 "TunnelWatch" "brokenTicks" "I"]
def wsX4_ticks_r2 : List Cond := [Cond.methodLink RX4 187 yX3_settleDevices, Cond.instanceMethod yX3_settleDevices, Cond.selects RX3 yX3_settleDevices yX3_settleDevices, Cond.initialized RX3, Cond.code yX3_settleDevices cX3_settleDevices 3 none, Cond.fieldLink RX3 12 "TunnelWatch$Tube" "signals" "LTunnelWatch$Device;", Cond.fieldLink RX3 18 "TunnelWatch$Tube" "barrier" "LTunnelWatch$Device;", Cond.fieldLink RX3 48 "TunnelWatch$Tube" "fanCount" "I", Cond.fieldLink RX3 23 "TunnelWatch$Tube" "fans" "[LTunnelWatch$Fan;", Cond.methodLink RX3 94 yX0_act, Cond.instanceMethod yX0_act, Cond.selects RX0 yX0_act yX0_act, Cond.initialized RX0, Cond.code yX0_act cX0_act 2 none, Cond.fieldLink RX0 19 "TunnelWatch$Device" "failed" "Z", Cond.fieldLink RX0 16 "TunnelWatch$Device" "sentTick" "I", Cond.fieldLink RX0 7 "TunnelWatch$Device" "lagTicks" "I", Cond.fieldLink RX0 13 "TunnelWatch$Device" "command" "I", Cond.fieldLink RX0 23 "TunnelWatch$Device" "actual" "I", Cond.methodLink RX3 94 ⟨"TunnelWatch$Device", "act", "(I)V"⟩, Cond.sameMethod "TunnelWatch$Device" "TunnelWatch$Device" "act" "(I)V", Cond.selects RX1 ⟨"TunnelWatch$Device", "act", "(I)V"⟩ yX0_act, Cond.methodLink RX3 98 ⟨"TunnelWatch$Fan", "act", "(I)V"⟩, Cond.sameMethod "TunnelWatch$Fan" "TunnelWatch$Device" "act" "(I)V"]
def wsX4_ticks_r3 : List Cond := [Cond.selects RX1 ⟨"TunnelWatch$Fan", "act", "(I)V"⟩ yX0_act, Cond.methodLink RX3 99 yX1_judgeOut, Cond.instanceMethod yX1_judgeOut, Cond.selects RX1 yX1_judgeOut yX1_judgeOut, Cond.initialized RX1, Cond.code yX1_judgeOut cX1_judgeOut 2 none, Cond.fieldLink RX1 19 "TunnelWatch$Fan" "actual" "I", Cond.sameField "TunnelWatch$Fan" "TunnelWatch$Device" "actual" "I", Cond.fieldLink RX1 22 "TunnelWatch$Fan" "command" "I", Cond.sameField "TunnelWatch$Fan" "TunnelWatch$Device" "command" "I", Cond.fieldLink RX1 25 "TunnelWatch$Fan" "sentTick" "I", Cond.sameField "TunnelWatch$Fan" "TunnelWatch$Device" "sentTick" "I", Cond.fieldLink RX1 28 "TunnelWatch$Fan" "out" "Z", Cond.sameField "TunnelWatch$Fan" "TunnelWatch$Device" "out" "Z", Cond.methodLink RX1 32 yX1_stand, Cond.instanceMethod yX1_stand, Cond.selects RX1 yX1_stand yX1_stand, Cond.code yX1_stand cX1_stand 2 none, Cond.methodLink RX1 9 ⟨"TunnelWatch$Fan", "send", "(II)V"⟩, Cond.sameMethod "TunnelWatch$Fan" "TunnelWatch$Device" "send" "(II)V", Cond.selects RX1 ⟨"TunnelWatch$Fan", "send", "(II)V"⟩ yX0_send, Cond.instanceMethod yX0_send, Cond.code yX0_send cX0_send 3 none, Cond.methodLink RX4 190 yX3_judgeFire]
def wsX4_ticks_r4 : List Cond := [Cond.instanceMethod yX3_judgeFire, Cond.selects RX3 yX3_judgeFire yX3_judgeFire, Cond.code yX3_judgeFire cX3_judgeFire 2 none, Cond.fieldLink RX3 34 "TunnelWatch$Tube" "status" "I", Cond.fieldLink RX3 42 "TunnelWatch$Tube" "sections" "[LTunnelWatch$Section;", Cond.fieldLink RX3 61 "TunnelWatch$Section" "rank" "I", Cond.fieldLink RX3 37 "TunnelWatch$Tube" "fireSection" "I", Cond.methodLink RX3 54 yX3_bestCandidate, Cond.instanceMethod yX3_bestCandidate, Cond.selects RX3 yX3_bestCandidate yX3_bestCandidate, Cond.code yX3_bestCandidate cX3_bestCandidate 5 (some .int), Cond.fieldLink RX3 73 "TunnelWatch$Section" "pulled" "Z", Cond.methodLink RX3 70 yX3_leastOfPair, Cond.instanceMethod yX3_leastOfPair, Cond.selects RX3 yX3_leastOfPair yX3_leastOfPair, Cond.code yX3_leastOfPair cX3_leastOfPair 2 (some .int), Cond.methodLink RX3 77 yX2_isOn, Cond.instanceMethod yX2_isOn, Cond.selects RX2 yX2_isOn yX2_isOn, Cond.initialized RX2, Cond.code yX2_isOn cX2_isOn 1 (some .boolean), Cond.fieldLink RX2 18 "TunnelWatch$Section" "value" "I", Cond.fieldLink RX2 21 "TunnelWatch$Section" "deaf" "Z", Cond.methodLink RX3 81 yX3_isOnCloseAbove]
def wsX4_ticks_r5 : List Cond := [Cond.instanceMethod yX3_isOnCloseAbove, Cond.selects RX3 yX3_isOnCloseAbove yX3_isOnCloseAbove, Cond.code yX3_isOnCloseAbove cX3_isOnCloseAbove 4 (some .boolean), Cond.methodLink RX3 85 Lib.Math.min.name, Cond.static Lib.Math.min.name, Cond.initialized "java/lang/Math", Cond.code Lib.Math.min.name Lib.Math.min.code 2 (some .int), Cond.methodLink RX3 58 yX3_judgeSuspicion, Cond.instanceMethod yX3_judgeSuspicion, Cond.selects RX3 yX3_judgeSuspicion yX3_judgeSuspicion, Cond.code yX3_judgeSuspicion cX3_judgeSuspicion 1 none, Cond.methodLink RX3 67 yX3_leastOn, Cond.instanceMethod yX3_leastOn, Cond.selects RX3 yX3_leastOn yX3_leastOn, Cond.code yX3_leastOn cX3_leastOn 2 (some .int), Cond.methodLink RX3 64 yX3_fireRank, Cond.instanceMethod yX3_fireRank, Cond.selects RX3 yX3_fireRank yX3_fireRank, Cond.code yX3_fireRank cX3_fireRank 1 (some .int), Cond.methodLink RX4 193 yX4_tubeThatCounts, Cond.instanceMethod yX4_tubeThatCounts, Cond.selects RX4 yX4_tubeThatCounts yX4_tubeThatCounts, Cond.code yX4_tubeThatCounts cX4_tubeThatCounts 3 (some .int), Cond.fieldLink RX4 143 "TunnelWatch$Tube" "status" "I"]
def wsX4_ticks_r6 : List Cond := [Cond.methodLink RX4 222 yX3_fireRank, Cond.methodLink RX4 197 yX4_wantFans, Cond.static yX4_wantFans, Cond.code yX4_wantFans cX4_wantFans 5 none, Cond.fieldLink RX4 146 "TunnelWatch$Tube" "fireSection" "I", Cond.fieldLink RX4 125 "TunnelWatch$Tube" "wishedDirection" "I", Cond.fieldLink RX4 128 "TunnelWatch$Tube" "wishedFans" "I", Cond.fieldLink RX4 84 "TunnelWatch$Tube" "sections" "[LTunnelWatch$Section;", Cond.fieldLink RX4 96 "TunnelWatch$Section" "ownDirection" "I", Cond.fieldLink RX4 99 "TunnelWatch$Section" "ownFans" "I", Cond.fieldLink RX4 105 "TunnelWatch$Section" "otherDirection" "I", Cond.fieldLink RX4 102 "TunnelWatch$Section" "otherFans" "I", Cond.methodLink RX4 225 yX3_want, Cond.instanceMethod yX3_want, Cond.selects RX3 yX3_want yX3_want, Cond.code yX3_want cX3_want 3 none, Cond.fieldLink RX3 31 "TunnelWatch$Tube" "wantedDirection" "I", Cond.fieldLink RX3 91 "TunnelWatch$Tube" "wantedFans" "I", Cond.methodLink RX4 201 yX3_commandTraffic, Cond.instanceMethod yX3_commandTraffic, Cond.selects RX3 yX3_commandTraffic yX3_commandTraffic, Cond.code yX3_commandTraffic cX3_commandTraffic 6 none, Cond.fieldLink RX3 102 "TunnelWatch$Device" "command" "I", Cond.fieldLink RX3 105 "TunnelWatch$Device" "actual" "I"]
def wsX4_ticks_r7 : List Cond := [Cond.fieldLink RX3 108 "TunnelWatch$Tube" "stopOrdered" "Z", Cond.methodLink RX3 111 yX0_send, Cond.selects RX0 yX0_send yX0_send, Cond.methodLink RX3 111 ⟨"TunnelWatch$Device", "send", "(II)V"⟩, Cond.sameMethod "TunnelWatch$Device" "TunnelWatch$Device" "send" "(II)V", Cond.selects RX1 ⟨"TunnelWatch$Device", "send", "(II)V"⟩ yX0_send, Cond.methodLink RX3 115 yX3_isHalted, Cond.instanceMethod yX3_isHalted, Cond.selects RX3 yX3_isHalted yX3_isHalted, Cond.code yX3_isHalted cX3_isHalted 2 (some .boolean), Cond.fieldLink RX3 118 "TunnelWatch$Device" "sentTick" "I", Cond.methodLink RX4 205 yX3_stopFans, Cond.instanceMethod yX3_stopFans, Cond.selects RX3 yX3_stopFans yX3_stopFans, Cond.code yX3_stopFans cX3_stopFans 5 none, Cond.methodLink RX3 129 yX3_stopBlowingAgainst, Cond.instanceMethod yX3_stopBlowingAgainst, Cond.selects RX3 yX3_stopBlowingAgainst yX3_stopBlowingAgainst, Cond.code yX3_stopBlowingAgainst cX3_stopBlowingAgainst 3 none, Cond.fieldLink RX3 125 "TunnelWatch$Fan" "command" "I", Cond.methodLink RX3 139 yX1_stand, Cond.methodLink RX3 121 yX3_countBlowing, Cond.instanceMethod yX3_countBlowing, Cond.selects RX3 yX3_countBlowing yX3_countBlowing]
def wsX4_ticks_r8 : List Cond := [Cond.code yX3_countBlowing cX3_countBlowing 4 (some .int), Cond.methodLink RX3 132 yX3_longestRun, Cond.instanceMethod yX3_longestRun, Cond.selects RX3 yX3_longestRun yX3_longestRun, Cond.code yX3_longestRun cX3_longestRun 6 (some .int), Cond.fieldLink RX3 142 "TunnelWatch$Fan" "runTicks" "I", Cond.methodLink RX3 136 yX3_stopAt, Cond.instanceMethod yX3_stopAt, Cond.selects RX3 yX3_stopAt yX3_stopAt, Cond.code yX3_stopAt cX3_stopAt 3 none, Cond.methodLink RX4 208 yX4_shedLoad, Cond.instanceMethod yX4_shedLoad, Cond.selects RX4 yX4_shedLoad yX4_shedLoad, Cond.code yX4_shedLoad cX4_shedLoad 4 none, Cond.fieldLink RX4 21 "TunnelWatch" "feedLimit" "I", Cond.methodLink RX4 228 yX4_load, Cond.instanceMethod yX4_load, Cond.selects RX4 yX4_load yX4_load, Cond.code yX4_load cX4_load 1 (some .int), Cond.methodLink RX4 178 yX3_drawnKw, Cond.instanceMethod yX3_drawnKw, Cond.selects RX3 yX3_drawnKw yX3_drawnKw, Cond.code yX3_drawnKw cX3_drawnKw 4 (some .int), Cond.methodLink RX3 126 yX1_drawnKw]
def wsX4_ticks_r9 : List Cond := [Cond.instanceMethod yX1_drawnKw, Cond.selects RX1 yX1_drawnKw yX1_drawnKw, Cond.code yX1_drawnKw cX1_drawnKw 2 (some .int), Cond.fieldLink RX1 36 "TunnelWatch$Fan" "kw" "I", Cond.methodLink RX4 231 yX3_stopLongestRun, Cond.instanceMethod yX3_stopLongestRun, Cond.selects RX3 yX3_stopLongestRun yX3_stopLongestRun, Cond.code yX3_stopLongestRun cX3_stopLongestRun 3 (some .boolean), Cond.methodLink RX4 212 yX4_startFans, Cond.instanceMethod yX4_startFans, Cond.selects RX4 yX4_startFans yX4_startFans, Cond.code yX4_startFans cX4_startFans 6 (some .boolean), Cond.fieldLink RX4 149 "TunnelWatch$Tube" "wantedDirection" "I", Cond.fieldLink RX4 152 "TunnelWatch$Tube" "wantedFans" "I", Cond.fieldLink RX4 17 "TunnelWatch" "rest" "I", Cond.fieldLink RX4 158 "TunnelWatch$Tube" "fans" "[LTunnelWatch$Fan;", Cond.methodLink RX4 155 yX3_countBlowing, Cond.methodLink RX4 235 yX3_leastRunReady, Cond.instanceMethod yX3_leastRunReady, Cond.selects RX3 yX3_leastRunReady yX3_leastRunReady, Cond.code yX3_leastRunReady cX3_leastRunReady 5 (some .int), Cond.methodLink RX3 145 yX3_isReady, Cond.instanceMethod yX3_isReady, Cond.selects RX3 yX3_isReady yX3_isReady]
def wsX4_ticks_r10 : List Cond := [Cond.code yX3_isReady cX3_isReady 4 (some .boolean), Cond.fieldLink RX3 149 "TunnelWatch$Fan" "out" "Z", Cond.methodLink RX3 152 yX1_hasRested, Cond.instanceMethod yX1_hasRested, Cond.selects RX1 yX1_hasRested yX1_hasRested, Cond.code yX1_hasRested cX1_hasRested 4 (some .boolean), Cond.fieldLink RX1 15 "TunnelWatch$Fan" "lastDirection" "I", Cond.methodLink RX1 39 yX1_restLeft, Cond.instanceMethod yX1_restLeft, Cond.selects RX1 yX1_restLeft yX1_restLeft, Cond.code yX1_restLeft cX1_restLeft 4 (some .int), Cond.methodLink RX4 239 yX4_mayStart, Cond.instanceMethod yX4_mayStart, Cond.selects RX4 yX4_mayStart yX4_mayStart, Cond.code yX4_mayStart cX4_mayStart 2 (some .boolean), Cond.fieldLink RX4 250 "TunnelWatch$Fan" "kw" "I", Cond.methodLink RX4 247 yX4_starts, Cond.instanceMethod yX4_starts, Cond.selects RX4 yX4_starts yX4_starts, Cond.code yX4_starts cX4_starts 6 (some .int), Cond.methodLink RX4 243 yX4_startFan, Cond.instanceMethod yX4_startFan, Cond.selects RX4 yX4_startFan yX4_startFan, Cond.code yX4_startFan cX4_startFan 3 none]
def wsX4_ticks_r11 : List Cond := [Cond.methodLink RX4 255 yX1_hasRested, Cond.methodLink RX4 258 yX1_blow, Cond.instanceMethod yX1_blow, Cond.selects RX1 yX1_blow yX1_blow, Cond.code yX1_blow cX1_blow 3 none, Cond.methodLink RX4 216 yX3_countRun, Cond.instanceMethod yX3_countRun, Cond.selects RX3 yX3_countRun yX3_countRun, Cond.code yX3_countRun cX3_countRun 2 none, Cond.methodLink RX4 219 yX4_isBroken, Cond.instanceMethod yX4_isBroken, Cond.selects RX4 yX4_isBroken yX4_isBroken, Cond.code yX4_isBroken cX4_isBroken 1 (some .boolean), Cond.methodLink RX4 261 yX3_isUnsafe, Cond.instanceMethod yX3_isUnsafe, Cond.selects RX3 yX3_isUnsafe yX3_isUnsafe, Cond.code yX3_isUnsafe cX3_isUnsafe 6 (some .boolean)]
def wsX4_ticks : List Cond := .code yX4_ticks cX4_ticks 3 (some .int) :: ((wsX4_ticks_r1 ++ (wsX4_ticks_r2 ++ (wsX4_ticks_r3 ++ (wsX4_ticks_r4 ++ (wsX4_ticks_r5 ++ (wsX4_ticks_r6 ++ (wsX4_ticks_r7 ++ (wsX4_ticks_r8 ++ (wsX4_ticks_r9 ++ (wsX4_ticks_r10 ++ wsX4_ticks_r11)))))))))) ++ wsX40 ++ wsX30 ++ wsX00 ++ wsX10 ++ wsX20 ++ (vx_at0 RX4 280 "java/lang/IllegalArgumentException" ["java/lang/RuntimeException", "java/lang/Exception"]).filter goodWord ++ (vx_at0 RX4 283 "java/lang/IllegalStateException" ["java/lang/RuntimeException", "java/lang/Exception"]).filter goodWord)
def wsX4_tube_r1 : List Cond := [Cond.fieldLink RX4 143 "TunnelWatch$Tube" "status" "I", Cond.fieldLink RX4 146 "TunnelWatch$Tube" "fireSection" "I", Cond.fieldLink RX4 149 "TunnelWatch$Tube" "wantedDirection" "I", Cond.fieldLink RX4 152 "TunnelWatch$Tube" "wantedFans" "I", Cond.methodLink RX4 40 yX4_needTube, Cond.static yX4_needTube, Cond.initialized RX4, Cond.code yX4_needTube cX4_needTube 1 none, Cond.methodLink RX4 43 yX4_isWithin, Cond.static yX4_isWithin, Cond.code yX4_isWithin cX4_isWithin 3 (some .boolean), Cond.methodLink RX4 47 yX4_need, Cond.static yX4_need, Cond.code yX4_need cX4_need 1 none, Cond.classLink RX4 278 "java/lang/IllegalArgumentException", Cond.initialized "java/lang/IllegalArgumentException", Cond.methodLink RX4 51 yX4_tubeAt, Cond.instanceMethod yX4_tubeAt, Cond.selects RX4 yX4_tubeAt yX4_tubeAt, Cond.code yX4_tubeAt cX4_tubeAt 2 (some (.object "TunnelWatch$Tube")), Cond.fieldLink RX4 29 "TunnelWatch" "first" "LTunnelWatch$Tube;", Cond.fieldLink RX4 33 "TunnelWatch" "second" "LTunnelWatch$Tube;", Cond.methodLink RX4 155 yX3_countBlowing, Cond.instanceMethod yX3_countBlowing]
def wsX4_tube_r2 : List Cond := [Cond.selects RX3 yX3_countBlowing yX3_countBlowing, Cond.initialized RX3, Cond.code yX3_countBlowing cX3_countBlowing 4 (some .int), Cond.fieldLink RX3 48 "TunnelWatch$Tube" "fanCount" "I", Cond.fieldLink RX3 23 "TunnelWatch$Tube" "fans" "[LTunnelWatch$Fan;", Cond.fieldLink RX3 125 "TunnelWatch$Fan" "command" "I", Cond.sameField "TunnelWatch$Fan" "TunnelWatch$Device" "command" "I"]
def wsX4_tube : List Cond := .code yX4_tube cX4_tube 4 (some .int) :: ((wsX4_tube_r1 ++ wsX4_tube_r2) ++ wsX30 ++ wsX40 ++ wsX00 ++ wsX10 ++ (vx_at0 RX4 280 "java/lang/IllegalArgumentException" ["java/lang/RuntimeException", "java/lang/Exception"]).filter goodWord)
def wsX4_tellFan : List Cond := .code yX4_tellFan cX4_tellFan 3 (some .int) :: ([.fieldLink RX4 264 "TunnelWatch$Fan" "runTicks" "I", .fieldLink RX4 17 "TunnelWatch" "rest" "I", .fieldLink RX4 61 "TunnelWatch" "time" "I", .methodLink RX4 267 yX1_restLeft, .instanceMethod yX1_restLeft, .selects RX1 yX1_restLeft yX1_restLeft, .initialized RX1, .code yX1_restLeft cX1_restLeft 4 (some .int), .fieldLink RX1 15 "TunnelWatch$Fan" "lastDirection" "I", .fieldLink RX1 22 "TunnelWatch$Fan" "command" "I", .sameField "TunnelWatch$Fan" "TunnelWatch$Device" "command" "I", .fieldLink RX1 25 "TunnelWatch$Fan" "sentTick" "I", .sameField "TunnelWatch$Fan" "TunnelWatch$Device" "sentTick" "I"] ++ wsX10 ++ wsX40 ++ wsX00)
def wsX4_device_r1 : List Cond := [Cond.fieldLink RX4 158 "TunnelWatch$Tube" "fans" "[LTunnelWatch$Fan;", Cond.fieldLink RX4 166 "TunnelWatch$Device" "command" "I", Cond.fieldLink RX4 169 "TunnelWatch$Device" "actual" "I", Cond.fieldLink RX4 172 "TunnelWatch$Device" "sentTick" "I", Cond.fieldLink RX4 134 "TunnelWatch$Device" "failed" "Z", Cond.fieldLink RX4 175 "TunnelWatch$Device" "out" "Z", Cond.methodLink RX4 68 yX4_needDevice, Cond.instanceMethod yX4_needDevice, Cond.selects RX4 yX4_needDevice yX4_needDevice, Cond.initialized RX4, Cond.code yX4_needDevice cX4_needDevice 3 none, Cond.fieldLink RX4 55 "TunnelWatch$Tube" "fanCount" "I", Cond.methodLink RX4 40 yX4_needTube, Cond.static yX4_needTube, Cond.code yX4_needTube cX4_needTube 1 none, Cond.methodLink RX4 43 yX4_isWithin, Cond.static yX4_isWithin, Cond.code yX4_isWithin cX4_isWithin 3 (some .boolean), Cond.methodLink RX4 47 yX4_need, Cond.static yX4_need, Cond.code yX4_need cX4_need 1 none, Cond.classLink RX4 278 "java/lang/IllegalArgumentException", Cond.initialized "java/lang/IllegalArgumentException", Cond.methodLink RX4 51 yX4_tubeAt]
def wsX4_device_r2 : List Cond := [Cond.instanceMethod yX4_tubeAt, Cond.selects RX4 yX4_tubeAt yX4_tubeAt, Cond.code yX4_tubeAt cX4_tubeAt 2 (some (.object "TunnelWatch$Tube")), Cond.fieldLink RX4 29 "TunnelWatch" "first" "LTunnelWatch$Tube;", Cond.fieldLink RX4 33 "TunnelWatch" "second" "LTunnelWatch$Tube;", Cond.methodLink RX4 162 yX4_tellFan, Cond.instanceMethod yX4_tellFan, Cond.selects RX4 yX4_tellFan yX4_tellFan, Cond.code yX4_tellFan cX4_tellFan 3 (some .int), Cond.fieldLink RX4 264 "TunnelWatch$Fan" "runTicks" "I", Cond.fieldLink RX4 17 "TunnelWatch" "rest" "I", Cond.fieldLink RX4 61 "TunnelWatch" "time" "I", Cond.methodLink RX4 267 yX1_restLeft, Cond.instanceMethod yX1_restLeft, Cond.selects RX1 yX1_restLeft yX1_restLeft, Cond.initialized RX1, Cond.code yX1_restLeft cX1_restLeft 4 (some .int), Cond.fieldLink RX1 15 "TunnelWatch$Fan" "lastDirection" "I", Cond.fieldLink RX1 22 "TunnelWatch$Fan" "command" "I", Cond.sameField "TunnelWatch$Fan" "TunnelWatch$Device" "command" "I", Cond.fieldLink RX1 25 "TunnelWatch$Fan" "sentTick" "I", Cond.sameField "TunnelWatch$Fan" "TunnelWatch$Device" "sentTick" "I", Cond.methodLink RX4 72 yX3_deviceAt, Cond.instanceMethod yX3_deviceAt]
def wsX4_device_r3 : List Cond := [Cond.selects RX3 yX3_deviceAt yX3_deviceAt, Cond.initialized RX3, Cond.code yX3_deviceAt cX3_deviceAt 2 (some (.object "TunnelWatch$Device")), Cond.fieldLink RX3 12 "TunnelWatch$Tube" "signals" "LTunnelWatch$Device;", Cond.fieldLink RX3 18 "TunnelWatch$Tube" "barrier" "LTunnelWatch$Device;", Cond.fieldLink RX3 23 "TunnelWatch$Tube" "fans" "[LTunnelWatch$Fan;"]
def wsX4_device : List Cond := .code yX4_device cX4_device 5 (some .int) :: ((wsX4_device_r1 ++ (wsX4_device_r2 ++ wsX4_device_r3)) ++ wsX30 ++ wsX00 ++ wsX10 ++ wsX40 ++ (vx_at0 RX4 280 "java/lang/IllegalArgumentException" ["java/lang/RuntimeException", "java/lang/Exception"]).filter goodWord)
def wsX4_broken : List Cond := .code yX4_broken cX4_broken 1 (some .int) :: ([.fieldLink RX4 181 "TunnelWatch" "brokenTicks" "I"] ++ wsX40)
set_option maxRecDepth 20000 in
theorem ggX4_init_X4_clamp : GoodIn wsX4_init wsX4_clamp := goodIn_r _ [18, 19, 20, 21, 22, 23, 24, 25] (by decide +kernel) (by decide +kernel)
set_option maxRecDepth 20000 in
theorem gX4_init_X4_clamp : GoodIn wsX4_init (va_wsS RX4 9 yX4_clamp wsX4_clamp) := goodIn_app (goodIn_of _ (by decide +kernel)) ggX4_init_X4_clamp
set_option maxRecDepth 20000 in
theorem ggX4_init_X3_init : GoodIn wsX4_init wsX3_init := goodIn_r _ [28, 29, 2, 3, 30, 31, 32, 33, 34, 35, 36, 37, 38, 39, 40, 41, 42, 43, 44, 45, 46, 47, 48, 49, 50, 51, 52, 53, 54, 55, 56, 57, 79, 80, 81, 82, 83, 84, 67, 68, 69, 70, 71, 72, 73, 74, 75, 76, 77, 78, 85, 86, 87, 88, 89, 90, 91, 92, 93, 94, 95, 96, 97, 98, 99, 100, 101] (by decide +kernel) (by decide +kernel)
set_option maxRecDepth 20000 in
theorem gX4_init_X3_init : GoodIn wsX4_init (wsX3_init) := ggX4_init_X3_init
theorem dX4_init_0 : decode cX4_init 0 = .ok (.aload_n 0, 1) := by decide +kernel
theorem dX4_init_1 : decode cX4_init 1 = .ok (.invokespecial 1, 3) := by decide +kernel
theorem dX4_init_4 : decode cX4_init 4 = .ok (.aload_n 0, 1) := by decide +kernel
theorem dX4_init_5 : decode cX4_init 5 = .ok (.iload_n 1, 1) := by decide +kernel
theorem dX4_init_6 : decode cX4_init 6 = .ok (.iconst 2, 1) := by decide +kernel
theorem dX4_init_7 : decode cX4_init 7 = .ok (.bipush 24, 2) := by decide +kernel
theorem dX4_init_9 : decode cX4_init 9 = .ok (.invokestatic 9, 3) := by decide +kernel
theorem dX4_init_12 : decode cX4_init 12 = .ok (.putfield 13, 3) := by decide +kernel
theorem dX4_init_15 : decode cX4_init 15 = .ok (.aload_n 0, 1) := by decide +kernel
theorem dX4_init_16 : decode cX4_init 16 = .ok (.iload_n 2, 1) := by decide +kernel
theorem dX4_init_17 : decode cX4_init 17 = .ok (.iconst 0, 1) := by decide +kernel
theorem dX4_init_18 : decode cX4_init 18 = .ok (.sipush 300, 3) := by decide +kernel
theorem dX4_init_21 : decode cX4_init 21 = .ok (.invokestatic 9, 3) := by decide +kernel
theorem dX4_init_24 : decode cX4_init 24 = .ok (.putfield 17, 3) := by decide +kernel
theorem dX4_init_27 : decode cX4_init 27 = .ok (.aload_n 0, 1) := by decide +kernel
theorem dX4_init_28 : decode cX4_init 28 = .ok (.iload_n 3, 1) := by decide +kernel
theorem dX4_init_29 : decode cX4_init 29 = .ok (.iconst 0, 1) := by decide +kernel
theorem dX4_init_30 : decode cX4_init 30 = .ok (.ldc 20, 2) := by decide +kernel
theorem dX4_init_32 : decode cX4_init 32 = .ok (.invokestatic 9, 3) := by decide +kernel
theorem dX4_init_35 : decode cX4_init 35 = .ok (.putfield 21, 3) := by decide +kernel
theorem dX4_init_38 : decode cX4_init 38 = .ok (.aload_n 0, 1) := by decide +kernel
theorem dX4_init_39 : decode cX4_init 39 = .ok (.new 24, 3) := by decide +kernel
theorem dX4_init_42 : decode cX4_init 42 = .ok (.dup, 1) := by decide +kernel
theorem dX4_init_43 : decode cX4_init 43 = .ok (.aload_n 0, 1) := by decide +kernel
theorem dX4_init_44 : decode cX4_init 44 = .ok (.getfield 13, 3) := by decide +kernel
theorem dX4_init_47 : decode cX4_init 47 = .ok (.invokespecial 26, 3) := by decide +kernel
theorem dX4_init_50 : decode cX4_init 50 = .ok (.putfield 29, 3) := by decide +kernel
theorem dX4_init_53 : decode cX4_init 53 = .ok (.aload_n 0, 1) := by decide +kernel
theorem dX4_init_54 : decode cX4_init 54 = .ok (.new 24, 3) := by decide +kernel
theorem dX4_init_57 : decode cX4_init 57 = .ok (.dup, 1) := by decide +kernel
theorem dX4_init_58 : decode cX4_init 58 = .ok (.aload_n 0, 1) := by decide +kernel
theorem dX4_init_59 : decode cX4_init 59 = .ok (.getfield 13, 3) := by decide +kernel
theorem dX4_init_62 : decode cX4_init 62 = .ok (.invokespecial 26, 3) := by decide +kernel
theorem dX4_init_65 : decode cX4_init 65 = .ok (.putfield 33, 3) := by decide +kernel
theorem dX4_init_68 : decode cX4_init 68 = .ok (.aload_n 0, 1) := by decide +kernel
theorem dX4_init_69 : decode cX4_init 69 = .ok (.bipush 10, 2) := by decide +kernel
theorem dX4_init_71 : decode cX4_init 71 = .ok (.newarray .int, 2) := by decide +kernel
theorem dX4_init_73 : decode cX4_init 73 = .ok (.putfield 36, 3) := by decide +kernel
theorem dX4_init_76 : decode cX4_init 76 = .ok (.return_, 1) := by decide +kernel
set_option maxRecDepth 20000 in
theorem ggX4_fan_X4_needTube : GoodIn wsX4_fan wsX4_needTube := goodIn_ca (goodIn_r _ [6, 7, 8, 5, 9, 10, 11, 12, 13, 14] (by decide +kernel) (by decide +kernel)) (goodIn_sub (fun _ h => List.mem_cons_of_mem _ (List.mem_append_left _ (List.mem_append_right _ h))) (by decide +kernel))
set_option maxRecDepth 20000 in
theorem gX4_fan_X4_needTube : GoodIn wsX4_fan (va_wsS RX4 40 yX4_needTube wsX4_needTube) := goodIn_app (goodIn_of _ (by decide +kernel)) ggX4_fan_X4_needTube
set_option maxRecDepth 20000 in
theorem ggX4_fan_X4_isWithin : GoodIn wsX4_fan wsX4_isWithin := goodIn_r _ [9] (by decide +kernel) (by decide +kernel)
set_option maxRecDepth 20000 in
theorem gX4_fan_X4_isWithin : GoodIn wsX4_fan (va_wsS RX4 43 yX4_isWithin wsX4_isWithin) := goodIn_app (goodIn_of _ (by decide +kernel)) ggX4_fan_X4_isWithin
set_option maxRecDepth 20000 in
theorem ggX4_fan_X4_need : GoodIn wsX4_fan wsX4_need := goodIn_ca (goodIn_r _ [12, 13, 14] (by decide +kernel) (by decide +kernel)) (goodIn_sub (fun _ h => List.mem_cons_of_mem _ (List.mem_append_left _ (List.mem_append_right _ h))) (by decide +kernel))
set_option maxRecDepth 20000 in
theorem gX4_fan_X4_need : GoodIn wsX4_fan (va_wsS RX4 47 yX4_need wsX4_need) := goodIn_app (goodIn_of _ (by decide +kernel)) ggX4_fan_X4_need
set_option maxRecDepth 20000 in
theorem ggX4_fan_X4_tubeAt : GoodIn wsX4_fan wsX4_tubeAt := goodIn_r _ [18, 19, 20, 46, 47, 48, 49, 50, 51, 52, 53, 54] (by decide +kernel) (by decide +kernel)
set_option maxRecDepth 20000 in
theorem gX4_fan_X4_tubeAt : GoodIn wsX4_fan (wsV RX4 51 RX4 yX4_tubeAt wsX4_tubeAt) := goodIn_app (goodIn_of _ (by decide +kernel)) ggX4_fan_X4_tubeAt
set_option maxRecDepth 20000 in
theorem ggX4_fan_X4_needState : GoodIn wsX4_fan wsX4_needState := goodIn_ca (goodIn_r _ [23, 24, 25] (by decide +kernel) (by decide +kernel)) (goodIn_sub (fun _ h => List.mem_cons_of_mem _ (List.mem_append_right _ h)) (by decide +kernel))
set_option maxRecDepth 20000 in
theorem gX4_fan_X4_needState : GoodIn wsX4_fan (va_wsS RX4 58 yX4_needState wsX4_needState) := goodIn_app (goodIn_of _ (by decide +kernel)) ggX4_fan_X4_needState
set_option maxRecDepth 20000 in
theorem ggX4_fan_X3_addFan : GoodIn wsX4_fan wsX3_addFan := goodIn_r _ [30, 31, 32, 33, 34, 35, 36, 37, 38, 39, 40, 41, 42, 43, 44, 45, 55, 56, 57, 58, 59, 60, 61, 62, 63] (by decide +kernel) (by decide +kernel)
set_option maxRecDepth 20000 in
theorem gX4_fan_X3_addFan : GoodIn wsX4_fan (wsV RX4 64 RX3 yX3_addFan wsX3_addFan) := goodIn_app (goodIn_of _ (by decide +kernel)) ggX4_fan_X3_addFan
theorem dX4_fan_0 : decode cX4_fan 0 = .ok (.iload_n 1, 1) := by decide +kernel
theorem dX4_fan_1 : decode cX4_fan 1 = .ok (.invokestatic 40, 3) := by decide +kernel
theorem dX4_fan_4 : decode cX4_fan 4 = .ok (.iload_n 2, 1) := by decide +kernel
theorem dX4_fan_5 : decode cX4_fan 5 = .ok (.iconst 1, 1) := by decide +kernel
theorem dX4_fan_6 : decode cX4_fan 6 = .ok (.sipush 1000, 3) := by decide +kernel
theorem dX4_fan_9 : decode cX4_fan 9 = .ok (.invokestatic 43, 3) := by decide +kernel
theorem dX4_fan_12 : decode cX4_fan 12 = .ok (.invokestatic 47, 3) := by decide +kernel
theorem dX4_fan_15 : decode cX4_fan 15 = .ok (.aload_n 0, 1) := by decide +kernel
theorem dX4_fan_16 : decode cX4_fan 16 = .ok (.iload_n 1, 1) := by decide +kernel
theorem dX4_fan_17 : decode cX4_fan 17 = .ok (.invokevirtual 51, 3) := by decide +kernel
theorem dX4_fan_20 : decode cX4_fan 20 = .ok (.astore_n 3, 1) := by decide +kernel
theorem dX4_fan_21 : decode cX4_fan 21 = .ok (.aload_n 3, 1) := by decide +kernel
theorem dX4_fan_22 : decode cX4_fan 22 = .ok (.getfield 55, 3) := by decide +kernel
theorem dX4_fan_25 : decode cX4_fan 25 = .ok (.bipush 12, 2) := by decide +kernel
theorem dX4_fan_27 : decode cX4_fan 27 = .ok (.if_icmp .ge 7, 3) := by decide +kernel
theorem dX4_fan_30 : decode cX4_fan 30 = .ok (.iconst 1, 1) := by decide +kernel
theorem dX4_fan_31 : decode cX4_fan 31 = .ok (.goto 4, 3) := by decide +kernel
theorem dX4_fan_34 : decode cX4_fan 34 = .ok (.iconst 0, 1) := by decide +kernel
theorem dX4_fan_35 : decode cX4_fan 35 = .ok (.invokestatic 58, 3) := by decide +kernel
theorem dX4_fan_38 : decode cX4_fan 38 = .ok (.aload_n 0, 1) := by decide +kernel
theorem dX4_fan_39 : decode cX4_fan 39 = .ok (.getfield 61, 3) := by decide +kernel
theorem dX4_fan_42 : decode cX4_fan 42 = .ok (.ifCond .ne 7, 3) := by decide +kernel
theorem dX4_fan_45 : decode cX4_fan 45 = .ok (.iconst 1, 1) := by decide +kernel
theorem dX4_fan_46 : decode cX4_fan 46 = .ok (.goto 4, 3) := by decide +kernel
theorem dX4_fan_49 : decode cX4_fan 49 = .ok (.iconst 0, 1) := by decide +kernel
theorem dX4_fan_50 : decode cX4_fan 50 = .ok (.invokestatic 58, 3) := by decide +kernel
theorem dX4_fan_53 : decode cX4_fan 53 = .ok (.aload_n 3, 1) := by decide +kernel
theorem dX4_fan_54 : decode cX4_fan 54 = .ok (.iload_n 2, 1) := by decide +kernel
theorem dX4_fan_55 : decode cX4_fan 55 = .ok (.invokevirtual 64, 3) := by decide +kernel
theorem dX4_fan_58 : decode cX4_fan 58 = .ok (.ireturn, 1) := by decide +kernel
set_option maxRecDepth 20000 in
theorem ggX4_lag_X4_needDevice : GoodIn wsX4_lag wsX4_needDevice := goodIn_ca (goodIn_r _ [6, 7, 8, 9, 5, 10, 11, 12, 13, 14, 15, 16, 17, 18, 19, 20, 21, 22, 23, 24, 48, 49, 50, 51, 52, 53, 54, 55, 56, 57, 58, 59, 60, 61, 62, 63, 64, 65, 66, 67, 68] (by decide +kernel) (by decide +kernel)) (goodIn_sub (fun _ h => List.mem_cons_of_mem _ (List.mem_append_right _ h)) (by decide +kernel))
set_option maxRecDepth 20000 in
theorem gX4_lag_X4_needDevice : GoodIn wsX4_lag (wsV RX4 68 RX4 yX4_needDevice wsX4_needDevice) := goodIn_app (goodIn_of _ (by decide +kernel)) ggX4_lag_X4_needDevice
set_option maxRecDepth 20000 in
theorem ggX4_lag_X4_isWithin : GoodIn wsX4_lag wsX4_isWithin := goodIn_r _ [13] (by decide +kernel) (by decide +kernel)
set_option maxRecDepth 20000 in
theorem gX4_lag_X4_isWithin : GoodIn wsX4_lag (va_wsS RX4 43 yX4_isWithin wsX4_isWithin) := goodIn_app (goodIn_of _ (by decide +kernel)) ggX4_lag_X4_isWithin
set_option maxRecDepth 20000 in
theorem ggX4_lag_X4_need : GoodIn wsX4_lag wsX4_need := goodIn_ca (goodIn_r _ [16, 17, 18] (by decide +kernel) (by decide +kernel)) (goodIn_sub (fun _ h => List.mem_cons_of_mem _ (List.mem_append_right _ h)) (by decide +kernel))
set_option maxRecDepth 20000 in
theorem gX4_lag_X4_need : GoodIn wsX4_lag (va_wsS RX4 47 yX4_need wsX4_need) := goodIn_app (goodIn_of _ (by decide +kernel)) ggX4_lag_X4_need
set_option maxRecDepth 20000 in
theorem ggX4_lag_X4_tubeAt : GoodIn wsX4_lag wsX4_tubeAt := goodIn_r _ [22, 23, 24, 60, 61, 62, 63, 64, 65, 66, 67, 68] (by decide +kernel) (by decide +kernel)
set_option maxRecDepth 20000 in
theorem gX4_lag_X4_tubeAt : GoodIn wsX4_lag (wsV RX4 51 RX4 yX4_tubeAt wsX4_tubeAt) := goodIn_app (goodIn_of _ (by decide +kernel)) ggX4_lag_X4_tubeAt
set_option maxRecDepth 20000 in
theorem ggX4_lag_X3_deviceAt : GoodIn wsX4_lag wsX3_deviceAt := goodIn_r _ [29, 30, 31, 32, 48, 49, 50, 51, 52, 53, 54, 55, 56, 57, 58, 59] (by decide +kernel) (by decide +kernel)
set_option maxRecDepth 20000 in
theorem gX4_lag_X3_deviceAt : GoodIn wsX4_lag (wsV RX4 72 RX3 yX3_deviceAt wsX3_deviceAt) := goodIn_app (goodIn_of _ (by decide +kernel)) ggX4_lag_X3_deviceAt
theorem dX4_lag_0 : decode cX4_lag 0 = .ok (.aload_n 0, 1) := by decide +kernel
theorem dX4_lag_1 : decode cX4_lag 1 = .ok (.iload_n 1, 1) := by decide +kernel
theorem dX4_lag_2 : decode cX4_lag 2 = .ok (.iload_n 2, 1) := by decide +kernel
theorem dX4_lag_3 : decode cX4_lag 3 = .ok (.invokevirtual 68, 3) := by decide +kernel
theorem dX4_lag_6 : decode cX4_lag 6 = .ok (.iload_n 3, 1) := by decide +kernel
theorem dX4_lag_7 : decode cX4_lag 7 = .ok (.iconst 0, 1) := by decide +kernel
theorem dX4_lag_8 : decode cX4_lag 8 = .ok (.iconst 5, 1) := by decide +kernel
theorem dX4_lag_9 : decode cX4_lag 9 = .ok (.invokestatic 43, 3) := by decide +kernel
theorem dX4_lag_12 : decode cX4_lag 12 = .ok (.invokestatic 47, 3) := by decide +kernel
theorem dX4_lag_15 : decode cX4_lag 15 = .ok (.aload_n 0, 1) := by decide +kernel
theorem dX4_lag_16 : decode cX4_lag 16 = .ok (.iload_n 1, 1) := by decide +kernel
theorem dX4_lag_17 : decode cX4_lag 17 = .ok (.invokevirtual 51, 3) := by decide +kernel
theorem dX4_lag_20 : decode cX4_lag 20 = .ok (.iload_n 2, 1) := by decide +kernel
theorem dX4_lag_21 : decode cX4_lag 21 = .ok (.invokevirtual 72, 3) := by decide +kernel
theorem dX4_lag_24 : decode cX4_lag 24 = .ok (.astore 4, 2) := by decide +kernel
theorem dX4_lag_26 : decode cX4_lag 26 = .ok (.aload 4, 2) := by decide +kernel
theorem dX4_lag_28 : decode cX4_lag 28 = .ok (.getfield 76, 3) := by decide +kernel
theorem dX4_lag_31 : decode cX4_lag 31 = .ok (.istore 5, 2) := by decide +kernel
theorem dX4_lag_33 : decode cX4_lag 33 = .ok (.aload 4, 2) := by decide +kernel
theorem dX4_lag_35 : decode cX4_lag 35 = .ok (.iload_n 3, 1) := by decide +kernel
theorem dX4_lag_36 : decode cX4_lag 36 = .ok (.putfield 76, 3) := by decide +kernel
theorem dX4_lag_39 : decode cX4_lag 39 = .ok (.iload 5, 2) := by decide +kernel
theorem dX4_lag_41 : decode cX4_lag 41 = .ok (.ireturn, 1) := by decide +kernel
set_option maxRecDepth 20000 in
theorem ggX4_plan_X4_needSection : GoodIn wsX4_plan wsX4_needSection := goodIn_ca (goodIn_r _ [11, 12, 13, 14, 10, 15, 16, 17, 18, 19, 20, 21, 22, 23, 38, 39, 40, 41, 42, 43, 44, 45, 46] (by decide +kernel) (by decide +kernel)) (goodIn_sub (fun _ h => List.mem_cons_of_mem _ (List.mem_append_left _ (List.mem_append_right _ h))) (by decide +kernel))
set_option maxRecDepth 20000 in
theorem gX4_plan_X4_needSection : GoodIn wsX4_plan (wsV RX4 81 RX4 yX4_needSection wsX4_needSection) := goodIn_app (goodIn_of _ (by decide +kernel)) ggX4_plan_X4_needSection
set_option maxRecDepth 20000 in
theorem ggX4_plan_X4_isWithin : GoodIn wsX4_plan wsX4_isWithin := goodIn_r _ [18] (by decide +kernel) (by decide +kernel)
set_option maxRecDepth 20000 in
theorem gX4_plan_X4_isWithin : GoodIn wsX4_plan (va_wsS RX4 43 yX4_isWithin wsX4_isWithin) := goodIn_app (goodIn_of _ (by decide +kernel)) ggX4_plan_X4_isWithin
set_option maxRecDepth 20000 in
theorem ggX4_plan_X4_need : GoodIn wsX4_plan wsX4_need := goodIn_ca (goodIn_r _ [21, 22, 23] (by decide +kernel) (by decide +kernel)) (goodIn_sub (fun _ h => List.mem_cons_of_mem _ (List.mem_append_left _ (List.mem_append_right _ h))) (by decide +kernel))
set_option maxRecDepth 20000 in
theorem gX4_plan_X4_need : GoodIn wsX4_plan (va_wsS RX4 47 yX4_need wsX4_need) := goodIn_app (goodIn_of _ (by decide +kernel)) ggX4_plan_X4_need
set_option maxRecDepth 20000 in
theorem ggX4_plan_X4_needState : GoodIn wsX4_plan wsX4_needState := goodIn_ca (goodIn_r _ [26, 27, 28] (by decide +kernel) (by decide +kernel)) (goodIn_sub (fun _ h => List.mem_cons_of_mem _ (List.mem_append_right _ h)) (by decide +kernel))
set_option maxRecDepth 20000 in
theorem gX4_plan_X4_needState : GoodIn wsX4_plan (va_wsS RX4 58 yX4_needState wsX4_needState) := goodIn_app (goodIn_of _ (by decide +kernel)) ggX4_plan_X4_needState
set_option maxRecDepth 20000 in
theorem ggX4_plan_X4_tubeAt : GoodIn wsX4_plan wsX4_tubeAt := goodIn_r _ [32, 33, 34, 38, 39, 40, 41, 42, 43, 44, 45, 46] (by decide +kernel) (by decide +kernel)
set_option maxRecDepth 20000 in
theorem gX4_plan_X4_tubeAt : GoodIn wsX4_plan (wsV RX4 51 RX4 yX4_tubeAt wsX4_tubeAt) := goodIn_app (goodIn_of _ (by decide +kernel)) ggX4_plan_X4_tubeAt
set_option maxRecDepth 20000 in
theorem ggX4_plan_X4_directionOf : GoodIn wsX4_plan wsX4_directionOf := goodIn_r _ [37] (by decide +kernel) (by decide +kernel)
set_option maxRecDepth 20000 in
theorem gX4_plan_X4_directionOf : GoodIn wsX4_plan (va_wsS RX4 93 yX4_directionOf wsX4_directionOf) := goodIn_app (goodIn_of _ (by decide +kernel)) ggX4_plan_X4_directionOf
theorem dX4_plan_0 : decode cX4_plan 0 = .ok (.aload_n 0, 1) := by decide +kernel
theorem dX4_plan_1 : decode cX4_plan 1 = .ok (.iload_n 1, 1) := by decide +kernel
theorem dX4_plan_2 : decode cX4_plan 2 = .ok (.iload_n 2, 1) := by decide +kernel
theorem dX4_plan_3 : decode cX4_plan 3 = .ok (.invokevirtual 81, 3) := by decide +kernel
theorem dX4_plan_6 : decode cX4_plan 6 = .ok (.iload_n 3, 1) := by decide +kernel
theorem dX4_plan_7 : decode cX4_plan 7 = .ok (.iconst 0, 1) := by decide +kernel
theorem dX4_plan_8 : decode cX4_plan 8 = .ok (.bipush 100, 2) := by decide +kernel
theorem dX4_plan_10 : decode cX4_plan 10 = .ok (.invokestatic 43, 3) := by decide +kernel
theorem dX4_plan_13 : decode cX4_plan 13 = .ok (.invokestatic 47, 3) := by decide +kernel
theorem dX4_plan_16 : decode cX4_plan 16 = .ok (.iload 5, 2) := by decide +kernel
theorem dX4_plan_18 : decode cX4_plan 18 = .ok (.iconst 0, 1) := by decide +kernel
theorem dX4_plan_19 : decode cX4_plan 19 = .ok (.bipush 12, 2) := by decide +kernel
theorem dX4_plan_21 : decode cX4_plan 21 = .ok (.invokestatic 43, 3) := by decide +kernel
theorem dX4_plan_24 : decode cX4_plan 24 = .ok (.invokestatic 47, 3) := by decide +kernel
theorem dX4_plan_27 : decode cX4_plan 27 = .ok (.iload 6, 2) := by decide +kernel
theorem dX4_plan_29 : decode cX4_plan 29 = .ok (.iconst 0, 1) := by decide +kernel
theorem dX4_plan_30 : decode cX4_plan 30 = .ok (.bipush 12, 2) := by decide +kernel
theorem dX4_plan_32 : decode cX4_plan 32 = .ok (.invokestatic 43, 3) := by decide +kernel
theorem dX4_plan_35 : decode cX4_plan 35 = .ok (.invokestatic 47, 3) := by decide +kernel
theorem dX4_plan_38 : decode cX4_plan 38 = .ok (.aload_n 0, 1) := by decide +kernel
theorem dX4_plan_39 : decode cX4_plan 39 = .ok (.getfield 61, 3) := by decide +kernel
theorem dX4_plan_42 : decode cX4_plan 42 = .ok (.ifCond .ne 7, 3) := by decide +kernel
theorem dX4_plan_45 : decode cX4_plan 45 = .ok (.iconst 1, 1) := by decide +kernel
theorem dX4_plan_46 : decode cX4_plan 46 = .ok (.goto 4, 3) := by decide +kernel
theorem dX4_plan_49 : decode cX4_plan 49 = .ok (.iconst 0, 1) := by decide +kernel
theorem dX4_plan_50 : decode cX4_plan 50 = .ok (.invokestatic 58, 3) := by decide +kernel
theorem dX4_plan_53 : decode cX4_plan 53 = .ok (.aload_n 0, 1) := by decide +kernel
theorem dX4_plan_54 : decode cX4_plan 54 = .ok (.iload_n 1, 1) := by decide +kernel
theorem dX4_plan_55 : decode cX4_plan 55 = .ok (.invokevirtual 51, 3) := by decide +kernel
theorem dX4_plan_58 : decode cX4_plan 58 = .ok (.getfield 84, 3) := by decide +kernel
theorem dX4_plan_61 : decode cX4_plan 61 = .ok (.iload_n 2, 1) := by decide +kernel
theorem dX4_plan_62 : decode cX4_plan 62 = .ok (.aaload, 1) := by decide +kernel
theorem dX4_plan_63 : decode cX4_plan 63 = .ok (.astore 7, 2) := by decide +kernel
theorem dX4_plan_65 : decode cX4_plan 65 = .ok (.aload 7, 2) := by decide +kernel
theorem dX4_plan_67 : decode cX4_plan 67 = .ok (.iload_n 3, 1) := by decide +kernel
theorem dX4_plan_68 : decode cX4_plan 68 = .ok (.putfield 88, 3) := by decide +kernel
theorem dX4_plan_71 : decode cX4_plan 71 = .ok (.aload 7, 2) := by decide +kernel
theorem dX4_plan_73 : decode cX4_plan 73 = .ok (.iload 4, 2) := by decide +kernel
theorem dX4_plan_75 : decode cX4_plan 75 = .ok (.invokestatic 93, 3) := by decide +kernel
theorem dX4_plan_78 : decode cX4_plan 78 = .ok (.putfield 96, 3) := by decide +kernel
theorem dX4_plan_81 : decode cX4_plan 81 = .ok (.aload 7, 2) := by decide +kernel
theorem dX4_plan_83 : decode cX4_plan 83 = .ok (.iload 5, 2) := by decide +kernel
theorem dX4_plan_85 : decode cX4_plan 85 = .ok (.putfield 99, 3) := by decide +kernel
theorem dX4_plan_88 : decode cX4_plan 88 = .ok (.aload 7, 2) := by decide +kernel
theorem dX4_plan_90 : decode cX4_plan 90 = .ok (.iload 6, 2) := by decide +kernel
theorem dX4_plan_92 : decode cX4_plan 92 = .ok (.putfield 102, 3) := by decide +kernel
theorem dX4_plan_95 : decode cX4_plan 95 = .ok (.return_, 1) := by decide +kernel
set_option maxRecDepth 20000 in
theorem ggX4_turn_X4_needSection : GoodIn wsX4_turn wsX4_needSection := goodIn_ca (goodIn_r _ [8, 9, 10, 11, 7, 12, 13, 14, 15, 16, 17, 18, 19, 20, 35, 36, 37, 38, 39, 40, 41, 42, 43] (by decide +kernel) (by decide +kernel)) (goodIn_sub (fun _ h => List.mem_cons_of_mem _ (List.mem_append_left _ (List.mem_append_right _ h))) (by decide +kernel))
set_option maxRecDepth 20000 in
theorem gX4_turn_X4_needSection : GoodIn wsX4_turn (wsV RX4 81 RX4 yX4_needSection wsX4_needSection) := goodIn_app (goodIn_of _ (by decide +kernel)) ggX4_turn_X4_needSection
set_option maxRecDepth 20000 in
theorem ggX4_turn_X4_needState : GoodIn wsX4_turn wsX4_needState := goodIn_ca (goodIn_r _ [23, 24, 25] (by decide +kernel) (by decide +kernel)) (goodIn_sub (fun _ h => List.mem_cons_of_mem _ (List.mem_append_right _ h)) (by decide +kernel))
set_option maxRecDepth 20000 in
theorem gX4_turn_X4_needState : GoodIn wsX4_turn (va_wsS RX4 58 yX4_needState wsX4_needState) := goodIn_app (goodIn_of _ (by decide +kernel)) ggX4_turn_X4_needState
set_option maxRecDepth 20000 in
theorem ggX4_turn_X4_tubeAt : GoodIn wsX4_turn wsX4_tubeAt := goodIn_r _ [29, 30, 31, 35, 36, 37, 38, 39, 40, 41, 42, 43] (by decide +kernel) (by decide +kernel)
set_option maxRecDepth 20000 in
theorem gX4_turn_X4_tubeAt : GoodIn wsX4_turn (wsV RX4 51 RX4 yX4_tubeAt wsX4_tubeAt) := goodIn_app (goodIn_of _ (by decide +kernel)) ggX4_turn_X4_tubeAt
set_option maxRecDepth 20000 in
theorem ggX4_turn_X4_directionOf : GoodIn wsX4_turn wsX4_directionOf := goodIn_r _ [34] (by decide +kernel) (by decide +kernel)
set_option maxRecDepth 20000 in
theorem gX4_turn_X4_directionOf : GoodIn wsX4_turn (va_wsS RX4 93 yX4_directionOf wsX4_directionOf) := goodIn_app (goodIn_of _ (by decide +kernel)) ggX4_turn_X4_directionOf
theorem dX4_turn_0 : decode cX4_turn 0 = .ok (.aload_n 0, 1) := by decide +kernel
theorem dX4_turn_1 : decode cX4_turn 1 = .ok (.iload_n 1, 1) := by decide +kernel
theorem dX4_turn_2 : decode cX4_turn 2 = .ok (.iload_n 2, 1) := by decide +kernel
theorem dX4_turn_3 : decode cX4_turn 3 = .ok (.invokevirtual 81, 3) := by decide +kernel
theorem dX4_turn_6 : decode cX4_turn 6 = .ok (.aload_n 0, 1) := by decide +kernel
theorem dX4_turn_7 : decode cX4_turn 7 = .ok (.getfield 61, 3) := by decide +kernel
theorem dX4_turn_10 : decode cX4_turn 10 = .ok (.ifCond .ne 7, 3) := by decide +kernel
theorem dX4_turn_13 : decode cX4_turn 13 = .ok (.iconst 1, 1) := by decide +kernel
theorem dX4_turn_14 : decode cX4_turn 14 = .ok (.goto 4, 3) := by decide +kernel
theorem dX4_turn_17 : decode cX4_turn 17 = .ok (.iconst 0, 1) := by decide +kernel
theorem dX4_turn_18 : decode cX4_turn 18 = .ok (.invokestatic 58, 3) := by decide +kernel
theorem dX4_turn_21 : decode cX4_turn 21 = .ok (.aload_n 0, 1) := by decide +kernel
theorem dX4_turn_22 : decode cX4_turn 22 = .ok (.iload_n 1, 1) := by decide +kernel
theorem dX4_turn_23 : decode cX4_turn 23 = .ok (.invokevirtual 51, 3) := by decide +kernel
theorem dX4_turn_26 : decode cX4_turn 26 = .ok (.getfield 84, 3) := by decide +kernel
theorem dX4_turn_29 : decode cX4_turn 29 = .ok (.iload_n 2, 1) := by decide +kernel
theorem dX4_turn_30 : decode cX4_turn 30 = .ok (.aaload, 1) := by decide +kernel
theorem dX4_turn_31 : decode cX4_turn 31 = .ok (.iload_n 3, 1) := by decide +kernel
theorem dX4_turn_32 : decode cX4_turn 32 = .ok (.invokestatic 93, 3) := by decide +kernel
theorem dX4_turn_35 : decode cX4_turn 35 = .ok (.putfield 105, 3) := by decide +kernel
theorem dX4_turn_38 : decode cX4_turn 38 = .ok (.return_, 1) := by decide +kernel
set_option maxRecDepth 20000 in
theorem ggX4_sense_X4_needSection : GoodIn wsX4_sense wsX4_needSection := goodIn_ca (goodIn_r _ [7, 8, 9, 10, 6, 11, 12, 13, 14, 15, 16, 17, 18, 19, 46, 47, 48, 49, 50, 51, 52, 53, 54] (by decide +kernel) (by decide +kernel)) (goodIn_sub (fun _ h => List.mem_cons_of_mem _ (List.mem_append_right _ h)) (by decide +kernel))
set_option maxRecDepth 20000 in
theorem gX4_sense_X4_needSection : GoodIn wsX4_sense (wsV RX4 81 RX4 yX4_needSection wsX4_needSection) := goodIn_app (goodIn_of _ (by decide +kernel)) ggX4_sense_X4_needSection
set_option maxRecDepth 20000 in
theorem ggX4_sense_X4_isWithin : GoodIn wsX4_sense wsX4_isWithin := goodIn_r _ [14] (by decide +kernel) (by decide +kernel)
set_option maxRecDepth 20000 in
theorem gX4_sense_X4_isWithin : GoodIn wsX4_sense (va_wsS RX4 43 yX4_isWithin wsX4_isWithin) := goodIn_app (goodIn_of _ (by decide +kernel)) ggX4_sense_X4_isWithin
set_option maxRecDepth 20000 in
theorem ggX4_sense_X4_need : GoodIn wsX4_sense wsX4_need := goodIn_ca (goodIn_r _ [17, 18, 19] (by decide +kernel) (by decide +kernel)) (goodIn_sub (fun _ h => List.mem_cons_of_mem _ (List.mem_append_right _ h)) (by decide +kernel))
set_option maxRecDepth 20000 in
theorem gX4_sense_X4_need : GoodIn wsX4_sense (va_wsS RX4 47 yX4_need wsX4_need) := goodIn_app (goodIn_of _ (by decide +kernel)) ggX4_sense_X4_need
set_option maxRecDepth 20000 in
theorem ggX4_sense_X4_tubeAt : GoodIn wsX4_sense wsX4_tubeAt := goodIn_r _ [23, 24, 25, 46, 47, 48, 49, 50, 51, 52, 53, 54] (by decide +kernel) (by decide +kernel)
set_option maxRecDepth 20000 in
theorem gX4_sense_X4_tubeAt : GoodIn wsX4_sense (wsV RX4 51 RX4 yX4_tubeAt wsX4_tubeAt) := goodIn_app (goodIn_of _ (by decide +kernel)) ggX4_sense_X4_tubeAt
theorem dX4_sense_0 : decode cX4_sense 0 = .ok (.aload_n 0, 1) := by decide +kernel
theorem dX4_sense_1 : decode cX4_sense 1 = .ok (.iload_n 1, 1) := by decide +kernel
theorem dX4_sense_2 : decode cX4_sense 2 = .ok (.iload_n 2, 1) := by decide +kernel
theorem dX4_sense_3 : decode cX4_sense 3 = .ok (.invokevirtual 81, 3) := by decide +kernel
theorem dX4_sense_6 : decode cX4_sense 6 = .ok (.iload_n 3, 1) := by decide +kernel
theorem dX4_sense_7 : decode cX4_sense 7 = .ok (.iconst 0, 1) := by decide +kernel
theorem dX4_sense_8 : decode cX4_sense 8 = .ok (.bipush 100, 2) := by decide +kernel
theorem dX4_sense_10 : decode cX4_sense 10 = .ok (.invokestatic 43, 3) := by decide +kernel
theorem dX4_sense_13 : decode cX4_sense 13 = .ok (.invokestatic 47, 3) := by decide +kernel
theorem dX4_sense_16 : decode cX4_sense 16 = .ok (.aload_n 0, 1) := by decide +kernel
theorem dX4_sense_17 : decode cX4_sense 17 = .ok (.iload_n 1, 1) := by decide +kernel
theorem dX4_sense_18 : decode cX4_sense 18 = .ok (.invokevirtual 51, 3) := by decide +kernel
theorem dX4_sense_21 : decode cX4_sense 21 = .ok (.getfield 84, 3) := by decide +kernel
theorem dX4_sense_24 : decode cX4_sense 24 = .ok (.iload_n 2, 1) := by decide +kernel
theorem dX4_sense_25 : decode cX4_sense 25 = .ok (.aaload, 1) := by decide +kernel
theorem dX4_sense_26 : decode cX4_sense 26 = .ok (.astore 4, 2) := by decide +kernel
theorem dX4_sense_28 : decode cX4_sense 28 = .ok (.aload 4, 2) := by decide +kernel
theorem dX4_sense_30 : decode cX4_sense 30 = .ok (.getfield 108, 3) := by decide +kernel
theorem dX4_sense_33 : decode cX4_sense 33 = .ok (.istore 5, 2) := by decide +kernel
theorem dX4_sense_35 : decode cX4_sense 35 = .ok (.aload 4, 2) := by decide +kernel
theorem dX4_sense_37 : decode cX4_sense 37 = .ok (.iload_n 3, 1) := by decide +kernel
theorem dX4_sense_38 : decode cX4_sense 38 = .ok (.putfield 108, 3) := by decide +kernel
theorem dX4_sense_41 : decode cX4_sense 41 = .ok (.iload 5, 2) := by decide +kernel
theorem dX4_sense_43 : decode cX4_sense 43 = .ok (.ireturn, 1) := by decide +kernel
set_option maxRecDepth 20000 in
theorem ggX4_deafen_X4_needSection : GoodIn wsX4_deafen wsX4_needSection := goodIn_ca (goodIn_r _ [7, 8, 9, 10, 6, 11, 12, 13, 14, 15, 16, 17, 18, 19, 46, 47, 48, 49, 50, 51, 52, 53, 54] (by decide +kernel) (by decide +kernel)) (goodIn_sub (fun _ h => List.mem_cons_of_mem _ (List.mem_append_right _ h)) (by decide +kernel))
set_option maxRecDepth 20000 in
theorem gX4_deafen_X4_needSection : GoodIn wsX4_deafen (wsV RX4 81 RX4 yX4_needSection wsX4_needSection) := goodIn_app (goodIn_of _ (by decide +kernel)) ggX4_deafen_X4_needSection
set_option maxRecDepth 20000 in
theorem ggX4_deafen_X4_tubeAt : GoodIn wsX4_deafen wsX4_tubeAt := goodIn_r _ [23, 24, 25, 46, 47, 48, 49, 50, 51, 52, 53, 54] (by decide +kernel) (by decide +kernel)
set_option maxRecDepth 20000 in
theorem gX4_deafen_X4_tubeAt : GoodIn wsX4_deafen (wsV RX4 51 RX4 yX4_tubeAt wsX4_tubeAt) := goodIn_app (goodIn_of _ (by decide +kernel)) ggX4_deafen_X4_tubeAt
theorem dX4_deafen_0 : decode cX4_deafen 0 = .ok (.aload_n 0, 1) := by decide +kernel
theorem dX4_deafen_1 : decode cX4_deafen 1 = .ok (.iload_n 1, 1) := by decide +kernel
theorem dX4_deafen_2 : decode cX4_deafen 2 = .ok (.iload_n 2, 1) := by decide +kernel
theorem dX4_deafen_3 : decode cX4_deafen 3 = .ok (.invokevirtual 81, 3) := by decide +kernel
theorem dX4_deafen_6 : decode cX4_deafen 6 = .ok (.aload_n 0, 1) := by decide +kernel
theorem dX4_deafen_7 : decode cX4_deafen 7 = .ok (.iload_n 1, 1) := by decide +kernel
theorem dX4_deafen_8 : decode cX4_deafen 8 = .ok (.invokevirtual 51, 3) := by decide +kernel
theorem dX4_deafen_11 : decode cX4_deafen 11 = .ok (.getfield 84, 3) := by decide +kernel
theorem dX4_deafen_14 : decode cX4_deafen 14 = .ok (.iload_n 2, 1) := by decide +kernel
theorem dX4_deafen_15 : decode cX4_deafen 15 = .ok (.aaload, 1) := by decide +kernel
theorem dX4_deafen_16 : decode cX4_deafen 16 = .ok (.astore 4, 2) := by decide +kernel
theorem dX4_deafen_18 : decode cX4_deafen 18 = .ok (.aload 4, 2) := by decide +kernel
theorem dX4_deafen_20 : decode cX4_deafen 20 = .ok (.getfield 111, 3) := by decide +kernel
theorem dX4_deafen_23 : decode cX4_deafen 23 = .ok (.istore 5, 2) := by decide +kernel
theorem dX4_deafen_25 : decode cX4_deafen 25 = .ok (.aload 4, 2) := by decide +kernel
theorem dX4_deafen_27 : decode cX4_deafen 27 = .ok (.iload_n 3, 1) := by decide +kernel
theorem dX4_deafen_28 : decode cX4_deafen 28 = .ok (.putfield 111, 3) := by decide +kernel
theorem dX4_deafen_31 : decode cX4_deafen 31 = .ok (.iload 5, 2) := by decide +kernel
theorem dX4_deafen_33 : decode cX4_deafen 33 = .ok (.ireturn, 1) := by decide +kernel
set_option maxRecDepth 20000 in
theorem ggX4_pull_X4_needSection : GoodIn wsX4_pull wsX4_needSection := goodIn_ca (goodIn_r _ [7, 8, 9, 10, 6, 11, 12, 13, 14, 15, 16, 17, 18, 19, 46, 47, 48, 49, 50, 51, 52, 53, 54] (by decide +kernel) (by decide +kernel)) (goodIn_sub (fun _ h => List.mem_cons_of_mem _ (List.mem_append_right _ h)) (by decide +kernel))
set_option maxRecDepth 20000 in
theorem gX4_pull_X4_needSection : GoodIn wsX4_pull (wsV RX4 81 RX4 yX4_needSection wsX4_needSection) := goodIn_app (goodIn_of _ (by decide +kernel)) ggX4_pull_X4_needSection
set_option maxRecDepth 20000 in
theorem ggX4_pull_X4_tubeAt : GoodIn wsX4_pull wsX4_tubeAt := goodIn_r _ [23, 24, 25, 46, 47, 48, 49, 50, 51, 52, 53, 54] (by decide +kernel) (by decide +kernel)
set_option maxRecDepth 20000 in
theorem gX4_pull_X4_tubeAt : GoodIn wsX4_pull (wsV RX4 51 RX4 yX4_tubeAt wsX4_tubeAt) := goodIn_app (goodIn_of _ (by decide +kernel)) ggX4_pull_X4_tubeAt
theorem dX4_pull_0 : decode cX4_pull 0 = .ok (.aload_n 0, 1) := by decide +kernel
theorem dX4_pull_1 : decode cX4_pull 1 = .ok (.iload_n 1, 1) := by decide +kernel
theorem dX4_pull_2 : decode cX4_pull 2 = .ok (.iload_n 2, 1) := by decide +kernel
theorem dX4_pull_3 : decode cX4_pull 3 = .ok (.invokevirtual 81, 3) := by decide +kernel
theorem dX4_pull_6 : decode cX4_pull 6 = .ok (.aload_n 0, 1) := by decide +kernel
theorem dX4_pull_7 : decode cX4_pull 7 = .ok (.iload_n 1, 1) := by decide +kernel
theorem dX4_pull_8 : decode cX4_pull 8 = .ok (.invokevirtual 51, 3) := by decide +kernel
theorem dX4_pull_11 : decode cX4_pull 11 = .ok (.getfield 84, 3) := by decide +kernel
theorem dX4_pull_14 : decode cX4_pull 14 = .ok (.iload_n 2, 1) := by decide +kernel
theorem dX4_pull_15 : decode cX4_pull 15 = .ok (.aaload, 1) := by decide +kernel
theorem dX4_pull_16 : decode cX4_pull 16 = .ok (.astore_n 3, 1) := by decide +kernel
theorem dX4_pull_17 : decode cX4_pull 17 = .ok (.aload_n 3, 1) := by decide +kernel
theorem dX4_pull_18 : decode cX4_pull 18 = .ok (.getfield 115, 3) := by decide +kernel
theorem dX4_pull_21 : decode cX4_pull 21 = .ok (.ifCond .ne 7, 3) := by decide +kernel
theorem dX4_pull_24 : decode cX4_pull 24 = .ok (.iconst 1, 1) := by decide +kernel
theorem dX4_pull_25 : decode cX4_pull 25 = .ok (.goto 4, 3) := by decide +kernel
theorem dX4_pull_28 : decode cX4_pull 28 = .ok (.iconst 0, 1) := by decide +kernel
theorem dX4_pull_29 : decode cX4_pull 29 = .ok (.istore 4, 2) := by decide +kernel
theorem dX4_pull_31 : decode cX4_pull 31 = .ok (.aload_n 3, 1) := by decide +kernel
theorem dX4_pull_32 : decode cX4_pull 32 = .ok (.iconst 1, 1) := by decide +kernel
theorem dX4_pull_33 : decode cX4_pull 33 = .ok (.putfield 115, 3) := by decide +kernel
theorem dX4_pull_36 : decode cX4_pull 36 = .ok (.iload 4, 2) := by decide +kernel
theorem dX4_pull_38 : decode cX4_pull 38 = .ok (.ireturn, 1) := by decide +kernel
set_option maxRecDepth 20000 in
theorem ggX4_confirm_X4_needTube : GoodIn wsX4_confirm wsX4_needTube := goodIn_ca (goodIn_r _ [4, 5, 6, 3, 7, 8, 9, 10, 11, 12] (by decide +kernel) (by decide +kernel)) (goodIn_sub (fun _ h => List.mem_cons_of_mem _ (List.mem_append_right _ h)) (by decide +kernel))
set_option maxRecDepth 20000 in
theorem gX4_confirm_X4_needTube : GoodIn wsX4_confirm (va_wsS RX4 40 yX4_needTube wsX4_needTube) := goodIn_app (goodIn_of _ (by decide +kernel)) ggX4_confirm_X4_needTube
set_option maxRecDepth 20000 in
theorem ggX4_confirm_X4_tubeAt : GoodIn wsX4_confirm wsX4_tubeAt := goodIn_r _ [16, 17, 18, 28, 29, 30, 31, 32, 33, 34, 35, 36] (by decide +kernel) (by decide +kernel)
set_option maxRecDepth 20000 in
theorem gX4_confirm_X4_tubeAt : GoodIn wsX4_confirm (wsV RX4 51 RX4 yX4_tubeAt wsX4_tubeAt) := goodIn_app (goodIn_of _ (by decide +kernel)) ggX4_confirm_X4_tubeAt
set_option maxRecDepth 20000 in
theorem ggX4_confirm_X3_pullWhereSuspected : GoodIn wsX4_confirm wsX3_pullWhereSuspected := goodIn_r _ [23, 24, 25, 26, 27, 37, 38, 39, 40, 41, 42, 43, 44, 45, 46, 47, 48, 49, 50, 51, 52, 53, 54, 55, 56] (by decide +kernel) (by decide +kernel)
set_option maxRecDepth 20000 in
theorem gX4_confirm_X3_pullWhereSuspected : GoodIn wsX4_confirm (wsV RX4 118 RX3 yX3_pullWhereSuspected wsX3_pullWhereSuspected) := goodIn_app (goodIn_of _ (by decide +kernel)) ggX4_confirm_X3_pullWhereSuspected
theorem dX4_confirm_0 : decode cX4_confirm 0 = .ok (.iload_n 1, 1) := by decide +kernel
theorem dX4_confirm_1 : decode cX4_confirm 1 = .ok (.invokestatic 40, 3) := by decide +kernel
theorem dX4_confirm_4 : decode cX4_confirm 4 = .ok (.aload_n 0, 1) := by decide +kernel
theorem dX4_confirm_5 : decode cX4_confirm 5 = .ok (.iload_n 1, 1) := by decide +kernel
theorem dX4_confirm_6 : decode cX4_confirm 6 = .ok (.invokevirtual 51, 3) := by decide +kernel
theorem dX4_confirm_9 : decode cX4_confirm 9 = .ok (.invokevirtual 118, 3) := by decide +kernel
theorem dX4_confirm_12 : decode cX4_confirm 12 = .ok (.ireturn, 1) := by decide +kernel
set_option maxRecDepth 20000 in
theorem ggX4_reset_X4_needTube : GoodIn wsX4_reset wsX4_needTube := goodIn_ca (goodIn_r _ [4, 5, 6, 3, 7, 8, 9, 10, 11, 12] (by decide +kernel) (by decide +kernel)) (goodIn_sub (fun _ h => List.mem_cons_of_mem _ (List.mem_append_right _ h)) (by decide +kernel))
set_option maxRecDepth 20000 in
theorem gX4_reset_X4_needTube : GoodIn wsX4_reset (va_wsS RX4 40 yX4_needTube wsX4_needTube) := goodIn_app (goodIn_of _ (by decide +kernel)) ggX4_reset_X4_needTube
set_option maxRecDepth 20000 in
theorem ggX4_reset_X4_tubeAt : GoodIn wsX4_reset wsX4_tubeAt := goodIn_r _ [16, 17, 18, 39, 40, 41, 42, 43, 44, 45, 46, 47] (by decide +kernel) (by decide +kernel)
set_option maxRecDepth 20000 in
theorem gX4_reset_X4_tubeAt : GoodIn wsX4_reset (wsV RX4 51 RX4 yX4_tubeAt wsX4_tubeAt) := goodIn_app (goodIn_of _ (by decide +kernel)) ggX4_reset_X4_tubeAt
set_option maxRecDepth 20000 in
theorem ggX4_reset_X3_endFire : GoodIn wsX4_reset wsX3_endFire := goodIn_r _ [23, 24, 25, 26, 27, 28, 29, 30, 22, 31, 32, 33, 34, 35, 36, 37, 38, 48, 49, 50, 51, 52, 53, 54, 55, 56, 57, 58, 59, 60, 61, 62, 63, 64, 65, 66, 67] (by decide +kernel) (by decide +kernel)
set_option maxRecDepth 20000 in
theorem gX4_reset_X3_endFire : GoodIn wsX4_reset (wsV RX4 122 RX3 yX3_endFire wsX3_endFire) := goodIn_app (goodIn_of _ (by decide +kernel)) ggX4_reset_X3_endFire
theorem dX4_reset_0 : decode cX4_reset 0 = .ok (.iload_n 1, 1) := by decide +kernel
theorem dX4_reset_1 : decode cX4_reset 1 = .ok (.invokestatic 40, 3) := by decide +kernel
theorem dX4_reset_4 : decode cX4_reset 4 = .ok (.aload_n 0, 1) := by decide +kernel
theorem dX4_reset_5 : decode cX4_reset 5 = .ok (.iload_n 1, 1) := by decide +kernel
theorem dX4_reset_6 : decode cX4_reset 6 = .ok (.invokevirtual 51, 3) := by decide +kernel
theorem dX4_reset_9 : decode cX4_reset 9 = .ok (.invokevirtual 122, 3) := by decide +kernel
theorem dX4_reset_12 : decode cX4_reset 12 = .ok (.ireturn, 1) := by decide +kernel
set_option maxRecDepth 20000 in
theorem ggX4_wish_X4_needTube : GoodIn wsX4_wish wsX4_needTube := goodIn_ca (goodIn_r _ [6, 7, 8, 5, 9, 10, 11, 12, 13, 14] (by decide +kernel) (by decide +kernel)) (goodIn_sub (fun _ h => List.mem_cons_of_mem _ (List.mem_append_right _ h)) (by decide +kernel))
set_option maxRecDepth 20000 in
theorem gX4_wish_X4_needTube : GoodIn wsX4_wish (va_wsS RX4 40 yX4_needTube wsX4_needTube) := goodIn_app (goodIn_of _ (by decide +kernel)) ggX4_wish_X4_needTube
set_option maxRecDepth 20000 in
theorem ggX4_wish_X4_isWithin : GoodIn wsX4_wish wsX4_isWithin := goodIn_r _ [9] (by decide +kernel) (by decide +kernel)
set_option maxRecDepth 20000 in
theorem gX4_wish_X4_isWithin : GoodIn wsX4_wish (va_wsS RX4 43 yX4_isWithin wsX4_isWithin) := goodIn_app (goodIn_of _ (by decide +kernel)) ggX4_wish_X4_isWithin
set_option maxRecDepth 20000 in
theorem ggX4_wish_X4_need : GoodIn wsX4_wish wsX4_need := goodIn_ca (goodIn_r _ [12, 13, 14] (by decide +kernel) (by decide +kernel)) (goodIn_sub (fun _ h => List.mem_cons_of_mem _ (List.mem_append_right _ h)) (by decide +kernel))
set_option maxRecDepth 20000 in
theorem gX4_wish_X4_need : GoodIn wsX4_wish (va_wsS RX4 47 yX4_need wsX4_need) := goodIn_app (goodIn_of _ (by decide +kernel)) ggX4_wish_X4_need
set_option maxRecDepth 20000 in
theorem ggX4_wish_X4_tubeAt : GoodIn wsX4_wish wsX4_tubeAt := goodIn_r _ [18, 19, 20, 36, 37, 38, 39, 40, 41, 42, 43, 44] (by decide +kernel) (by decide +kernel)
set_option maxRecDepth 20000 in
theorem gX4_wish_X4_tubeAt : GoodIn wsX4_wish (wsV RX4 51 RX4 yX4_tubeAt wsX4_tubeAt) := goodIn_app (goodIn_of _ (by decide +kernel)) ggX4_wish_X4_tubeAt
set_option maxRecDepth 20000 in
theorem ggX4_wish_X4_directionOf : GoodIn wsX4_wish wsX4_directionOf := goodIn_r _ [23] (by decide +kernel) (by decide +kernel)
set_option maxRecDepth 20000 in
theorem gX4_wish_X4_directionOf : GoodIn wsX4_wish (va_wsS RX4 93 yX4_directionOf wsX4_directionOf) := goodIn_app (goodIn_of _ (by decide +kernel)) ggX4_wish_X4_directionOf
theorem dX4_wish_0 : decode cX4_wish 0 = .ok (.iload_n 1, 1) := by decide +kernel
theorem dX4_wish_1 : decode cX4_wish 1 = .ok (.invokestatic 40, 3) := by decide +kernel
theorem dX4_wish_4 : decode cX4_wish 4 = .ok (.iload_n 3, 1) := by decide +kernel
theorem dX4_wish_5 : decode cX4_wish 5 = .ok (.iconst 0, 1) := by decide +kernel
theorem dX4_wish_6 : decode cX4_wish 6 = .ok (.bipush 12, 2) := by decide +kernel
theorem dX4_wish_8 : decode cX4_wish 8 = .ok (.invokestatic 43, 3) := by decide +kernel
theorem dX4_wish_11 : decode cX4_wish 11 = .ok (.invokestatic 47, 3) := by decide +kernel
theorem dX4_wish_14 : decode cX4_wish 14 = .ok (.aload_n 0, 1) := by decide +kernel
theorem dX4_wish_15 : decode cX4_wish 15 = .ok (.iload_n 1, 1) := by decide +kernel
theorem dX4_wish_16 : decode cX4_wish 16 = .ok (.invokevirtual 51, 3) := by decide +kernel
theorem dX4_wish_19 : decode cX4_wish 19 = .ok (.astore 4, 2) := by decide +kernel
theorem dX4_wish_21 : decode cX4_wish 21 = .ok (.aload 4, 2) := by decide +kernel
theorem dX4_wish_23 : decode cX4_wish 23 = .ok (.iload_n 2, 1) := by decide +kernel
theorem dX4_wish_24 : decode cX4_wish 24 = .ok (.invokestatic 93, 3) := by decide +kernel
theorem dX4_wish_27 : decode cX4_wish 27 = .ok (.putfield 125, 3) := by decide +kernel
theorem dX4_wish_30 : decode cX4_wish 30 = .ok (.aload 4, 2) := by decide +kernel
theorem dX4_wish_32 : decode cX4_wish 32 = .ok (.iload_n 3, 1) := by decide +kernel
theorem dX4_wish_33 : decode cX4_wish 33 = .ok (.putfield 128, 3) := by decide +kernel
theorem dX4_wish_36 : decode cX4_wish 36 = .ok (.return_, 1) := by decide +kernel
set_option maxRecDepth 20000 in
theorem ggX4_order_X4_needTube : GoodIn wsX4_order wsX4_needTube := goodIn_ca (goodIn_r _ [5, 6, 7, 4, 8, 9, 10, 11, 12, 13] (by decide +kernel) (by decide +kernel)) (goodIn_sub (fun _ h => List.mem_cons_of_mem _ (List.mem_append_right _ h)) (by decide +kernel))
set_option maxRecDepth 20000 in
theorem gX4_order_X4_needTube : GoodIn wsX4_order (va_wsS RX4 40 yX4_needTube wsX4_needTube) := goodIn_app (goodIn_of _ (by decide +kernel)) ggX4_order_X4_needTube
set_option maxRecDepth 20000 in
theorem ggX4_order_X4_tubeAt : GoodIn wsX4_order wsX4_tubeAt := goodIn_r _ [17, 18, 19, 32, 33, 34, 35, 36, 37, 38, 39, 40] (by decide +kernel) (by decide +kernel)
set_option maxRecDepth 20000 in
theorem gX4_order_X4_tubeAt : GoodIn wsX4_order (wsV RX4 51 RX4 yX4_tubeAt wsX4_tubeAt) := goodIn_app (goodIn_of _ (by decide +kernel)) ggX4_order_X4_tubeAt
theorem dX4_order_0 : decode cX4_order 0 = .ok (.iload_n 1, 1) := by decide +kernel
theorem dX4_order_1 : decode cX4_order 1 = .ok (.invokestatic 40, 3) := by decide +kernel
theorem dX4_order_4 : decode cX4_order 4 = .ok (.aload_n 0, 1) := by decide +kernel
theorem dX4_order_5 : decode cX4_order 5 = .ok (.iload_n 1, 1) := by decide +kernel
theorem dX4_order_6 : decode cX4_order 6 = .ok (.invokevirtual 51, 3) := by decide +kernel
theorem dX4_order_9 : decode cX4_order 9 = .ok (.astore_n 3, 1) := by decide +kernel
theorem dX4_order_10 : decode cX4_order 10 = .ok (.aload_n 3, 1) := by decide +kernel
theorem dX4_order_11 : decode cX4_order 11 = .ok (.getfield 131, 3) := by decide +kernel
theorem dX4_order_14 : decode cX4_order 14 = .ok (.istore 4, 2) := by decide +kernel
theorem dX4_order_16 : decode cX4_order 16 = .ok (.aload_n 3, 1) := by decide +kernel
theorem dX4_order_17 : decode cX4_order 17 = .ok (.iload_n 2, 1) := by decide +kernel
theorem dX4_order_18 : decode cX4_order 18 = .ok (.putfield 131, 3) := by decide +kernel
theorem dX4_order_21 : decode cX4_order 21 = .ok (.iload 4, 2) := by decide +kernel
theorem dX4_order_23 : decode cX4_order 23 = .ok (.ireturn, 1) := by decide +kernel
set_option maxRecDepth 20000 in
theorem ggX4_limit_X4_isWithin : GoodIn wsX4_limit wsX4_isWithin := goodIn_r _ [6] (by decide +kernel) (by decide +kernel)
set_option maxRecDepth 20000 in
theorem gX4_limit_X4_isWithin : GoodIn wsX4_limit (va_wsS RX4 43 yX4_isWithin wsX4_isWithin) := goodIn_app (goodIn_of _ (by decide +kernel)) ggX4_limit_X4_isWithin
set_option maxRecDepth 20000 in
theorem ggX4_limit_X4_need : GoodIn wsX4_limit wsX4_need := goodIn_ca (goodIn_r _ [9, 10, 11] (by decide +kernel) (by decide +kernel)) (goodIn_sub (fun _ h => List.mem_cons_of_mem _ (List.mem_append_right _ h)) (by decide +kernel))
set_option maxRecDepth 20000 in
theorem gX4_limit_X4_need : GoodIn wsX4_limit (va_wsS RX4 47 yX4_need wsX4_need) := goodIn_app (goodIn_of _ (by decide +kernel)) ggX4_limit_X4_need
theorem dX4_limit_0 : decode cX4_limit 0 = .ok (.iload_n 1, 1) := by decide +kernel
theorem dX4_limit_1 : decode cX4_limit 1 = .ok (.iconst 0, 1) := by decide +kernel
theorem dX4_limit_2 : decode cX4_limit 2 = .ok (.ldc 20, 2) := by decide +kernel
theorem dX4_limit_4 : decode cX4_limit 4 = .ok (.invokestatic 43, 3) := by decide +kernel
theorem dX4_limit_7 : decode cX4_limit 7 = .ok (.invokestatic 47, 3) := by decide +kernel
theorem dX4_limit_10 : decode cX4_limit 10 = .ok (.aload_n 0, 1) := by decide +kernel
theorem dX4_limit_11 : decode cX4_limit 11 = .ok (.getfield 21, 3) := by decide +kernel
theorem dX4_limit_14 : decode cX4_limit 14 = .ok (.istore_n 2, 1) := by decide +kernel
theorem dX4_limit_15 : decode cX4_limit 15 = .ok (.aload_n 0, 1) := by decide +kernel
theorem dX4_limit_16 : decode cX4_limit 16 = .ok (.iload_n 1, 1) := by decide +kernel
theorem dX4_limit_17 : decode cX4_limit 17 = .ok (.putfield 21, 3) := by decide +kernel
theorem dX4_limit_20 : decode cX4_limit 20 = .ok (.iload_n 2, 1) := by decide +kernel
theorem dX4_limit_21 : decode cX4_limit 21 = .ok (.ireturn, 1) := by decide +kernel
set_option maxRecDepth 20000 in
theorem ggX4_fail_X4_needDevice : GoodIn wsX4_fail wsX4_needDevice := goodIn_ca (goodIn_r _ [6, 7, 8, 9, 5, 10, 11, 12, 13, 14, 15, 16, 17, 18, 19, 20, 21, 22, 23, 24, 48, 49, 50, 51, 52, 53, 54, 55, 56, 57, 58, 59, 60, 61, 62, 63, 64, 65, 66, 67, 68] (by decide +kernel) (by decide +kernel)) (goodIn_sub (fun _ h => List.mem_cons_of_mem _ (List.mem_append_right _ h)) (by decide +kernel))
set_option maxRecDepth 20000 in
theorem gX4_fail_X4_needDevice : GoodIn wsX4_fail (wsV RX4 68 RX4 yX4_needDevice wsX4_needDevice) := goodIn_app (goodIn_of _ (by decide +kernel)) ggX4_fail_X4_needDevice
set_option maxRecDepth 20000 in
theorem ggX4_fail_X4_tubeAt : GoodIn wsX4_fail wsX4_tubeAt := goodIn_r _ [22, 23, 24, 60, 61, 62, 63, 64, 65, 66, 67, 68] (by decide +kernel) (by decide +kernel)
set_option maxRecDepth 20000 in
theorem gX4_fail_X4_tubeAt : GoodIn wsX4_fail (wsV RX4 51 RX4 yX4_tubeAt wsX4_tubeAt) := goodIn_app (goodIn_of _ (by decide +kernel)) ggX4_fail_X4_tubeAt
set_option maxRecDepth 20000 in
theorem ggX4_fail_X3_deviceAt : GoodIn wsX4_fail wsX3_deviceAt := goodIn_r _ [29, 30, 31, 32, 48, 49, 50, 51, 52, 53, 54, 55, 56, 57, 58, 59] (by decide +kernel) (by decide +kernel)
set_option maxRecDepth 20000 in
theorem gX4_fail_X3_deviceAt : GoodIn wsX4_fail (wsV RX4 72 RX3 yX3_deviceAt wsX3_deviceAt) := goodIn_app (goodIn_of _ (by decide +kernel)) ggX4_fail_X3_deviceAt
theorem dX4_fail_0 : decode cX4_fail 0 = .ok (.aload_n 0, 1) := by decide +kernel
theorem dX4_fail_1 : decode cX4_fail 1 = .ok (.iload_n 1, 1) := by decide +kernel
theorem dX4_fail_2 : decode cX4_fail 2 = .ok (.iload_n 2, 1) := by decide +kernel
theorem dX4_fail_3 : decode cX4_fail 3 = .ok (.invokevirtual 68, 3) := by decide +kernel
theorem dX4_fail_6 : decode cX4_fail 6 = .ok (.aload_n 0, 1) := by decide +kernel
theorem dX4_fail_7 : decode cX4_fail 7 = .ok (.iload_n 1, 1) := by decide +kernel
theorem dX4_fail_8 : decode cX4_fail 8 = .ok (.invokevirtual 51, 3) := by decide +kernel
theorem dX4_fail_11 : decode cX4_fail 11 = .ok (.iload_n 2, 1) := by decide +kernel
theorem dX4_fail_12 : decode cX4_fail 12 = .ok (.invokevirtual 72, 3) := by decide +kernel
theorem dX4_fail_15 : decode cX4_fail 15 = .ok (.astore_n 3, 1) := by decide +kernel
theorem dX4_fail_16 : decode cX4_fail 16 = .ok (.aload_n 3, 1) := by decide +kernel
theorem dX4_fail_17 : decode cX4_fail 17 = .ok (.getfield 134, 3) := by decide +kernel
theorem dX4_fail_20 : decode cX4_fail 20 = .ok (.ifCond .ne 7, 3) := by decide +kernel
theorem dX4_fail_23 : decode cX4_fail 23 = .ok (.iconst 1, 1) := by decide +kernel
theorem dX4_fail_24 : decode cX4_fail 24 = .ok (.goto 4, 3) := by decide +kernel
theorem dX4_fail_27 : decode cX4_fail 27 = .ok (.iconst 0, 1) := by decide +kernel
theorem dX4_fail_28 : decode cX4_fail 28 = .ok (.istore 4, 2) := by decide +kernel
theorem dX4_fail_30 : decode cX4_fail 30 = .ok (.aload_n 3, 1) := by decide +kernel
theorem dX4_fail_31 : decode cX4_fail 31 = .ok (.iconst 1, 1) := by decide +kernel
theorem dX4_fail_32 : decode cX4_fail 32 = .ok (.putfield 134, 3) := by decide +kernel
theorem dX4_fail_35 : decode cX4_fail 35 = .ok (.iload 4, 2) := by decide +kernel
theorem dX4_fail_37 : decode cX4_fail 37 = .ok (.ireturn, 1) := by decide +kernel
set_option maxRecDepth 20000 in
theorem ggX4_mend_X4_needDevice : GoodIn wsX4_mend wsX4_needDevice := goodIn_ca (goodIn_r _ [5, 6, 7, 8, 4, 9, 10, 11, 12, 13, 14, 15, 16, 17, 18, 19, 20, 21, 22, 23, 44, 45, 46, 47, 48, 49, 50, 51, 52, 53, 54, 55, 56, 57, 58, 59, 60, 61, 62, 63, 64] (by decide +kernel) (by decide +kernel)) (goodIn_sub (fun _ h => List.mem_cons_of_mem _ (List.mem_append_right _ h)) (by decide +kernel))
set_option maxRecDepth 20000 in
theorem gX4_mend_X4_needDevice : GoodIn wsX4_mend (wsV RX4 68 RX4 yX4_needDevice wsX4_needDevice) := goodIn_app (goodIn_of _ (by decide +kernel)) ggX4_mend_X4_needDevice
set_option maxRecDepth 20000 in
theorem ggX4_mend_X4_tubeAt : GoodIn wsX4_mend wsX4_tubeAt := goodIn_r _ [21, 22, 23, 56, 57, 58, 59, 60, 61, 62, 63, 64] (by decide +kernel) (by decide +kernel)
set_option maxRecDepth 20000 in
theorem gX4_mend_X4_tubeAt : GoodIn wsX4_mend (wsV RX4 51 RX4 yX4_tubeAt wsX4_tubeAt) := goodIn_app (goodIn_of _ (by decide +kernel)) ggX4_mend_X4_tubeAt
set_option maxRecDepth 20000 in
theorem ggX4_mend_X3_deviceAt : GoodIn wsX4_mend wsX3_deviceAt := goodIn_r _ [28, 29, 30, 31, 44, 45, 46, 47, 48, 49, 50, 51, 52, 53, 54, 55] (by decide +kernel) (by decide +kernel)
set_option maxRecDepth 20000 in
theorem gX4_mend_X3_deviceAt : GoodIn wsX4_mend (wsV RX4 72 RX3 yX3_deviceAt wsX3_deviceAt) := goodIn_app (goodIn_of _ (by decide +kernel)) ggX4_mend_X3_deviceAt
set_option maxRecDepth 20000 in
theorem ggX4_mend_X0_repair : GoodIn wsX4_mend wsX0_repair := goodIn_r _ [36, 37, 38, 39, 40, 65, 66, 67, 68, 69, 70, 71, 72, 73, 74, 75, 76, 77, 78, 79] (by decide +kernel) (by decide +kernel)
set_option maxRecDepth 20000 in
theorem gX4_mend_X0_repair : GoodIn wsX4_mend (wsV RX4 137 RX0 yX0_repair wsX0_repair) := goodIn_app (goodIn_of _ (by decide +kernel)) ggX4_mend_X0_repair
set_option maxRecDepth 20000 in
theorem gX4_mend_X0_repair_u137X1 : GoodIn wsX4_mend (va_wsU RX4 137 RX1 "TunnelWatch$Device" ⟨"TunnelWatch$Device", "repair", "()Z"⟩ yX0_repair wsX0_repair) := goodIn_app (goodIn_of _ (by decide +kernel)) ggX4_mend_X0_repair
theorem dX4_mend_0 : decode cX4_mend 0 = .ok (.aload_n 0, 1) := by decide +kernel
theorem dX4_mend_1 : decode cX4_mend 1 = .ok (.iload_n 1, 1) := by decide +kernel
theorem dX4_mend_2 : decode cX4_mend 2 = .ok (.iload_n 2, 1) := by decide +kernel
theorem dX4_mend_3 : decode cX4_mend 3 = .ok (.invokevirtual 68, 3) := by decide +kernel
theorem dX4_mend_6 : decode cX4_mend 6 = .ok (.aload_n 0, 1) := by decide +kernel
theorem dX4_mend_7 : decode cX4_mend 7 = .ok (.iload_n 1, 1) := by decide +kernel
theorem dX4_mend_8 : decode cX4_mend 8 = .ok (.invokevirtual 51, 3) := by decide +kernel
theorem dX4_mend_11 : decode cX4_mend 11 = .ok (.iload_n 2, 1) := by decide +kernel
theorem dX4_mend_12 : decode cX4_mend 12 = .ok (.invokevirtual 72, 3) := by decide +kernel
theorem dX4_mend_15 : decode cX4_mend 15 = .ok (.invokevirtual 137, 3) := by decide +kernel
theorem dX4_mend_18 : decode cX4_mend 18 = .ok (.ireturn, 1) := by decide +kernel
set_option maxRecDepth 20000 in
theorem ggX4_ticks_X4_isWithin : GoodIn wsX4_ticks wsX4_isWithin := goodIn_r _ [5] (by decide +kernel) (by decide +kernel)
set_option maxRecDepth 20000 in
theorem gX4_ticks_X4_isWithin : GoodIn wsX4_ticks (va_wsS RX4 43 yX4_isWithin wsX4_isWithin) := goodIn_app (goodIn_of _ (by decide +kernel)) ggX4_ticks_X4_isWithin
set_option maxRecDepth 20000 in
theorem ggX4_ticks_X4_need : GoodIn wsX4_ticks wsX4_need := goodIn_ca (goodIn_r _ [8, 9, 10] (by decide +kernel) (by decide +kernel)) (goodIn_sub (fun _ h => List.mem_cons_of_mem _ (List.mem_append_left _ (List.mem_append_right _ h))) (by decide +kernel))
set_option maxRecDepth 20000 in
theorem gX4_ticks_X4_need : GoodIn wsX4_ticks (va_wsS RX4 47 yX4_need wsX4_need) := goodIn_app (goodIn_of _ (by decide +kernel)) ggX4_ticks_X4_need
set_option maxRecDepth 20000 in
theorem ggX4_ticks_X4_needState : GoodIn wsX4_ticks wsX4_needState := goodIn_ca (goodIn_r _ [13, 14, 15] (by decide +kernel) (by decide +kernel)) (goodIn_sub (fun _ h => List.mem_cons_of_mem _ (List.mem_append_right _ h)) (by decide +kernel))
set_option maxRecDepth 20000 in
theorem gX4_ticks_X4_needState : GoodIn wsX4_ticks (va_wsS RX4 58 yX4_needState wsX4_needState) := goodIn_app (goodIn_of _ (by decide +kernel)) ggX4_ticks_X4_needState
set_option maxRecDepth 20000 in
theorem ggX4_ticks_X4_tick : GoodIn wsX4_ticks wsX4_tick := goodIn_r _ [19, 1, 20, 21, 22, 23, 24, 25, 26, 27, 28, 29, 30, 31, 32, 33, 34, 35, 36, 37, 38, 39, 40, 41, 42, 43, 44, 45, 46, 47, 48, 49, 50, 51, 52, 53, 54, 55, 56, 57, 58, 59, 60, 61, 62, 63, 64, 65, 66, 67, 68, 69, 70, 71, 72, 73, 74, 75, 76, 77, 78, 79, 80, 81, 82, 83, 84, 85, 86, 87, 88, 89, 90, 91, 92, 93, 94, 95, 96, 97, 98, 99, 100, 101, 102, 103, 104, 105, 106, 107, 108, 109, 110, 111, 112, 113, 114, 115, 116, 117, 118, 4, 119, 120, 121, 122, 123, 124, 125, 126, 127, 128, 129, 130, 131, 132, 133, 134, 135, 136, 137, 138, 139, 140, 141, 142, 143, 144, 145, 146, 147, 148, 149, 150, 151, 152, 153, 154, 155, 156, 157, 158, 159, 160, 161, 162, 163, 164, 165, 166, 167, 168, 169, 170, 171, 172, 173, 174, 175, 176, 177, 178, 179, 180, 181, 182, 183, 184, 185, 186, 187, 188, 189, 190, 191, 192, 193, 194, 195, 196, 197, 198, 199, 200, 201, 202, 203, 204, 205, 206, 207, 208, 209, 210, 211, 212, 213, 214, 215, 216, 217, 218, 219, 220, 221, 222, 223, 224, 225, 226, 227, 228, 229, 230, 231, 232, 233, 234, 235, 236, 237, 238, 239, 240, 241, 242, 243, 244, 245, 246, 247, 248, 249, 250, 251, 252, 253, 254, 255, 256, 257, 258, 259, 260, 261, 262, 263, 264, 265, 266, 267, 268, 269, 270, 271, 272, 273, 274, 275, 276, 277, 278, 279, 280, 281, 282, 283, 284, 285, 286, 287, 288, 289, 290, 291, 292, 293, 294, 295, 296, 297, 298, 299, 300, 301] (by decide +kernel) (by decide +kernel)
set_option maxRecDepth 20000 in
theorem gX4_ticks_X4_tick : GoodIn wsX4_ticks (wsV RX4 140 RX4 yX4_tick wsX4_tick) := goodIn_app (goodIn_of _ (by decide +kernel)) ggX4_ticks_X4_tick
theorem dX4_ticks_0 : decode cX4_ticks 0 = .ok (.iload_n 1, 1) := by decide +kernel
theorem dX4_ticks_1 : decode cX4_ticks 1 = .ok (.iconst 1, 1) := by decide +kernel
theorem dX4_ticks_2 : decode cX4_ticks 2 = .ok (.sipush 200, 3) := by decide +kernel
theorem dX4_ticks_5 : decode cX4_ticks 5 = .ok (.invokestatic 43, 3) := by decide +kernel
theorem dX4_ticks_8 : decode cX4_ticks 8 = .ok (.invokestatic 47, 3) := by decide +kernel
theorem dX4_ticks_11 : decode cX4_ticks 11 = .ok (.aload_n 0, 1) := by decide +kernel
theorem dX4_ticks_12 : decode cX4_ticks 12 = .ok (.getfield 61, 3) := by decide +kernel
theorem dX4_ticks_15 : decode cX4_ticks 15 = .ok (.iload_n 1, 1) := by decide +kernel
theorem dX4_ticks_16 : decode cX4_ticks 16 = .ok (.iadd, 1) := by decide +kernel
theorem dX4_ticks_17 : decode cX4_ticks 17 = .ok (.sipush 20000, 3) := by decide +kernel
theorem dX4_ticks_20 : decode cX4_ticks 20 = .ok (.if_icmp .gt 7, 3) := by decide +kernel
theorem dX4_ticks_23 : decode cX4_ticks 23 = .ok (.iconst 1, 1) := by decide +kernel
theorem dX4_ticks_24 : decode cX4_ticks 24 = .ok (.goto 4, 3) := by decide +kernel
theorem dX4_ticks_27 : decode cX4_ticks 27 = .ok (.iconst 0, 1) := by decide +kernel
theorem dX4_ticks_28 : decode cX4_ticks 28 = .ok (.invokestatic 58, 3) := by decide +kernel
theorem dX4_ticks_31 : decode cX4_ticks 31 = .ok (.iconst 0, 1) := by decide +kernel
theorem dX4_ticks_32 : decode cX4_ticks 32 = .ok (.istore_n 2, 1) := by decide +kernel
theorem dX4_ticks_33 : decode cX4_ticks 33 = .ok (.iload_n 2, 1) := by decide +kernel
theorem dX4_ticks_34 : decode cX4_ticks 34 = .ok (.iload_n 1, 1) := by decide +kernel
theorem dX4_ticks_35 : decode cX4_ticks 35 = .ok (.if_icmp .ge 13, 3) := by decide +kernel
theorem dX4_ticks_38 : decode cX4_ticks 38 = .ok (.aload_n 0, 1) := by decide +kernel
theorem dX4_ticks_39 : decode cX4_ticks 39 = .ok (.invokevirtual 140, 3) := by decide +kernel
theorem dX4_ticks_42 : decode cX4_ticks 42 = .ok (.iinc 2 1, 3) := by decide +kernel
theorem dX4_ticks_45 : decode cX4_ticks 45 = .ok (.goto (-12), 3) := by decide +kernel
theorem dX4_ticks_48 : decode cX4_ticks 48 = .ok (.aload_n 0, 1) := by decide +kernel
theorem dX4_ticks_49 : decode cX4_ticks 49 = .ok (.getfield 61, 3) := by decide +kernel
theorem dX4_ticks_52 : decode cX4_ticks 52 = .ok (.ireturn, 1) := by decide +kernel
set_option maxRecDepth 20000 in
theorem ggX4_tube_X4_needTube : GoodIn wsX4_tube wsX4_needTube := goodIn_ca (goodIn_r _ [8, 9, 10, 7, 11, 12, 13, 14, 15, 16] (by decide +kernel) (by decide +kernel)) (goodIn_sub (fun _ h => List.mem_cons_of_mem _ (List.mem_append_right _ h)) (by decide +kernel))
set_option maxRecDepth 20000 in
theorem gX4_tube_X4_needTube : GoodIn wsX4_tube (va_wsS RX4 40 yX4_needTube wsX4_needTube) := goodIn_app (goodIn_of _ (by decide +kernel)) ggX4_tube_X4_needTube
set_option maxRecDepth 20000 in
theorem ggX4_tube_X4_isWithin : GoodIn wsX4_tube wsX4_isWithin := goodIn_r _ [11] (by decide +kernel) (by decide +kernel)
set_option maxRecDepth 20000 in
theorem gX4_tube_X4_isWithin : GoodIn wsX4_tube (va_wsS RX4 43 yX4_isWithin wsX4_isWithin) := goodIn_app (goodIn_of _ (by decide +kernel)) ggX4_tube_X4_isWithin
set_option maxRecDepth 20000 in
theorem ggX4_tube_X4_need : GoodIn wsX4_tube wsX4_need := goodIn_ca (goodIn_r _ [14, 15, 16] (by decide +kernel) (by decide +kernel)) (goodIn_sub (fun _ h => List.mem_cons_of_mem _ (List.mem_append_right _ h)) (by decide +kernel))
set_option maxRecDepth 20000 in
theorem gX4_tube_X4_need : GoodIn wsX4_tube (va_wsS RX4 47 yX4_need wsX4_need) := goodIn_app (goodIn_of _ (by decide +kernel)) ggX4_tube_X4_need
set_option maxRecDepth 20000 in
theorem ggX4_tube_X4_tubeAt : GoodIn wsX4_tube wsX4_tubeAt := goodIn_r _ [20, 21, 22, 44, 45, 46, 47, 48, 49, 50, 51, 52] (by decide +kernel) (by decide +kernel)
set_option maxRecDepth 20000 in
theorem gX4_tube_X4_tubeAt : GoodIn wsX4_tube (wsV RX4 51 RX4 yX4_tubeAt wsX4_tubeAt) := goodIn_app (goodIn_of _ (by decide +kernel)) ggX4_tube_X4_tubeAt
set_option maxRecDepth 20000 in
theorem ggX4_tube_X3_countBlowing : GoodIn wsX4_tube wsX3_countBlowing := goodIn_r _ [27, 28, 29, 30, 31, 32, 33, 34, 35, 36, 37, 38, 39, 40, 41, 42, 43, 53, 54, 55, 56, 57, 58, 59, 60, 61, 62, 63, 64, 65, 66, 67] (by decide +kernel) (by decide +kernel)
set_option maxRecDepth 20000 in
theorem gX4_tube_X3_countBlowing : GoodIn wsX4_tube (wsV RX4 155 RX3 yX3_countBlowing wsX3_countBlowing) := goodIn_app (goodIn_of _ (by decide +kernel)) ggX4_tube_X3_countBlowing
theorem dX4_tube_0 : decode cX4_tube 0 = .ok (.iload_n 1, 1) := by decide +kernel
theorem dX4_tube_1 : decode cX4_tube 1 = .ok (.invokestatic 40, 3) := by decide +kernel
theorem dX4_tube_4 : decode cX4_tube 4 = .ok (.iload_n 2, 1) := by decide +kernel
theorem dX4_tube_5 : decode cX4_tube 5 = .ok (.iconst 0, 1) := by decide +kernel
theorem dX4_tube_6 : decode cX4_tube 6 = .ok (.iconst 4, 1) := by decide +kernel
theorem dX4_tube_7 : decode cX4_tube 7 = .ok (.invokestatic 43, 3) := by decide +kernel
theorem dX4_tube_10 : decode cX4_tube 10 = .ok (.invokestatic 47, 3) := by decide +kernel
theorem dX4_tube_13 : decode cX4_tube 13 = .ok (.aload_n 0, 1) := by decide +kernel
theorem dX4_tube_14 : decode cX4_tube 14 = .ok (.iload_n 1, 1) := by decide +kernel
theorem dX4_tube_15 : decode cX4_tube 15 = .ok (.invokevirtual 51, 3) := by decide +kernel
theorem dX4_tube_18 : decode cX4_tube 18 = .ok (.astore_n 3, 1) := by decide +kernel
theorem dX4_tube_19 : decode cX4_tube 19 = .ok (.iload_n 2, 1) := by decide +kernel
theorem dX4_tube_20 : decode cX4_tube 20 = .ok (.tableswitch 52 0 3 #[32, 37, 42, 47], 32) := by decide +kernel
theorem dX4_tube_52 : decode cX4_tube 52 = .ok (.aload_n 3, 1) := by decide +kernel
theorem dX4_tube_53 : decode cX4_tube 53 = .ok (.getfield 143, 3) := by decide +kernel
theorem dX4_tube_56 : decode cX4_tube 56 = .ok (.ireturn, 1) := by decide +kernel
theorem dX4_tube_57 : decode cX4_tube 57 = .ok (.aload_n 3, 1) := by decide +kernel
theorem dX4_tube_58 : decode cX4_tube 58 = .ok (.getfield 146, 3) := by decide +kernel
theorem dX4_tube_61 : decode cX4_tube 61 = .ok (.ireturn, 1) := by decide +kernel
theorem dX4_tube_62 : decode cX4_tube 62 = .ok (.aload_n 3, 1) := by decide +kernel
theorem dX4_tube_63 : decode cX4_tube 63 = .ok (.getfield 149, 3) := by decide +kernel
theorem dX4_tube_66 : decode cX4_tube 66 = .ok (.ireturn, 1) := by decide +kernel
theorem dX4_tube_67 : decode cX4_tube 67 = .ok (.aload_n 3, 1) := by decide +kernel
theorem dX4_tube_68 : decode cX4_tube 68 = .ok (.getfield 152, 3) := by decide +kernel
theorem dX4_tube_71 : decode cX4_tube 71 = .ok (.ireturn, 1) := by decide +kernel
theorem dX4_tube_72 : decode cX4_tube 72 = .ok (.aload_n 3, 1) := by decide +kernel
theorem dX4_tube_73 : decode cX4_tube 73 = .ok (.aload_n 3, 1) := by decide +kernel
theorem dX4_tube_74 : decode cX4_tube 74 = .ok (.getfield 149, 3) := by decide +kernel
theorem dX4_tube_77 : decode cX4_tube 77 = .ok (.invokevirtual 155, 3) := by decide +kernel
theorem dX4_tube_80 : decode cX4_tube 80 = .ok (.ireturn, 1) := by decide +kernel
set_option maxRecDepth 20000 in
theorem ggX4_device_X4_needDevice : GoodIn wsX4_device wsX4_needDevice := goodIn_ca (goodIn_r _ [11, 12, 13, 14, 10, 15, 16, 17, 18, 19, 20, 21, 22, 23, 24, 25, 26, 27, 28, 29, 55, 56, 57, 58, 59, 60, 61, 62, 63, 64, 65, 66, 82, 83, 84, 85, 86, 87, 88, 89, 90] (by decide +kernel) (by decide +kernel)) (goodIn_sub (fun _ h => List.mem_cons_of_mem _ (List.mem_append_right _ h)) (by decide +kernel))
set_option maxRecDepth 20000 in
theorem gX4_device_X4_needDevice : GoodIn wsX4_device (wsV RX4 68 RX4 yX4_needDevice wsX4_needDevice) := goodIn_app (goodIn_of _ (by decide +kernel)) ggX4_device_X4_needDevice
set_option maxRecDepth 20000 in
theorem ggX4_device_X4_isWithin : GoodIn wsX4_device wsX4_isWithin := goodIn_r _ [18] (by decide +kernel) (by decide +kernel)
set_option maxRecDepth 20000 in
theorem gX4_device_X4_isWithin : GoodIn wsX4_device (va_wsS RX4 43 yX4_isWithin wsX4_isWithin) := goodIn_app (goodIn_of _ (by decide +kernel)) ggX4_device_X4_isWithin
set_option maxRecDepth 20000 in
theorem ggX4_device_X4_need : GoodIn wsX4_device wsX4_need := goodIn_ca (goodIn_r _ [21, 22, 23] (by decide +kernel) (by decide +kernel)) (goodIn_sub (fun _ h => List.mem_cons_of_mem _ (List.mem_append_right _ h)) (by decide +kernel))
set_option maxRecDepth 20000 in
theorem gX4_device_X4_need : GoodIn wsX4_device (va_wsS RX4 47 yX4_need wsX4_need) := goodIn_app (goodIn_of _ (by decide +kernel)) ggX4_device_X4_need
set_option maxRecDepth 20000 in
theorem ggX4_device_X4_tubeAt : GoodIn wsX4_device wsX4_tubeAt := goodIn_r _ [27, 28, 29, 82, 83, 84, 85, 86, 87, 88, 89, 90] (by decide +kernel) (by decide +kernel)
set_option maxRecDepth 20000 in
theorem gX4_device_X4_tubeAt : GoodIn wsX4_device (wsV RX4 51 RX4 yX4_tubeAt wsX4_tubeAt) := goodIn_app (goodIn_of _ (by decide +kernel)) ggX4_device_X4_tubeAt
set_option maxRecDepth 20000 in
theorem ggX4_device_X4_tellFan : GoodIn wsX4_device wsX4_tellFan := goodIn_r _ [33, 34, 35, 36, 37, 38, 39, 40, 41, 42, 43, 44, 45, 46, 73, 74, 75, 76, 77, 78, 79, 80, 81, 82, 83, 84, 85, 86, 87, 88, 89, 90, 67, 68, 69, 70, 71, 72] (by decide +kernel) (by decide +kernel)
set_option maxRecDepth 20000 in
theorem gX4_device_X4_tellFan : GoodIn wsX4_device (wsV RX4 162 RX4 yX4_tellFan wsX4_tellFan) := goodIn_app (goodIn_of _ (by decide +kernel)) ggX4_device_X4_tellFan
set_option maxRecDepth 20000 in
theorem ggX4_device_X3_deviceAt : GoodIn wsX4_device wsX3_deviceAt := goodIn_r _ [51, 52, 53, 54, 55, 56, 57, 58, 59, 60, 61, 62, 63, 64, 65, 66] (by decide +kernel) (by decide +kernel)
set_option maxRecDepth 20000 in
theorem gX4_device_X3_deviceAt : GoodIn wsX4_device (wsV RX4 72 RX3 yX3_deviceAt wsX3_deviceAt) := goodIn_app (goodIn_of _ (by decide +kernel)) ggX4_device_X3_deviceAt
theorem dX4_device_0 : decode cX4_device 0 = .ok (.aload_n 0, 1) := by decide +kernel
theorem dX4_device_1 : decode cX4_device 1 = .ok (.iload_n 1, 1) := by decide +kernel
theorem dX4_device_2 : decode cX4_device 2 = .ok (.iload_n 2, 1) := by decide +kernel
theorem dX4_device_3 : decode cX4_device 3 = .ok (.invokevirtual 68, 3) := by decide +kernel
theorem dX4_device_6 : decode cX4_device 6 = .ok (.iload_n 3, 1) := by decide +kernel
theorem dX4_device_7 : decode cX4_device 7 = .ok (.iconst 0, 1) := by decide +kernel
theorem dX4_device_8 : decode cX4_device 8 = .ok (.iconst 5, 1) := by decide +kernel
theorem dX4_device_9 : decode cX4_device 9 = .ok (.invokestatic 43, 3) := by decide +kernel
theorem dX4_device_12 : decode cX4_device 12 = .ok (.invokestatic 47, 3) := by decide +kernel
theorem dX4_device_15 : decode cX4_device 15 = .ok (.iload_n 3, 1) := by decide +kernel
theorem dX4_device_16 : decode cX4_device 16 = .ok (.iconst 4, 1) := by decide +kernel
theorem dX4_device_17 : decode cX4_device 17 = .ok (.if_icmp .lt 30, 3) := by decide +kernel
theorem dX4_device_20 : decode cX4_device 20 = .ok (.iload_n 2, 1) := by decide +kernel
theorem dX4_device_21 : decode cX4_device 21 = .ok (.iconst 2, 1) := by decide +kernel
theorem dX4_device_22 : decode cX4_device 22 = .ok (.if_icmp .ge 7, 3) := by decide +kernel
theorem dX4_device_25 : decode cX4_device 25 = .ok (.iconst (-1), 1) := by decide +kernel
theorem dX4_device_26 : decode cX4_device 26 = .ok (.goto 20, 3) := by decide +kernel
theorem dX4_device_29 : decode cX4_device 29 = .ok (.aload_n 0, 1) := by decide +kernel
theorem dX4_device_30 : decode cX4_device 30 = .ok (.aload_n 0, 1) := by decide +kernel
theorem dX4_device_31 : decode cX4_device 31 = .ok (.iload_n 1, 1) := by decide +kernel
theorem dX4_device_32 : decode cX4_device 32 = .ok (.invokevirtual 51, 3) := by decide +kernel
theorem dX4_device_35 : decode cX4_device 35 = .ok (.getfield 158, 3) := by decide +kernel
theorem dX4_device_38 : decode cX4_device 38 = .ok (.iload_n 2, 1) := by decide +kernel
theorem dX4_device_39 : decode cX4_device 39 = .ok (.iconst 2, 1) := by decide +kernel
theorem dX4_device_40 : decode cX4_device 40 = .ok (.isub, 1) := by decide +kernel
theorem dX4_device_41 : decode cX4_device 41 = .ok (.aaload, 1) := by decide +kernel
theorem dX4_device_42 : decode cX4_device 42 = .ok (.iload_n 3, 1) := by decide +kernel
theorem dX4_device_43 : decode cX4_device 43 = .ok (.invokevirtual 162, 3) := by decide +kernel
theorem dX4_device_46 : decode cX4_device 46 = .ok (.ireturn, 1) := by decide +kernel
theorem dX4_device_47 : decode cX4_device 47 = .ok (.aload_n 0, 1) := by decide +kernel
theorem dX4_device_48 : decode cX4_device 48 = .ok (.iload_n 1, 1) := by decide +kernel
theorem dX4_device_49 : decode cX4_device 49 = .ok (.invokevirtual 51, 3) := by decide +kernel
theorem dX4_device_52 : decode cX4_device 52 = .ok (.iload_n 2, 1) := by decide +kernel
theorem dX4_device_53 : decode cX4_device 53 = .ok (.invokevirtual 72, 3) := by decide +kernel
theorem dX4_device_56 : decode cX4_device 56 = .ok (.astore 4, 2) := by decide +kernel
theorem dX4_device_58 : decode cX4_device 58 = .ok (.iload_n 3, 1) := by decide +kernel
theorem dX4_device_59 : decode cX4_device 59 = .ok (.tableswitch 43 0 2 #[25, 31, 37], 25) := by decide +kernel
theorem dX4_device_84 : decode cX4_device 84 = .ok (.aload 4, 2) := by decide +kernel
theorem dX4_device_86 : decode cX4_device 86 = .ok (.getfield 166, 3) := by decide +kernel
theorem dX4_device_89 : decode cX4_device 89 = .ok (.ireturn, 1) := by decide +kernel
theorem dX4_device_90 : decode cX4_device 90 = .ok (.aload 4, 2) := by decide +kernel
theorem dX4_device_92 : decode cX4_device 92 = .ok (.getfield 169, 3) := by decide +kernel
theorem dX4_device_95 : decode cX4_device 95 = .ok (.ireturn, 1) := by decide +kernel
theorem dX4_device_96 : decode cX4_device 96 = .ok (.aload 4, 2) := by decide +kernel
theorem dX4_device_98 : decode cX4_device 98 = .ok (.getfield 172, 3) := by decide +kernel
theorem dX4_device_101 : decode cX4_device 101 = .ok (.ireturn, 1) := by decide +kernel
theorem dX4_device_102 : decode cX4_device 102 = .ok (.aload 4, 2) := by decide +kernel
theorem dX4_device_104 : decode cX4_device 104 = .ok (.getfield 134, 3) := by decide +kernel
theorem dX4_device_107 : decode cX4_device 107 = .ok (.ifCond .eq 7, 3) := by decide +kernel
theorem dX4_device_110 : decode cX4_device 110 = .ok (.iconst 1, 1) := by decide +kernel
theorem dX4_device_111 : decode cX4_device 111 = .ok (.goto 4, 3) := by decide +kernel
theorem dX4_device_114 : decode cX4_device 114 = .ok (.iconst 0, 1) := by decide +kernel
theorem dX4_device_115 : decode cX4_device 115 = .ok (.aload 4, 2) := by decide +kernel
theorem dX4_device_117 : decode cX4_device 117 = .ok (.getfield 175, 3) := by decide +kernel
theorem dX4_device_120 : decode cX4_device 120 = .ok (.ifCond .eq 7, 3) := by decide +kernel
theorem dX4_device_123 : decode cX4_device 123 = .ok (.iconst 2, 1) := by decide +kernel
theorem dX4_device_124 : decode cX4_device 124 = .ok (.goto 4, 3) := by decide +kernel
theorem dX4_device_127 : decode cX4_device 127 = .ok (.iconst 0, 1) := by decide +kernel
theorem dX4_device_128 : decode cX4_device 128 = .ok (.iadd, 1) := by decide +kernel
theorem dX4_device_129 : decode cX4_device 129 = .ok (.ireturn, 1) := by decide +kernel
set_option maxRecDepth 20000 in
theorem ggX4_load_X3_drawnKw : GoodIn wsX4_load wsX3_drawnKw := goodIn_r _ [8, 9, 10, 11, 12, 13, 14, 15, 16, 17, 18, 19, 20, 30, 31, 32, 33, 34, 35, 36, 37, 38, 39, 40, 41, 42, 43, 44, 45, 46, 47, 48, 49, 50, 51, 52, 53, 54, 55, 56] (by decide +kernel) (by decide +kernel)
set_option maxRecDepth 20000 in
theorem gX4_load_X3_drawnKw : GoodIn wsX4_load (wsV RX4 178 RX3 yX3_drawnKw wsX3_drawnKw) := goodIn_app (goodIn_of _ (by decide +kernel)) ggX4_load_X3_drawnKw
theorem dX4_load_0 : decode cX4_load 0 = .ok (.aload_n 0, 1) := by decide +kernel
theorem dX4_load_1 : decode cX4_load 1 = .ok (.getfield 29, 3) := by decide +kernel
theorem dX4_load_4 : decode cX4_load 4 = .ok (.aload_n 0, 1) := by decide +kernel
theorem dX4_load_5 : decode cX4_load 5 = .ok (.getfield 61, 3) := by decide +kernel
theorem dX4_load_8 : decode cX4_load 8 = .ok (.invokevirtual 178, 3) := by decide +kernel
theorem dX4_load_11 : decode cX4_load 11 = .ok (.aload_n 0, 1) := by decide +kernel
theorem dX4_load_12 : decode cX4_load 12 = .ok (.getfield 33, 3) := by decide +kernel
theorem dX4_load_15 : decode cX4_load 15 = .ok (.aload_n 0, 1) := by decide +kernel
theorem dX4_load_16 : decode cX4_load 16 = .ok (.getfield 61, 3) := by decide +kernel
theorem dX4_load_19 : decode cX4_load 19 = .ok (.invokevirtual 178, 3) := by decide +kernel
theorem dX4_load_22 : decode cX4_load 22 = .ok (.iadd, 1) := by decide +kernel
theorem dX4_load_23 : decode cX4_load 23 = .ok (.ireturn, 1) := by decide +kernel
theorem dX4_starts_0 : decode cX4_starts 0 = .ok (.iconst 0, 1) := by decide +kernel
theorem dX4_starts_1 : decode cX4_starts 1 = .ok (.istore_n 1, 1) := by decide +kernel
theorem dX4_starts_2 : decode cX4_starts 2 = .ok (.aload_n 0, 1) := by decide +kernel
theorem dX4_starts_3 : decode cX4_starts 3 = .ok (.getfield 36, 3) := by decide +kernel
theorem dX4_starts_6 : decode cX4_starts 6 = .ok (.astore_n 2, 1) := by decide +kernel
theorem dX4_starts_7 : decode cX4_starts 7 = .ok (.aload_n 2, 1) := by decide +kernel
theorem dX4_starts_8 : decode cX4_starts 8 = .ok (.arraylength, 1) := by decide +kernel
theorem dX4_starts_9 : decode cX4_starts 9 = .ok (.istore_n 3, 1) := by decide +kernel
theorem dX4_starts_10 : decode cX4_starts 10 = .ok (.iconst 0, 1) := by decide +kernel
theorem dX4_starts_11 : decode cX4_starts 11 = .ok (.istore 4, 2) := by decide +kernel
theorem dX4_starts_13 : decode cX4_starts 13 = .ok (.iload 4, 2) := by decide +kernel
theorem dX4_starts_15 : decode cX4_starts 15 = .ok (.iload_n 3, 1) := by decide +kernel
theorem dX4_starts_16 : decode cX4_starts 16 = .ok (.if_icmp .ge 20, 3) := by decide +kernel
theorem dX4_starts_19 : decode cX4_starts 19 = .ok (.aload_n 2, 1) := by decide +kernel
theorem dX4_starts_20 : decode cX4_starts 20 = .ok (.iload 4, 2) := by decide +kernel
theorem dX4_starts_22 : decode cX4_starts 22 = .ok (.iaload, 1) := by decide +kernel
theorem dX4_starts_23 : decode cX4_starts 23 = .ok (.istore 5, 2) := by decide +kernel
theorem dX4_starts_25 : decode cX4_starts 25 = .ok (.iload_n 1, 1) := by decide +kernel
theorem dX4_starts_26 : decode cX4_starts 26 = .ok (.iload 5, 2) := by decide +kernel
theorem dX4_starts_28 : decode cX4_starts 28 = .ok (.iadd, 1) := by decide +kernel
theorem dX4_starts_29 : decode cX4_starts 29 = .ok (.istore_n 1, 1) := by decide +kernel
theorem dX4_starts_30 : decode cX4_starts 30 = .ok (.iinc 4 1, 3) := by decide +kernel
theorem dX4_starts_33 : decode cX4_starts 33 = .ok (.goto (-20), 3) := by decide +kernel
theorem dX4_starts_36 : decode cX4_starts 36 = .ok (.iload_n 1, 1) := by decide +kernel
theorem dX4_starts_37 : decode cX4_starts 37 = .ok (.ireturn, 1) := by decide +kernel
theorem dX4_broken_0 : decode cX4_broken 0 = .ok (.aload_n 0, 1) := by decide +kernel
theorem dX4_broken_1 : decode cX4_broken 1 = .ok (.getfield 181, 3) := by decide +kernel
theorem dX4_broken_4 : decode cX4_broken 4 = .ok (.ireturn, 1) := by decide +kernel
set_option maxRecDepth 20000 in
theorem ggX4_tick_X3_settleDevices : GoodIn wsX4_tick wsX3_settleDevices := goodIn_r _ [11, 12, 13, 14, 15, 16, 17, 18, 19, 20, 21, 22, 23, 24, 25, 26, 27, 28, 29, 30, 31, 32, 33, 34, 35, 36, 37, 38, 39, 40, 41, 42, 43, 44, 45, 46, 47, 48, 49, 50, 51, 52, 53, 250, 251, 252, 253, 254, 255, 256, 257, 258, 259, 260, 261, 262, 263, 264, 265, 266, 267, 268, 269, 270, 271, 272, 273, 274, 275, 276] (by decide +kernel) (by decide +kernel)
set_option maxRecDepth 20000 in
theorem gX4_tick_X3_settleDevices : GoodIn wsX4_tick (wsV RX4 187 RX3 yX3_settleDevices wsX3_settleDevices) := goodIn_app (goodIn_of _ (by decide +kernel)) ggX4_tick_X3_settleDevices
set_option maxRecDepth 20000 in
theorem ggX4_tick_X3_judgeFire : GoodIn wsX4_tick wsX3_judgeFire := goodIn_r _ [57, 58, 59, 60, 61, 62, 63, 64, 10, 65, 66, 67, 68, 69, 70, 71, 72, 73, 74, 75, 76, 77, 78, 79, 80, 81, 82, 83, 84, 85, 86, 87, 88, 89, 90, 91, 92, 93, 94, 95, 96, 97, 250, 251, 252, 253, 254, 255, 256, 257, 258, 259, 260, 261, 277, 278, 279, 280, 281, 282, 283, 284] (by decide +kernel) (by decide +kernel)
set_option maxRecDepth 20000 in
theorem gX4_tick_X3_judgeFire : GoodIn wsX4_tick (wsV RX4 190 RX3 yX3_judgeFire wsX3_judgeFire) := goodIn_app (goodIn_of _ (by decide +kernel)) ggX4_tick_X3_judgeFire
set_option maxRecDepth 20000 in
theorem ggX4_tick_X4_tubeThatCounts : GoodIn wsX4_tick wsX4_tubeThatCounts := goodIn_r _ [102, 4, 103, 5, 104, 95, 96, 10, 97, 61, 59, 60, 241, 242, 243, 244, 245, 246, 247, 248, 249, 250, 251, 252, 253, 254, 255, 256, 257, 258, 259, 260, 261, 277, 278, 279, 280, 281, 282, 283, 284] (by decide +kernel) (by decide +kernel)
set_option maxRecDepth 20000 in
theorem gX4_tick_X4_tubeThatCounts : GoodIn wsX4_tick (wsV RX4 193 RX4 yX4_tubeThatCounts wsX4_tubeThatCounts) := goodIn_app (goodIn_of _ (by decide +kernel)) ggX4_tick_X4_tubeThatCounts
set_option maxRecDepth 20000 in
theorem ggX4_tick_X4_wantFans : GoodIn wsX4_tick wsX4_wantFans := goodIn_r _ [107, 108, 109, 110, 111, 112, 113, 114, 115, 116, 117, 118, 10, 119, 120, 121, 250, 251, 252, 253, 254, 255, 256, 257, 258, 259, 260, 261, 277, 278, 279, 280, 281, 282, 283, 284] (by decide +kernel) (by decide +kernel)
set_option maxRecDepth 20000 in
theorem gX4_tick_X4_wantFans : GoodIn wsX4_tick (va_wsS RX4 197 yX4_wantFans wsX4_wantFans) := goodIn_app (goodIn_of _ (by decide +kernel)) ggX4_tick_X4_wantFans
set_option maxRecDepth 20000 in
theorem ggX4_tick_X3_commandTraffic : GoodIn wsX4_tick wsX3_commandTraffic := goodIn_r _ [125, 13, 126, 127, 58, 128, 12, 129, 52, 130, 19, 53, 24, 22, 131, 132, 133, 134, 135, 136, 10, 137, 138, 250, 251, 252, 253, 254, 255, 256, 257, 258, 259, 260, 261, 262, 263, 264, 265, 266, 267, 268, 269, 270, 271, 272, 273, 274, 275, 276] (by decide +kernel) (by decide +kernel)
set_option maxRecDepth 20000 in
theorem gX4_tick_X3_commandTraffic : GoodIn wsX4_tick (wsV RX4 201 RX3 yX3_commandTraffic wsX3_commandTraffic) := goodIn_app (goodIn_of _ (by decide +kernel)) ggX4_tick_X3_commandTraffic
set_option maxRecDepth 20000 in
theorem ggX4_tick_X3_stopFans : GoodIn wsX4_tick wsX3_stopFans := goodIn_r _ [142, 120, 121, 134, 135, 136, 10, 137, 12, 126, 127, 138, 143, 144, 145, 146, 14, 15, 147, 40, 148, 46, 47, 35, 48, 49, 50, 51, 52, 19, 53, 24, 22, 149, 150, 151, 152, 153, 154, 155, 156, 157, 158, 159, 160, 161, 250, 251, 252, 253, 254, 255, 256, 257, 258, 259, 260, 261, 262, 263, 264, 265, 266, 267, 268, 269, 270, 271, 272, 273, 274, 275, 276] (by decide +kernel) (by decide +kernel)
set_option maxRecDepth 20000 in
theorem gX4_tick_X3_stopFans : GoodIn wsX4_tick (wsV RX4 205 RX3 yX3_stopFans wsX3_stopFans) := goodIn_app (goodIn_of _ (by decide +kernel)) ggX4_tick_X3_stopFans
set_option maxRecDepth 20000 in
theorem ggX4_tick_X4_shedLoad : GoodIn wsX4_tick wsX4_shedLoad := goodIn_r _ [165, 166, 1, 167, 168, 169, 101, 170, 4, 5, 171, 172, 173, 10, 174, 14, 15, 175, 176, 177, 35, 178, 39, 40, 41, 42, 179, 180, 181, 182, 183, 153, 154, 155, 156, 147, 120, 157, 158, 159, 160, 161, 148, 46, 47, 48, 49, 50, 51, 52, 19, 53, 24, 22, 241, 242, 243, 244, 245, 246, 247, 248, 249, 250, 251, 252, 253, 254, 255, 256, 257, 258, 259, 260, 261, 262, 263, 264, 265, 266, 267, 268, 269, 270, 271, 272, 273, 274, 275, 276] (by decide +kernel) (by decide +kernel)
set_option maxRecDepth 20000 in
theorem gX4_tick_X4_shedLoad : GoodIn wsX4_tick (wsV RX4 208 RX4 yX4_shedLoad wsX4_shedLoad) := goodIn_app (goodIn_of _ (by decide +kernel)) ggX4_tick_X4_shedLoad
set_option maxRecDepth 20000 in
theorem ggX4_tick_X4_startFans : GoodIn wsX4_tick wsX4_startFans := goodIn_r _ [187, 188, 189, 190, 1, 191, 192, 150, 151, 10, 152, 14, 15, 147, 40, 193, 194, 195, 196, 157, 197, 198, 199, 200, 201, 44, 120, 202, 203, 204, 35, 205, 206, 207, 208, 209, 210, 39, 41, 42, 211, 212, 213, 101, 214, 215, 166, 216, 217, 218, 219, 2, 167, 168, 169, 170, 4, 5, 171, 172, 173, 174, 175, 176, 177, 178, 179, 220, 221, 222, 223, 3, 224, 225, 226, 227, 228, 49, 50, 51, 52, 19, 53, 24, 22, 250, 251, 252, 253, 254, 255, 256, 257, 258, 259, 260, 261, 241, 242, 243, 244, 245, 246, 247, 248, 249, 262, 263, 264, 265, 266, 267, 268, 269, 270, 271, 272, 273, 274, 275, 276] (by decide +kernel) (by decide +kernel)
set_option maxRecDepth 20000 in
theorem gX4_tick_X4_startFans : GoodIn wsX4_tick (wsV RX4 212 RX4 yX4_startFans wsX4_startFans) := goodIn_app (goodIn_of _ (by decide +kernel)) ggX4_tick_X4_startFans
set_option maxRecDepth 20000 in
theorem ggX4_tick_X3_countRun : GoodIn wsX4_tick wsX3_countRun := goodIn_r _ [232, 14, 15, 147, 40, 157, 250, 251, 252, 253, 254, 255, 256, 257, 258, 259, 260, 261, 262, 263, 264, 265, 266, 267, 268, 269, 270, 271, 272, 273, 274, 275, 276] (by decide +kernel) (by decide +kernel)
set_option maxRecDepth 20000 in
theorem gX4_tick_X3_countRun : GoodIn wsX4_tick (wsV RX4 216 RX3 yX3_countRun wsX3_countRun) := goodIn_app (goodIn_of _ (by decide +kernel)) ggX4_tick_X3_countRun
set_option maxRecDepth 20000 in
theorem ggX4_tick_X4_isBroken : GoodIn wsX4_tick wsX4_isBroken := goodIn_r _ [236, 166, 3, 4, 1, 5, 167, 168, 169, 101, 170, 171, 172, 173, 10, 174, 14, 15, 175, 176, 177, 35, 178, 39, 40, 41, 42, 179, 216, 217, 218, 219, 2, 237, 238, 239, 240, 13, 126, 138, 12, 134, 135, 136, 137, 127, 149, 150, 151, 152, 147, 241, 242, 243, 244, 245, 246, 247, 248, 249, 250, 251, 252, 253, 254, 255, 256, 257, 258, 259, 260, 261, 262, 263, 264, 265, 266, 267, 268, 269, 270, 271, 272, 273, 274, 275, 276] (by decide +kernel) (by decide +kernel)
set_option maxRecDepth 20000 in
theorem gX4_tick_X4_isBroken : GoodIn wsX4_tick (wsV RX4 219 RX4 yX4_isBroken wsX4_isBroken) := goodIn_app (goodIn_of _ (by decide +kernel)) ggX4_tick_X4_isBroken
theorem dX4_tick_0 : decode cX4_tick 0 = .ok (.aload_n 0, 1) := by decide +kernel
theorem dX4_tick_1 : decode cX4_tick 1 = .ok (.dup, 1) := by decide +kernel
theorem dX4_tick_2 : decode cX4_tick 2 = .ok (.getfield 61, 3) := by decide +kernel
theorem dX4_tick_5 : decode cX4_tick 5 = .ok (.iconst 1, 1) := by decide +kernel
theorem dX4_tick_6 : decode cX4_tick 6 = .ok (.iadd, 1) := by decide +kernel
theorem dX4_tick_7 : decode cX4_tick 7 = .ok (.putfield 61, 3) := by decide +kernel
theorem dX4_tick_10 : decode cX4_tick 10 = .ok (.aload_n 0, 1) := by decide +kernel
theorem dX4_tick_11 : decode cX4_tick 11 = .ok (.getfield 36, 3) := by decide +kernel
theorem dX4_tick_14 : decode cX4_tick 14 = .ok (.aload_n 0, 1) := by decide +kernel
theorem dX4_tick_15 : decode cX4_tick 15 = .ok (.getfield 61, 3) := by decide +kernel
theorem dX4_tick_18 : decode cX4_tick 18 = .ok (.bipush 10, 2) := by decide +kernel
theorem dX4_tick_20 : decode cX4_tick 20 = .ok (.irem, 1) := by decide +kernel
theorem dX4_tick_21 : decode cX4_tick 21 = .ok (.iconst 0, 1) := by decide +kernel
theorem dX4_tick_22 : decode cX4_tick 22 = .ok (.iastore, 1) := by decide +kernel
theorem dX4_tick_23 : decode cX4_tick 23 = .ok (.aload_n 0, 1) := by decide +kernel
theorem dX4_tick_24 : decode cX4_tick 24 = .ok (.iconst 0, 1) := by decide +kernel
theorem dX4_tick_25 : decode cX4_tick 25 = .ok (.putfield 184, 3) := by decide +kernel
theorem dX4_tick_28 : decode cX4_tick 28 = .ok (.aload_n 0, 1) := by decide +kernel
theorem dX4_tick_29 : decode cX4_tick 29 = .ok (.getfield 29, 3) := by decide +kernel
theorem dX4_tick_32 : decode cX4_tick 32 = .ok (.aload_n 0, 1) := by decide +kernel
theorem dX4_tick_33 : decode cX4_tick 33 = .ok (.getfield 61, 3) := by decide +kernel
theorem dX4_tick_36 : decode cX4_tick 36 = .ok (.invokevirtual 187, 3) := by decide +kernel
theorem dX4_tick_39 : decode cX4_tick 39 = .ok (.aload_n 0, 1) := by decide +kernel
theorem dX4_tick_40 : decode cX4_tick 40 = .ok (.getfield 33, 3) := by decide +kernel
theorem dX4_tick_43 : decode cX4_tick 43 = .ok (.aload_n 0, 1) := by decide +kernel
theorem dX4_tick_44 : decode cX4_tick 44 = .ok (.getfield 61, 3) := by decide +kernel
theorem dX4_tick_47 : decode cX4_tick 47 = .ok (.invokevirtual 187, 3) := by decide +kernel
theorem dX4_tick_50 : decode cX4_tick 50 = .ok (.aload_n 0, 1) := by decide +kernel
theorem dX4_tick_51 : decode cX4_tick 51 = .ok (.getfield 29, 3) := by decide +kernel
theorem dX4_tick_54 : decode cX4_tick 54 = .ok (.invokevirtual 190, 3) := by decide +kernel
theorem dX4_tick_57 : decode cX4_tick 57 = .ok (.aload_n 0, 1) := by decide +kernel
theorem dX4_tick_58 : decode cX4_tick 58 = .ok (.getfield 33, 3) := by decide +kernel
theorem dX4_tick_61 : decode cX4_tick 61 = .ok (.invokevirtual 190, 3) := by decide +kernel
theorem dX4_tick_64 : decode cX4_tick 64 = .ok (.aload_n 0, 1) := by decide +kernel
theorem dX4_tick_65 : decode cX4_tick 65 = .ok (.invokevirtual 193, 3) := by decide +kernel
theorem dX4_tick_68 : decode cX4_tick 68 = .ok (.istore_n 1, 1) := by decide +kernel
theorem dX4_tick_69 : decode cX4_tick 69 = .ok (.iload_n 1, 1) := by decide +kernel
theorem dX4_tick_70 : decode cX4_tick 70 = .ok (.iconst (-1), 1) := by decide +kernel
theorem dX4_tick_71 : decode cX4_tick 71 = .ok (.if_icmp .eq 7, 3) := by decide +kernel
theorem dX4_tick_74 : decode cX4_tick 74 = .ok (.iconst 1, 1) := by decide +kernel
theorem dX4_tick_75 : decode cX4_tick 75 = .ok (.goto 4, 3) := by decide +kernel
theorem dX4_tick_78 : decode cX4_tick 78 = .ok (.iconst 0, 1) := by decide +kernel
theorem dX4_tick_79 : decode cX4_tick 79 = .ok (.istore_n 2, 1) := by decide +kernel
theorem dX4_tick_80 : decode cX4_tick 80 = .ok (.iload_n 1, 1) := by decide +kernel
theorem dX4_tick_81 : decode cX4_tick 81 = .ok (.iconst 1, 1) := by decide +kernel
theorem dX4_tick_82 : decode cX4_tick 82 = .ok (.if_icmp .ne 10, 3) := by decide +kernel
theorem dX4_tick_85 : decode cX4_tick 85 = .ok (.aload_n 0, 1) := by decide +kernel
theorem dX4_tick_86 : decode cX4_tick 86 = .ok (.getfield 33, 3) := by decide +kernel
theorem dX4_tick_89 : decode cX4_tick 89 = .ok (.goto 7, 3) := by decide +kernel
theorem dX4_tick_92 : decode cX4_tick 92 = .ok (.aload_n 0, 1) := by decide +kernel
theorem dX4_tick_93 : decode cX4_tick 93 = .ok (.getfield 29, 3) := by decide +kernel
theorem dX4_tick_96 : decode cX4_tick 96 = .ok (.astore_n 3, 1) := by decide +kernel
theorem dX4_tick_97 : decode cX4_tick 97 = .ok (.iload_n 1, 1) := by decide +kernel
theorem dX4_tick_98 : decode cX4_tick 98 = .ok (.iconst 1, 1) := by decide +kernel
theorem dX4_tick_99 : decode cX4_tick 99 = .ok (.if_icmp .ne 10, 3) := by decide +kernel
theorem dX4_tick_102 : decode cX4_tick 102 = .ok (.aload_n 0, 1) := by decide +kernel
theorem dX4_tick_103 : decode cX4_tick 103 = .ok (.getfield 29, 3) := by decide +kernel
theorem dX4_tick_106 : decode cX4_tick 106 = .ok (.goto 7, 3) := by decide +kernel
theorem dX4_tick_109 : decode cX4_tick 109 = .ok (.aload_n 0, 1) := by decide +kernel
theorem dX4_tick_110 : decode cX4_tick 110 = .ok (.getfield 33, 3) := by decide +kernel
theorem dX4_tick_113 : decode cX4_tick 113 = .ok (.astore 4, 2) := by decide +kernel
theorem dX4_tick_115 : decode cX4_tick 115 = .ok (.iload_n 2, 1) := by decide +kernel
theorem dX4_tick_116 : decode cX4_tick 116 = .ok (.aload_n 3, 1) := by decide +kernel
theorem dX4_tick_117 : decode cX4_tick 117 = .ok (.aload 4, 2) := by decide +kernel
theorem dX4_tick_119 : decode cX4_tick 119 = .ok (.invokestatic 197, 3) := by decide +kernel
theorem dX4_tick_122 : decode cX4_tick 122 = .ok (.aload_n 0, 1) := by decide +kernel
theorem dX4_tick_123 : decode cX4_tick 123 = .ok (.getfield 29, 3) := by decide +kernel
theorem dX4_tick_126 : decode cX4_tick 126 = .ok (.iload_n 2, 1) := by decide +kernel
theorem dX4_tick_127 : decode cX4_tick 127 = .ok (.aload_n 0, 1) := by decide +kernel
theorem dX4_tick_128 : decode cX4_tick 128 = .ok (.getfield 61, 3) := by decide +kernel
theorem dX4_tick_131 : decode cX4_tick 131 = .ok (.invokevirtual 201, 3) := by decide +kernel
theorem dX4_tick_134 : decode cX4_tick 134 = .ok (.aload_n 0, 1) := by decide +kernel
theorem dX4_tick_135 : decode cX4_tick 135 = .ok (.getfield 33, 3) := by decide +kernel
theorem dX4_tick_138 : decode cX4_tick 138 = .ok (.iload_n 2, 1) := by decide +kernel
theorem dX4_tick_139 : decode cX4_tick 139 = .ok (.aload_n 0, 1) := by decide +kernel
theorem dX4_tick_140 : decode cX4_tick 140 = .ok (.getfield 61, 3) := by decide +kernel
theorem dX4_tick_143 : decode cX4_tick 143 = .ok (.invokevirtual 201, 3) := by decide +kernel
theorem dX4_tick_146 : decode cX4_tick 146 = .ok (.aload_n 0, 1) := by decide +kernel
theorem dX4_tick_147 : decode cX4_tick 147 = .ok (.getfield 29, 3) := by decide +kernel
theorem dX4_tick_150 : decode cX4_tick 150 = .ok (.iload_n 2, 1) := by decide +kernel
theorem dX4_tick_151 : decode cX4_tick 151 = .ok (.aload_n 0, 1) := by decide +kernel
theorem dX4_tick_152 : decode cX4_tick 152 = .ok (.getfield 61, 3) := by decide +kernel
theorem dX4_tick_155 : decode cX4_tick 155 = .ok (.invokevirtual 205, 3) := by decide +kernel
theorem dX4_tick_158 : decode cX4_tick 158 = .ok (.aload_n 0, 1) := by decide +kernel
theorem dX4_tick_159 : decode cX4_tick 159 = .ok (.getfield 33, 3) := by decide +kernel
theorem dX4_tick_162 : decode cX4_tick 162 = .ok (.iload_n 2, 1) := by decide +kernel
theorem dX4_tick_163 : decode cX4_tick 163 = .ok (.aload_n 0, 1) := by decide +kernel
theorem dX4_tick_164 : decode cX4_tick 164 = .ok (.getfield 61, 3) := by decide +kernel
theorem dX4_tick_167 : decode cX4_tick 167 = .ok (.invokevirtual 205, 3) := by decide +kernel
theorem dX4_tick_170 : decode cX4_tick 170 = .ok (.aload_n 0, 1) := by decide +kernel
theorem dX4_tick_171 : decode cX4_tick 171 = .ok (.aload_n 3, 1) := by decide +kernel
theorem dX4_tick_172 : decode cX4_tick 172 = .ok (.aload 4, 2) := by decide +kernel
theorem dX4_tick_174 : decode cX4_tick 174 = .ok (.invokevirtual 208, 3) := by decide +kernel
theorem dX4_tick_177 : decode cX4_tick 177 = .ok (.aload_n 0, 1) := by decide +kernel
theorem dX4_tick_178 : decode cX4_tick 178 = .ok (.aload_n 3, 1) := by decide +kernel
theorem dX4_tick_179 : decode cX4_tick 179 = .ok (.invokevirtual 212, 3) := by decide +kernel
theorem dX4_tick_182 : decode cX4_tick 182 = .ok (.ifCond .eq 10, 3) := by decide +kernel
theorem dX4_tick_185 : decode cX4_tick 185 = .ok (.aload_n 0, 1) := by decide +kernel
theorem dX4_tick_186 : decode cX4_tick 186 = .ok (.aload 4, 2) := by decide +kernel
theorem dX4_tick_188 : decode cX4_tick 188 = .ok (.invokevirtual 212, 3) := by decide +kernel
theorem dX4_tick_191 : decode cX4_tick 191 = .ok (.pop, 1) := by decide +kernel
theorem dX4_tick_192 : decode cX4_tick 192 = .ok (.aload_n 0, 1) := by decide +kernel
theorem dX4_tick_193 : decode cX4_tick 193 = .ok (.getfield 29, 3) := by decide +kernel
theorem dX4_tick_196 : decode cX4_tick 196 = .ok (.invokevirtual 216, 3) := by decide +kernel
theorem dX4_tick_199 : decode cX4_tick 199 = .ok (.aload_n 0, 1) := by decide +kernel
theorem dX4_tick_200 : decode cX4_tick 200 = .ok (.getfield 33, 3) := by decide +kernel
theorem dX4_tick_203 : decode cX4_tick 203 = .ok (.invokevirtual 216, 3) := by decide +kernel
theorem dX4_tick_206 : decode cX4_tick 206 = .ok (.aload_n 0, 1) := by decide +kernel
theorem dX4_tick_207 : decode cX4_tick 207 = .ok (.invokevirtual 219, 3) := by decide +kernel
theorem dX4_tick_210 : decode cX4_tick 210 = .ok (.ifCond .eq 13, 3) := by decide +kernel
theorem dX4_tick_213 : decode cX4_tick 213 = .ok (.aload_n 0, 1) := by decide +kernel
theorem dX4_tick_214 : decode cX4_tick 214 = .ok (.dup, 1) := by decide +kernel
theorem dX4_tick_215 : decode cX4_tick 215 = .ok (.getfield 181, 3) := by decide +kernel
theorem dX4_tick_218 : decode cX4_tick 218 = .ok (.iconst 1, 1) := by decide +kernel
theorem dX4_tick_219 : decode cX4_tick 219 = .ok (.iadd, 1) := by decide +kernel
theorem dX4_tick_220 : decode cX4_tick 220 = .ok (.putfield 181, 3) := by decide +kernel
theorem dX4_tick_223 : decode cX4_tick 223 = .ok (.return_, 1) := by decide +kernel
set_option maxRecDepth 20000 in
theorem ggX4_tubeThatCounts_X3_fireRank : GoodIn wsX4_tubeThatCounts wsX3_fireRank := goodIn_r _ [8, 9, 10, 11, 21, 22, 23, 24, 25, 26, 27, 28, 29, 30, 31, 32, 33, 34, 35, 36, 37, 38, 39, 40] (by decide +kernel) (by decide +kernel)
set_option maxRecDepth 20000 in
theorem gX4_tubeThatCounts_X3_fireRank : GoodIn wsX4_tubeThatCounts (wsV RX4 222 RX3 yX3_fireRank wsX3_fireRank) := goodIn_app (goodIn_of _ (by decide +kernel)) ggX4_tubeThatCounts_X3_fireRank
theorem dX4_tubeThatCounts_0 : decode cX4_tubeThatCounts 0 = .ok (.aload_n 0, 1) := by decide +kernel
theorem dX4_tubeThatCounts_1 : decode cX4_tubeThatCounts 1 = .ok (.getfield 29, 3) := by decide +kernel
theorem dX4_tubeThatCounts_4 : decode cX4_tubeThatCounts 4 = .ok (.getfield 143, 3) := by decide +kernel
theorem dX4_tubeThatCounts_7 : decode cX4_tubeThatCounts 7 = .ok (.iconst 2, 1) := by decide +kernel
theorem dX4_tubeThatCounts_8 : decode cX4_tubeThatCounts 8 = .ok (.if_icmp .ne 7, 3) := by decide +kernel
theorem dX4_tubeThatCounts_11 : decode cX4_tubeThatCounts 11 = .ok (.iconst 1, 1) := by decide +kernel
theorem dX4_tubeThatCounts_12 : decode cX4_tubeThatCounts 12 = .ok (.goto 4, 3) := by decide +kernel
theorem dX4_tubeThatCounts_15 : decode cX4_tubeThatCounts 15 = .ok (.iconst 0, 1) := by decide +kernel
theorem dX4_tubeThatCounts_16 : decode cX4_tubeThatCounts 16 = .ok (.istore_n 1, 1) := by decide +kernel
theorem dX4_tubeThatCounts_17 : decode cX4_tubeThatCounts 17 = .ok (.aload_n 0, 1) := by decide +kernel
theorem dX4_tubeThatCounts_18 : decode cX4_tubeThatCounts 18 = .ok (.getfield 33, 3) := by decide +kernel
theorem dX4_tubeThatCounts_21 : decode cX4_tubeThatCounts 21 = .ok (.getfield 143, 3) := by decide +kernel
theorem dX4_tubeThatCounts_24 : decode cX4_tubeThatCounts 24 = .ok (.iconst 2, 1) := by decide +kernel
theorem dX4_tubeThatCounts_25 : decode cX4_tubeThatCounts 25 = .ok (.if_icmp .ne 7, 3) := by decide +kernel
theorem dX4_tubeThatCounts_28 : decode cX4_tubeThatCounts 28 = .ok (.iconst 1, 1) := by decide +kernel
theorem dX4_tubeThatCounts_29 : decode cX4_tubeThatCounts 29 = .ok (.goto 4, 3) := by decide +kernel
theorem dX4_tubeThatCounts_32 : decode cX4_tubeThatCounts 32 = .ok (.iconst 0, 1) := by decide +kernel
theorem dX4_tubeThatCounts_33 : decode cX4_tubeThatCounts 33 = .ok (.istore_n 2, 1) := by decide +kernel
theorem dX4_tubeThatCounts_34 : decode cX4_tubeThatCounts 34 = .ok (.iload_n 1, 1) := by decide +kernel
theorem dX4_tubeThatCounts_35 : decode cX4_tubeThatCounts 35 = .ok (.ifCond .eq 30, 3) := by decide +kernel
theorem dX4_tubeThatCounts_38 : decode cX4_tubeThatCounts 38 = .ok (.iload_n 2, 1) := by decide +kernel
theorem dX4_tubeThatCounts_39 : decode cX4_tubeThatCounts 39 = .ok (.ifCond .eq 26, 3) := by decide +kernel
theorem dX4_tubeThatCounts_42 : decode cX4_tubeThatCounts 42 = .ok (.aload_n 0, 1) := by decide +kernel
theorem dX4_tubeThatCounts_43 : decode cX4_tubeThatCounts 43 = .ok (.getfield 33, 3) := by decide +kernel
theorem dX4_tubeThatCounts_46 : decode cX4_tubeThatCounts 46 = .ok (.invokevirtual 222, 3) := by decide +kernel
theorem dX4_tubeThatCounts_49 : decode cX4_tubeThatCounts 49 = .ok (.aload_n 0, 1) := by decide +kernel
theorem dX4_tubeThatCounts_50 : decode cX4_tubeThatCounts 50 = .ok (.getfield 29, 3) := by decide +kernel
theorem dX4_tubeThatCounts_53 : decode cX4_tubeThatCounts 53 = .ok (.invokevirtual 222, 3) := by decide +kernel
theorem dX4_tubeThatCounts_56 : decode cX4_tubeThatCounts 56 = .ok (.if_icmp .le 7, 3) := by decide +kernel
theorem dX4_tubeThatCounts_59 : decode cX4_tubeThatCounts 59 = .ok (.iconst 1, 1) := by decide +kernel
theorem dX4_tubeThatCounts_60 : decode cX4_tubeThatCounts 60 = .ok (.goto 4, 3) := by decide +kernel
theorem dX4_tubeThatCounts_63 : decode cX4_tubeThatCounts 63 = .ok (.iconst 0, 1) := by decide +kernel
theorem dX4_tubeThatCounts_64 : decode cX4_tubeThatCounts 64 = .ok (.ireturn, 1) := by decide +kernel
theorem dX4_tubeThatCounts_65 : decode cX4_tubeThatCounts 65 = .ok (.iload_n 1, 1) := by decide +kernel
theorem dX4_tubeThatCounts_66 : decode cX4_tubeThatCounts 66 = .ok (.ifCond .eq 5, 3) := by decide +kernel
theorem dX4_tubeThatCounts_69 : decode cX4_tubeThatCounts 69 = .ok (.iconst 0, 1) := by decide +kernel
theorem dX4_tubeThatCounts_70 : decode cX4_tubeThatCounts 70 = .ok (.ireturn, 1) := by decide +kernel
theorem dX4_tubeThatCounts_71 : decode cX4_tubeThatCounts 71 = .ok (.iload_n 2, 1) := by decide +kernel
theorem dX4_tubeThatCounts_72 : decode cX4_tubeThatCounts 72 = .ok (.ifCond .eq 7, 3) := by decide +kernel
theorem dX4_tubeThatCounts_75 : decode cX4_tubeThatCounts 75 = .ok (.iconst 1, 1) := by decide +kernel
theorem dX4_tubeThatCounts_76 : decode cX4_tubeThatCounts 76 = .ok (.goto 4, 3) := by decide +kernel
theorem dX4_tubeThatCounts_79 : decode cX4_tubeThatCounts 79 = .ok (.iconst (-1), 1) := by decide +kernel
