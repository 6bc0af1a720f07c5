def wsX5_init_r1 : List Cond := [Cond.methodLink RX5 1 objectInit, Cond.instanceMethod objectInit, Cond.code objectInit ⟨#[0xb1]⟩ 1 none, Cond.arrayClass .int, Cond.fieldLink RX5 7 "TunnelWatchModel" "fans" "[I", Cond.fieldLink RX5 13 "TunnelWatchModel" "lag" "[I", Cond.fieldLink RX5 16 "TunnelWatchModel" "command" "[I", Cond.fieldLink RX5 19 "TunnelWatchModel" "actual" "[I", Cond.fieldLink RX5 22 "TunnelWatchModel" "sent" "[I", Cond.arrayClass .boolean, Cond.fieldLink RX5 25 "TunnelWatchModel" "failed" "[Z", Cond.fieldLink RX5 29 "TunnelWatchModel" "out" "[Z", Cond.fieldLink RX5 32 "TunnelWatchModel" "kw" "[I", Cond.fieldLink RX5 35 "TunnelWatchModel" "run" "[I", Cond.fieldLink RX5 38 "TunnelWatchModel" "last" "[I", Cond.fieldLink RX5 41 "TunnelWatchModel" "stopped" "[I", Cond.fieldLink RX5 44 "TunnelWatchModel" "started" "[I", Cond.fieldLink RX5 47 "TunnelWatchModel" "value" "[I", Cond.fieldLink RX5 50 "TunnelWatchModel" "deaf" "[Z", Cond.fieldLink RX5 53 "TunnelWatchModel" "pulled" "[Z", Cond.fieldLink RX5 56 "TunnelWatchModel" "rank" "[I", Cond.fieldLink RX5 59 "TunnelWatchModel" "turnHere" "[I", Cond.fieldLink RX5 62 "TunnelWatchModel" "fansHere" "[I", Cond.fieldLink RX5 65 "TunnelWatchModel" "turnThere" "[I"]
def wsX5_init_r2 : List Cond := [Cond.fieldLink RX5 68 "TunnelWatchModel" "fansThere" "[I", Cond.fieldLink RX5 71 "TunnelWatchModel" "fire" "[I", Cond.fieldLink RX5 74 "TunnelWatchModel" "place" "[I", Cond.fieldLink RX5 77 "TunnelWatchModel" "ordered" "[Z", Cond.fieldLink RX5 80 "TunnelWatchModel" "wishTurn" "[I", Cond.fieldLink RX5 83 "TunnelWatchModel" "wishFans" "[I", Cond.fieldLink RX5 86 "TunnelWatchModel" "wantTurn" "[I", Cond.fieldLink RX5 89 "TunnelWatchModel" "wantFans" "[I", Cond.fieldLink RX5 92 "TunnelWatchModel" "begun" "[I", Cond.fieldLink RX5 95 "TunnelWatchModel" "sections" "I", Cond.fieldLink RX5 99 "TunnelWatchModel" "rest" "I", Cond.constant RX5 102 (100000), Cond.fieldLink RX5 103 "TunnelWatchModel" "limit" "I"]
def wsX5_init : List Cond := .code yX5_init cX5_init 5 none :: ((wsX5_init_r1 ++ wsX5_init_r2) ++ wsX50)
def wsX5_thrown : List Cond := .code yX5_thrown cX5_thrown 1 (some .int) :: ([.fieldLink RX5 106 "TunnelWatchModel" "code" "I"] ++ wsX50)
def wsX5_goes : List Cond := .code yX5_goes cX5_goes 3 (some .boolean) :: ([.fieldLink RX5 106 "TunnelWatchModel" "code" "I"] ++ wsX50)
def wsX5_isTube : List Cond := .code yX5_isTube cX5_isTube 1 (some .boolean) :: ([])
def wsX5_isSection : List Cond := .code yX5_isSection cX5_isSection 3 (some .boolean) :: ([.fieldLink RX5 95 "TunnelWatchModel" "sections" "I", .methodLink RX5 109 yX5_isTube, .static yX5_isTube, .initialized RX5, .code yX5_isTube cX5_isTube 1 (some .boolean)] ++ wsX50)
def wsX5_isDevice : List Cond := .code yX5_isDevice cX5_isDevice 3 (some .boolean) :: ([.fieldLink RX5 7 "TunnelWatchModel" "fans" "[I", .methodLink RX5 109 yX5_isTube, .static yX5_isTube, .initialized RX5, .code yX5_isTube cX5_isTube 1 (some .boolean)] ++ wsX50)
def wsX5_turnOf : List Cond := .code yX5_turnOf cX5_turnOf 1 (some .int) :: ([])
def wsX5_fan : List Cond := .code yX5_fan cX5_fan 3 (some .int) :: ([.fieldLink RX5 113 "TunnelWatchModel" "now" "I", .fieldLink RX5 7 "TunnelWatchModel" "fans" "[I", .fieldLink RX5 32 "TunnelWatchModel" "kw" "[I", .methodLink RX5 109 yX5_isTube, .static yX5_isTube, .initialized RX5, .code yX5_isTube cX5_isTube 1 (some .boolean), .methodLink RX5 116 yX5_goes, .instanceMethod yX5_goes, .selects RX5 yX5_goes yX5_goes, .code yX5_goes cX5_goes 3 (some .boolean), .fieldLink RX5 106 "TunnelWatchModel" "code" "I"] ++ wsX50)
def wsX5_lag : List Cond := .code yX5_lag cX5_lag 5 (some .int) :: ([.fieldLink RX5 106 "TunnelWatchModel" "code" "I", .fieldLink RX5 13 "TunnelWatchModel" "lag" "[I", .methodLink RX5 120 yX5_isDevice, .instanceMethod yX5_isDevice, .selects RX5 yX5_isDevice yX5_isDevice, .initialized RX5, .code yX5_isDevice cX5_isDevice 3 (some .boolean), .fieldLink RX5 7 "TunnelWatchModel" "fans" "[I", .methodLink RX5 109 yX5_isTube, .static yX5_isTube, .code yX5_isTube cX5_isTube 1 (some .boolean)] ++ wsX50)
def wsX5_plan : List Cond := .code yX5_plan cX5_plan 8 none :: ([.fieldLink RX5 113 "TunnelWatchModel" "now" "I", .fieldLink RX5 56 "TunnelWatchModel" "rank" "[I", .fieldLink RX5 59 "TunnelWatchModel" "turnHere" "[I", .fieldLink RX5 62 "TunnelWatchModel" "fansHere" "[I", .fieldLink RX5 68 "TunnelWatchModel" "fansThere" "[I", .methodLink RX5 124 yX5_isSection, .instanceMethod yX5_isSection, .selects RX5 yX5_isSection yX5_isSection, .initialized RX5, .code yX5_isSection cX5_isSection 3 (some .boolean), .fieldLink RX5 95 "TunnelWatchModel" "sections" "I", .methodLink RX5 109 yX5_isTube, .static yX5_isTube, .code yX5_isTube cX5_isTube 1 (some .boolean), .methodLink RX5 116 yX5_goes, .instanceMethod yX5_goes, .selects RX5 yX5_goes yX5_goes, .code yX5_goes cX5_goes 3 (some .boolean), .fieldLink RX5 106 "TunnelWatchModel" "code" "I", .methodLink RX5 127 yX5_turnOf, .static yX5_turnOf, .code yX5_turnOf cX5_turnOf 1 (some .int)] ++ wsX50)
def wsX5_turn : List Cond := .code yX5_turn cX5_turn 4 none :: ([.fieldLink RX5 113 "TunnelWatchModel" "now" "I", .fieldLink RX5 65 "TunnelWatchModel" "turnThere" "[I", .methodLink RX5 124 yX5_isSection, .instanceMethod yX5_isSection, .selects RX5 yX5_isSection yX5_isSection, .initialized RX5, .code yX5_isSection cX5_isSection 3 (some .boolean), .fieldLink RX5 95 "TunnelWatchModel" "sections" "I", .methodLink RX5 109 yX5_isTube, .static yX5_isTube, .code yX5_isTube cX5_isTube 1 (some .boolean), .methodLink RX5 116 yX5_goes, .instanceMethod yX5_goes, .selects RX5 yX5_goes yX5_goes, .code yX5_goes cX5_goes 3 (some .boolean), .fieldLink RX5 106 "TunnelWatchModel" "code" "I", .methodLink RX5 127 yX5_turnOf, .static yX5_turnOf, .code yX5_turnOf cX5_turnOf 1 (some .int)] ++ wsX50)
def wsX5_sense : List Cond := .code yX5_sense cX5_sense 5 (some .int) :: ([.fieldLink RX5 106 "TunnelWatchModel" "code" "I", .fieldLink RX5 47 "TunnelWatchModel" "value" "[I", .methodLink RX5 124 yX5_isSection, .instanceMethod yX5_isSection, .selects RX5 yX5_isSection yX5_isSection, .initialized RX5, .code yX5_isSection cX5_isSection 3 (some .boolean), .fieldLink RX5 95 "TunnelWatchModel" "sections" "I", .methodLink RX5 109 yX5_isTube, .static yX5_isTube, .code yX5_isTube cX5_isTube 1 (some .boolean)] ++ wsX50)
def wsX5_deafen : List Cond := .code yX5_deafen cX5_deafen 5 (some .boolean) :: ([.fieldLink RX5 106 "TunnelWatchModel" "code" "I", .fieldLink RX5 50 "TunnelWatchModel" "deaf" "[Z", .methodLink RX5 124 yX5_isSection, .instanceMethod yX5_isSection, .selects RX5 yX5_isSection yX5_isSection, .initialized RX5, .code yX5_isSection cX5_isSection 3 (some .boolean), .fieldLink RX5 95 "TunnelWatchModel" "sections" "I", .methodLink RX5 109 yX5_isTube, .static yX5_isTube, .code yX5_isTube cX5_isTube 1 (some .boolean)] ++ wsX50)
def wsX5_pull : List Cond := .code yX5_pull cX5_pull 4 (some .boolean) :: ([.fieldLink RX5 106 "TunnelWatchModel" "code" "I", .fieldLink RX5 53 "TunnelWatchModel" "pulled" "[Z", .methodLink RX5 124 yX5_isSection, .instanceMethod yX5_isSection, .selects RX5 yX5_isSection yX5_isSection, .initialized RX5, .code yX5_isSection cX5_isSection 3 (some .boolean), .fieldLink RX5 95 "TunnelWatchModel" "sections" "I", .methodLink RX5 109 yX5_isTube, .static yX5_isTube, .code yX5_isTube cX5_isTube 1 (some .boolean)] ++ wsX50)
def wsX5_confirm : List Cond := .code yX5_confirm cX5_confirm 2 (some .boolean) :: ([.fieldLink RX5 106 "TunnelWatchModel" "code" "I", .fieldLink RX5 71 "TunnelWatchModel" "fire" "[I", .fieldLink RX5 53 "TunnelWatchModel" "pulled" "[Z", .fieldLink RX5 74 "TunnelWatchModel" "place" "[I", .methodLink RX5 109 yX5_isTube, .static yX5_isTube, .initialized RX5, .code yX5_isTube cX5_isTube 1 (some .boolean)] ++ wsX50)
def wsX5_isOn : List Cond := .code yX5_isOn cX5_isOn 3 (some .boolean) :: ([.fieldLink RX5 95 "TunnelWatchModel" "sections" "I", .fieldLink RX5 47 "TunnelWatchModel" "value" "[I", .fieldLink RX5 50 "TunnelWatchModel" "deaf" "[Z"] ++ wsX50)
def wsX5_leastOn : List Cond := .code yX5_leastOn cX5_leastOn 4 (some .int) :: ([.fieldLink RX5 95 "TunnelWatchModel" "sections" "I", .methodLink RX5 131 yX5_isOn, .instanceMethod yX5_isOn, .selects RX5 yX5_isOn yX5_isOn, .initialized RX5, .code yX5_isOn cX5_isOn 3 (some .boolean), .fieldLink RX5 47 "TunnelWatchModel" "value" "[I", .fieldLink RX5 50 "TunnelWatchModel" "deaf" "[Z"] ++ wsX50)
def wsX5_reset : List Cond := .code yX5_reset cX5_reset 3 (some .boolean) :: ([.fieldLink RX5 106 "TunnelWatchModel" "code" "I", .fieldLink RX5 95 "TunnelWatchModel" "sections" "I", .fieldLink RX5 53 "TunnelWatchModel" "pulled" "[Z", .fieldLink RX5 71 "TunnelWatchModel" "fire" "[I", .fieldLink RX5 74 "TunnelWatchModel" "place" "[I", .methodLink RX5 109 yX5_isTube, .static yX5_isTube, .initialized RX5, .code yX5_isTube cX5_isTube 1 (some .boolean), .methodLink RX5 134 yX5_leastOn, .instanceMethod yX5_leastOn, .selects RX5 yX5_leastOn yX5_leastOn, .code yX5_leastOn cX5_leastOn 4 (some .int), .methodLink RX5 131 yX5_isOn, .instanceMethod yX5_isOn, .selects RX5 yX5_isOn yX5_isOn, .code yX5_isOn cX5_isOn 3 (some .boolean), .fieldLink RX5 47 "TunnelWatchModel" "value" "[I", .fieldLink RX5 50 "TunnelWatchModel" "deaf" "[Z"] ++ wsX50)
def wsX5_wish : List Cond := .code yX5_wish cX5_wish 4 none :: ([.fieldLink RX5 106 "TunnelWatchModel" "code" "I", .fieldLink RX5 80 "TunnelWatchModel" "wishTurn" "[I", .fieldLink RX5 83 "TunnelWatchModel" "wishFans" "[I", .methodLink RX5 109 yX5_isTube, .static yX5_isTube, .initialized RX5, .code yX5_isTube cX5_isTube 1 (some .boolean), .methodLink RX5 127 yX5_turnOf, .static yX5_turnOf, .code yX5_turnOf cX5_turnOf 1 (some .int)] ++ wsX50)
def wsX5_order : List Cond := .code yX5_order cX5_order 4 (some .boolean) :: ([.fieldLink RX5 106 "TunnelWatchModel" "code" "I", .fieldLink RX5 77 "TunnelWatchModel" "ordered" "[Z", .methodLink RX5 109 yX5_isTube, .static yX5_isTube, .initialized RX5, .code yX5_isTube cX5_isTube 1 (some .boolean)] ++ wsX50)
def wsX5_limit : List Cond := .code yX5_limit cX5_limit 3 (some .int) :: ([.constant RX5 102 (100000), .fieldLink RX5 106 "TunnelWatchModel" "code" "I", .fieldLink RX5 103 "TunnelWatchModel" "limit" "I"] ++ wsX50)
def wsX5_fail : List Cond := .code yX5_fail cX5_fail 4 (some .boolean) :: ([.fieldLink RX5 106 "TunnelWatchModel" "code" "I", .fieldLink RX5 25 "TunnelWatchModel" "failed" "[Z", .methodLink RX5 120 yX5_isDevice, .instanceMethod yX5_isDevice, .selects RX5 yX5_isDevice yX5_isDevice, .initialized RX5, .code yX5_isDevice cX5_isDevice 3 (some .boolean), .fieldLink RX5 7 "TunnelWatchModel" "fans" "[I", .methodLink RX5 109 yX5_isTube, .static yX5_isTube, .code yX5_isTube cX5_isTube 1 (some .boolean)] ++ wsX50)
def wsX5_mend : List Cond := .code yX5_mend cX5_mend 5 (some .boolean) :: ([.fieldLink RX5 106 "TunnelWatchModel" "code" "I", .fieldLink RX5 25 "TunnelWatchModel" "failed" "[Z", .fieldLink RX5 29 "TunnelWatchModel" "out" "[Z", .fieldLink RX5 19 "TunnelWatchModel" "actual" "[I", .fieldLink RX5 16 "TunnelWatchModel" "command" "[I", .methodLink RX5 120 yX5_isDevice, .instanceMethod yX5_isDevice, .selects RX5 yX5_isDevice yX5_isDevice, .initialized RX5, .code yX5_isDevice cX5_isDevice 3 (some .boolean), .fieldLink RX5 7 "TunnelWatchModel" "fans" "[I", .methodLink RX5 109 yX5_isTube, .static yX5_isTube, .code yX5_isTube cX5_isTube 1 (some .boolean)] ++ wsX50)
def wsX5_send : List Cond := .code yX5_send cX5_send 3 none :: ([.fieldLink RX5 22 "TunnelWatchModel" "sent" "[I", .fieldLink RX5 16 "TunnelWatchModel" "command" "[I", .fieldLink RX5 113 "TunnelWatchModel" "now" "I"] ++ wsX50)
def wsX5_stop : List Cond := .code yX5_stop cX5_stop 2 none :: ([.fieldLink RX5 41 "TunnelWatchModel" "stopped" "[I", .fieldLink RX5 16 "TunnelWatchModel" "command" "[I", .fieldLink RX5 113 "TunnelWatchModel" "now" "I", .methodLink RX5 137 yX5_send, .instanceMethod yX5_send, .selects RX5 yX5_send yX5_send, .initialized RX5, .code yX5_send cX5_send 3 none, .fieldLink RX5 22 "TunnelWatchModel" "sent" "[I"] ++ wsX50)
def wsX5_isHalted : List Cond := .code yX5_isHalted cX5_isHalted 3 (some .boolean) :: ([.fieldLink RX5 16 "TunnelWatchModel" "command" "[I", .fieldLink RX5 19 "TunnelWatchModel" "actual" "[I", .fieldLink RX5 113 "TunnelWatchModel" "now" "I", .fieldLink RX5 22 "TunnelWatchModel" "sent" "[I"] ++ wsX50)
def wsX5_act : List Cond := .code yX5_act cX5_act 4 none :: ([.fieldLink RX5 7 "TunnelWatchModel" "fans" "[I", .fieldLink RX5 19 "TunnelWatchModel" "actual" "[I", .fieldLink RX5 25 "TunnelWatchModel" "failed" "[Z", .fieldLink RX5 113 "TunnelWatchModel" "now" "I", .fieldLink RX5 22 "TunnelWatchModel" "sent" "[I", .fieldLink RX5 13 "TunnelWatchModel" "lag" "[I", .fieldLink RX5 16 "TunnelWatchModel" "command" "[I", .fieldLink RX5 29 "TunnelWatchModel" "out" "[Z", .methodLink RX5 141 yX5_stop, .instanceMethod yX5_stop, .selects RX5 yX5_stop yX5_stop, .initialized RX5, .code yX5_stop cX5_stop 2 none, .fieldLink RX5 41 "TunnelWatchModel" "stopped" "[I", .methodLink RX5 137 yX5_send, .instanceMethod yX5_send, .selects RX5 yX5_send yX5_send, .code yX5_send cX5_send 3 none] ++ wsX50)
def wsX5_isCandidate : List Cond := .code yX5_isCandidate cX5_isCandidate 6 (some .boolean) :: ([.fieldLink RX5 95 "TunnelWatchModel" "sections" "I", .methodLink RX5 131 yX5_isOn, .instanceMethod yX5_isOn, .selects RX5 yX5_isOn yX5_isOn, .initialized RX5, .code yX5_isOn cX5_isOn 3 (some .boolean), .fieldLink RX5 47 "TunnelWatchModel" "value" "[I", .fieldLink RX5 50 "TunnelWatchModel" "deaf" "[Z"] ++ wsX50)
def wsX5_judge : List Cond := .code yX5_judge cX5_judge 6 none :: ([.fieldLink RX5 95 "TunnelWatchModel" "sections" "I", .fieldLink RX5 53 "TunnelWatchModel" "pulled" "[Z", .fieldLink RX5 56 "TunnelWatchModel" "rank" "[I", .fieldLink RX5 71 "TunnelWatchModel" "fire" "[I", .fieldLink RX5 74 "TunnelWatchModel" "place" "[I", .methodLink RX5 145 yX5_isCandidate, .instanceMethod yX5_isCandidate, .selects RX5 yX5_isCandidate yX5_isCandidate, .initialized RX5, .code yX5_isCandidate cX5_isCandidate 6 (some .boolean), .methodLink RX5 131 yX5_isOn, .instanceMethod yX5_isOn, .selects RX5 yX5_isOn yX5_isOn, .code yX5_isOn cX5_isOn 3 (some .boolean), .fieldLink RX5 47 "TunnelWatchModel" "value" "[I", .fieldLink RX5 50 "TunnelWatchModel" "deaf" "[Z", .methodLink RX5 134 yX5_leastOn, .instanceMethod yX5_leastOn, .selects RX5 yX5_leastOn yX5_leastOn, .code yX5_leastOn cX5_leastOn 4 (some .int)] ++ wsX50)
def wsX5_burning : List Cond := .code yX5_burning cX5_burning 1 (some .int) :: ([.fieldLink RX5 71 "TunnelWatchModel" "fire" "[I", .fieldLink RX5 56 "TunnelWatchModel" "rank" "[I", .fieldLink RX5 74 "TunnelWatchModel" "place" "[I"] ++ wsX50)
def wsX5_want : List Cond := .code yX5_want cX5_want 4 none :: ([.fieldLink RX5 74 "TunnelWatchModel" "place" "[I", .fieldLink RX5 86 "TunnelWatchModel" "wantTurn" "[I", .fieldLink RX5 80 "TunnelWatchModel" "wishTurn" "[I", .fieldLink RX5 59 "TunnelWatchModel" "turnHere" "[I", .fieldLink RX5 65 "TunnelWatchModel" "turnThere" "[I", .fieldLink RX5 89 "TunnelWatchModel" "wantFans" "[I", .fieldLink RX5 83 "TunnelWatchModel" "wishFans" "[I", .fieldLink RX5 62 "TunnelWatchModel" "fansHere" "[I", .fieldLink RX5 68 "TunnelWatchModel" "fansThere" "[I"] ++ wsX50)
def wsX5_traffic : List Cond := .code yX5_traffic cX5_traffic 5 none :: ([.fieldLink RX5 71 "TunnelWatchModel" "fire" "[I", .fieldLink RX5 77 "TunnelWatchModel" "ordered" "[Z", .fieldLink RX5 16 "TunnelWatchModel" "command" "[I", .fieldLink RX5 19 "TunnelWatchModel" "actual" "[I", .fieldLink RX5 151 "TunnelWatchModel" "wrong" "Z", .methodLink RX5 137 yX5_send, .instanceMethod yX5_send, .selects RX5 yX5_send yX5_send, .initialized RX5, .code yX5_send cX5_send 3 none, .fieldLink RX5 22 "TunnelWatchModel" "sent" "[I", .fieldLink RX5 113 "TunnelWatchModel" "now" "I", .methodLink RX5 148 yX5_isHalted, .instanceMethod yX5_isHalted, .selects RX5 yX5_isHalted yX5_isHalted, .code yX5_isHalted cX5_isHalted 3 (some .boolean)] ++ wsX50)
def wsX5_blowing : List Cond := .code yX5_blowing cX5_blowing 5 (some .int) :: ([.fieldLink RX5 7 "TunnelWatchModel" "fans" "[I", .fieldLink RX5 16 "TunnelWatchModel" "command" "[I"] ++ wsX50)
def wsX5_longest : List Cond := .code yX5_longest cX5_longest 6 (some .int) :: ([.fieldLink RX5 7 "TunnelWatchModel" "fans" "[I", .fieldLink RX5 16 "TunnelWatchModel" "command" "[I", .fieldLink RX5 35 "TunnelWatchModel" "run" "[I"] ++ wsX50)
def wsX5_calm_r1 : List Cond := [Cond.fieldLink RX5 7 "TunnelWatchModel" "fans" "[I", Cond.fieldLink RX5 16 "TunnelWatchModel" "command" "[I", Cond.fieldLink RX5 86 "TunnelWatchModel" "wantTurn" "[I", Cond.fieldLink RX5 89 "TunnelWatchModel" "wantFans" "[I", Cond.methodLink RX5 141 yX5_stop, Cond.instanceMethod yX5_stop, Cond.selects RX5 yX5_stop yX5_stop, Cond.initialized RX5, Cond.code yX5_stop cX5_stop 2 none, Cond.fieldLink RX5 41 "TunnelWatchModel" "stopped" "[I", Cond.fieldLink RX5 113 "TunnelWatchModel" "now" "I", Cond.methodLink RX5 137 yX5_send, Cond.instanceMethod yX5_send, Cond.selects RX5 yX5_send yX5_send, Cond.code yX5_send cX5_send 3 none, Cond.fieldLink RX5 22 "TunnelWatchModel" "sent" "[I", Cond.methodLink RX5 155 yX5_blowing, Cond.instanceMethod yX5_blowing, Cond.selects RX5 yX5_blowing yX5_blowing, Cond.code yX5_blowing cX5_blowing 5 (some .int), Cond.methodLink RX5 159 yX5_longest, Cond.instanceMethod yX5_longest, Cond.selects RX5 yX5_longest yX5_longest, Cond.code yX5_longest cX5_longest 6 (some .int)]
def wsX5_calm_r2 : List Cond := [Cond.fieldLink RX5 35 "TunnelWatchModel" "run" "[I"]
def wsX5_calm : List Cond := .code yX5_calm cX5_calm 4 none :: ((wsX5_calm_r1 ++ wsX5_calm_r2) ++ wsX50)
def wsX5_loadOf : List Cond := .code yX5_loadOf cX5_loadOf 4 (some .int) :: ([.fieldLink RX5 16 "TunnelWatchModel" "command" "[I", .fieldLink RX5 113 "TunnelWatchModel" "now" "I", .fieldLink RX5 44 "TunnelWatchModel" "started" "[I", .fieldLink RX5 32 "TunnelWatchModel" "kw" "[I"] ++ wsX50)
def wsX5_relieve_r1 : List Cond := [Cond.fieldLink RX5 103 "TunnelWatchModel" "limit" "I", Cond.methodLink RX5 162 yX5_loadOf, Cond.instanceMethod yX5_loadOf, Cond.selects RX5 yX5_loadOf yX5_loadOf, Cond.initialized RX5, Cond.code yX5_loadOf cX5_loadOf 4 (some .int), Cond.fieldLink RX5 16 "TunnelWatchModel" "command" "[I", Cond.fieldLink RX5 113 "TunnelWatchModel" "now" "I", Cond.fieldLink RX5 44 "TunnelWatchModel" "started" "[I", Cond.fieldLink RX5 32 "TunnelWatchModel" "kw" "[I", Cond.methodLink RX5 159 yX5_longest, Cond.instanceMethod yX5_longest, Cond.selects RX5 yX5_longest yX5_longest, Cond.code yX5_longest cX5_longest 6 (some .int), Cond.fieldLink RX5 7 "TunnelWatchModel" "fans" "[I", Cond.fieldLink RX5 35 "TunnelWatchModel" "run" "[I", Cond.methodLink RX5 141 yX5_stop, Cond.instanceMethod yX5_stop, Cond.selects RX5 yX5_stop yX5_stop, Cond.code yX5_stop cX5_stop 2 none, Cond.fieldLink RX5 41 "TunnelWatchModel" "stopped" "[I", Cond.methodLink RX5 137 yX5_send, Cond.instanceMethod yX5_send, Cond.selects RX5 yX5_send yX5_send]
def wsX5_relieve_r2 : List Cond := [Cond.code yX5_send cX5_send 3 none, Cond.fieldLink RX5 22 "TunnelWatchModel" "sent" "[I"]
def wsX5_relieve : List Cond := .code yX5_relieve cX5_relieve 3 none :: ((wsX5_relieve_r1 ++ wsX5_relieve_r2) ++ wsX50)
def wsX5_startsOf : List Cond := .code yX5_startsOf cX5_startsOf 3 (some .int) :: ([.fieldLink RX5 113 "TunnelWatchModel" "now" "I", .fieldLink RX5 92 "TunnelWatchModel" "begun" "[I"] ++ wsX50)
def wsX5_hasRested : List Cond := .code yX5_hasRested cX5_hasRested 3 (some .boolean) :: ([.fieldLink RX5 38 "TunnelWatchModel" "last" "[I", .fieldLink RX5 113 "TunnelWatchModel" "now" "I", .fieldLink RX5 41 "TunnelWatchModel" "stopped" "[I", .fieldLink RX5 99 "TunnelWatchModel" "rest" "I"] ++ wsX50)
def wsX5_starting_r1 : List Cond := [Cond.fieldLink RX5 86 "TunnelWatchModel" "wantTurn" "[I", Cond.fieldLink RX5 89 "TunnelWatchModel" "wantFans" "[I", Cond.fieldLink RX5 7 "TunnelWatchModel" "fans" "[I", Cond.fieldLink RX5 16 "TunnelWatchModel" "command" "[I", Cond.fieldLink RX5 29 "TunnelWatchModel" "out" "[Z", Cond.fieldLink RX5 35 "TunnelWatchModel" "run" "[I", Cond.fieldLink RX5 32 "TunnelWatchModel" "kw" "[I", Cond.fieldLink RX5 103 "TunnelWatchModel" "limit" "I", Cond.fieldLink RX5 151 "TunnelWatchModel" "wrong" "Z", Cond.fieldLink RX5 38 "TunnelWatchModel" "last" "[I", Cond.fieldLink RX5 44 "TunnelWatchModel" "started" "[I", Cond.fieldLink RX5 113 "TunnelWatchModel" "now" "I", Cond.fieldLink RX5 92 "TunnelWatchModel" "begun" "[I", Cond.methodLink RX5 155 yX5_blowing, Cond.instanceMethod yX5_blowing, Cond.selects RX5 yX5_blowing yX5_blowing, Cond.initialized RX5, Cond.code yX5_blowing cX5_blowing 5 (some .int), Cond.methodLink RX5 166 yX5_hasRested, Cond.instanceMethod yX5_hasRested, Cond.selects RX5 yX5_hasRested yX5_hasRested, Cond.code yX5_hasRested cX5_hasRested 3 (some .boolean), Cond.fieldLink RX5 41 "TunnelWatchModel" "stopped" "[I", Cond.fieldLink RX5 99 "TunnelWatchModel" "rest" "I"]
def wsX5_starting_r2 : List Cond := [Cond.methodLink RX5 169 yX5_startsOf, Cond.instanceMethod yX5_startsOf, Cond.selects RX5 yX5_startsOf yX5_startsOf, Cond.code yX5_startsOf cX5_startsOf 3 (some .int), Cond.methodLink RX5 162 yX5_loadOf, Cond.instanceMethod yX5_loadOf, Cond.selects RX5 yX5_loadOf yX5_loadOf, Cond.code yX5_loadOf cX5_loadOf 4 (some .int), Cond.methodLink RX5 137 yX5_send, Cond.instanceMethod yX5_send, Cond.selects RX5 yX5_send yX5_send, Cond.code yX5_send cX5_send 3 none, Cond.fieldLink RX5 22 "TunnelWatchModel" "sent" "[I"]
def wsX5_starting : List Cond := .code yX5_starting cX5_starting 6 (some .boolean) :: ((wsX5_starting_r1 ++ wsX5_starting_r2) ++ wsX50)
def wsX5_look : List Cond := .code yX5_look cX5_look 2 none :: ([.fieldLink RX5 151 "TunnelWatchModel" "wrong" "Z", .fieldLink RX5 103 "TunnelWatchModel" "limit" "I", .fieldLink RX5 16 "TunnelWatchModel" "command" "[I", .fieldLink RX5 172 "TunnelWatchModel" "broken" "I", .methodLink RX5 162 yX5_loadOf, .instanceMethod yX5_loadOf, .selects RX5 yX5_loadOf yX5_loadOf, .initialized RX5, .code yX5_loadOf cX5_loadOf 4 (some .int), .fieldLink RX5 113 "TunnelWatchModel" "now" "I", .fieldLink RX5 44 "TunnelWatchModel" "started" "[I", .fieldLink RX5 32 "TunnelWatchModel" "kw" "[I", .methodLink RX5 169 yX5_startsOf, .instanceMethod yX5_startsOf, .selects RX5 yX5_startsOf yX5_startsOf, .code yX5_startsOf cX5_startsOf 3 (some .int), .fieldLink RX5 92 "TunnelWatchModel" "begun" "[I", .methodLink RX5 155 yX5_blowing, .instanceMethod yX5_blowing, .selects RX5 yX5_blowing yX5_blowing, .code yX5_blowing cX5_blowing 5 (some .int), .fieldLink RX5 7 "TunnelWatchModel" "fans" "[I"] ++ wsX50)
def wsX5_tick_r1 : List Cond := [Cond.fieldLink RX5 113 "TunnelWatchModel" "now" "I", Cond.fieldLink RX5 151 "TunnelWatchModel" "wrong" "Z", Cond.fieldLink RX5 35 "TunnelWatchModel" "run" "[I", Cond.fieldLink RX5 16 "TunnelWatchModel" "command" "[I", Cond.methodLink RX5 175 yX5_act, Cond.instanceMethod yX5_act, Cond.selects RX5 yX5_act yX5_act, Cond.initialized RX5, Cond.code yX5_act cX5_act 4 none, Cond.fieldLink RX5 7 "TunnelWatchModel" "fans" "[I", Cond.fieldLink RX5 19 "TunnelWatchModel" "actual" "[I", Cond.fieldLink RX5 25 "TunnelWatchModel" "failed" "[Z", Cond.fieldLink RX5 22 "TunnelWatchModel" "sent" "[I", Cond.fieldLink RX5 13 "TunnelWatchModel" "lag" "[I", Cond.fieldLink RX5 29 "TunnelWatchModel" "out" "[Z", Cond.methodLink RX5 141 yX5_stop, Cond.instanceMethod yX5_stop, Cond.selects RX5 yX5_stop yX5_stop, Cond.code yX5_stop cX5_stop 2 none, Cond.fieldLink RX5 41 "TunnelWatchModel" "stopped" "[I", Cond.methodLink RX5 137 yX5_send, Cond.instanceMethod yX5_send, Cond.selects RX5 yX5_send yX5_send, Cond.code yX5_send cX5_send 3 none]
def wsX5_tick_r2 : List Cond := [Cond.methodLink RX5 178 yX5_judge, Cond.instanceMethod yX5_judge, Cond.selects RX5 yX5_judge yX5_judge, Cond.code yX5_judge cX5_judge 6 none, Cond.fieldLink RX5 95 "TunnelWatchModel" "sections" "I", Cond.fieldLink RX5 53 "TunnelWatchModel" "pulled" "[Z", Cond.fieldLink RX5 56 "TunnelWatchModel" "rank" "[I", Cond.fieldLink RX5 71 "TunnelWatchModel" "fire" "[I", Cond.fieldLink RX5 74 "TunnelWatchModel" "place" "[I", Cond.methodLink RX5 145 yX5_isCandidate, Cond.instanceMethod yX5_isCandidate, Cond.selects RX5 yX5_isCandidate yX5_isCandidate, Cond.code yX5_isCandidate cX5_isCandidate 6 (some .boolean), Cond.methodLink RX5 131 yX5_isOn, Cond.instanceMethod yX5_isOn, Cond.selects RX5 yX5_isOn yX5_isOn, Cond.code yX5_isOn cX5_isOn 3 (some .boolean), Cond.fieldLink RX5 47 "TunnelWatchModel" "value" "[I", Cond.fieldLink RX5 50 "TunnelWatchModel" "deaf" "[Z", Cond.methodLink RX5 134 yX5_leastOn, Cond.instanceMethod yX5_leastOn, Cond.selects RX5 yX5_leastOn yX5_leastOn, Cond.code yX5_leastOn cX5_leastOn 4 (some .int), Cond.methodLink RX5 181 yX5_burning]
def wsX5_tick_r3 : List Cond := [Cond.instanceMethod yX5_burning, Cond.selects RX5 yX5_burning yX5_burning, Cond.code yX5_burning cX5_burning 1 (some .int), Cond.methodLink RX5 184 yX5_want, Cond.instanceMethod yX5_want, Cond.selects RX5 yX5_want yX5_want, Cond.code yX5_want cX5_want 4 none, Cond.fieldLink RX5 86 "TunnelWatchModel" "wantTurn" "[I", Cond.fieldLink RX5 80 "TunnelWatchModel" "wishTurn" "[I", Cond.fieldLink RX5 59 "TunnelWatchModel" "turnHere" "[I", Cond.fieldLink RX5 65 "TunnelWatchModel" "turnThere" "[I", Cond.fieldLink RX5 89 "TunnelWatchModel" "wantFans" "[I", Cond.fieldLink RX5 83 "TunnelWatchModel" "wishFans" "[I", Cond.fieldLink RX5 62 "TunnelWatchModel" "fansHere" "[I", Cond.fieldLink RX5 68 "TunnelWatchModel" "fansThere" "[I", Cond.methodLink RX5 187 yX5_traffic, Cond.instanceMethod yX5_traffic, Cond.selects RX5 yX5_traffic yX5_traffic, Cond.code yX5_traffic cX5_traffic 5 none, Cond.fieldLink RX5 77 "TunnelWatchModel" "ordered" "[Z", Cond.methodLink RX5 148 yX5_isHalted, Cond.instanceMethod yX5_isHalted, Cond.selects RX5 yX5_isHalted yX5_isHalted, Cond.code yX5_isHalted cX5_isHalted 3 (some .boolean)]
def wsX5_tick_r4 : List Cond := [Cond.methodLink RX5 191 yX5_calm, Cond.instanceMethod yX5_calm, Cond.selects RX5 yX5_calm yX5_calm, Cond.code yX5_calm cX5_calm 4 none, Cond.methodLink RX5 155 yX5_blowing, Cond.instanceMethod yX5_blowing, Cond.selects RX5 yX5_blowing yX5_blowing, Cond.code yX5_blowing cX5_blowing 5 (some .int), Cond.methodLink RX5 159 yX5_longest, Cond.instanceMethod yX5_longest, Cond.selects RX5 yX5_longest yX5_longest, Cond.code yX5_longest cX5_longest 6 (some .int), Cond.methodLink RX5 195 yX5_relieve, Cond.instanceMethod yX5_relieve, Cond.selects RX5 yX5_relieve yX5_relieve, Cond.code yX5_relieve cX5_relieve 3 none, Cond.fieldLink RX5 103 "TunnelWatchModel" "limit" "I", Cond.methodLink RX5 162 yX5_loadOf, Cond.instanceMethod yX5_loadOf, Cond.selects RX5 yX5_loadOf yX5_loadOf, Cond.code yX5_loadOf cX5_loadOf 4 (some .int), Cond.fieldLink RX5 44 "TunnelWatchModel" "started" "[I", Cond.fieldLink RX5 32 "TunnelWatchModel" "kw" "[I", Cond.methodLink RX5 198 yX5_starting]
def wsX5_tick_r5 : List Cond := [Cond.instanceMethod yX5_starting, Cond.selects RX5 yX5_starting yX5_starting, Cond.code yX5_starting cX5_starting 6 (some .boolean), Cond.fieldLink RX5 38 "TunnelWatchModel" "last" "[I", Cond.fieldLink RX5 92 "TunnelWatchModel" "begun" "[I", Cond.methodLink RX5 166 yX5_hasRested, Cond.instanceMethod yX5_hasRested, Cond.selects RX5 yX5_hasRested yX5_hasRested, Cond.code yX5_hasRested cX5_hasRested 3 (some .boolean), Cond.fieldLink RX5 99 "TunnelWatchModel" "rest" "I", Cond.methodLink RX5 169 yX5_startsOf, Cond.instanceMethod yX5_startsOf, Cond.selects RX5 yX5_startsOf yX5_startsOf, Cond.code yX5_startsOf cX5_startsOf 3 (some .int), Cond.methodLink RX5 201 yX5_look, Cond.instanceMethod yX5_look, Cond.selects RX5 yX5_look yX5_look, Cond.code yX5_look cX5_look 2 none, Cond.fieldLink RX5 172 "TunnelWatchModel" "broken" "I"]
def wsX5_tick : List Cond := .code yX5_tick cX5_tick 4 none :: ((wsX5_tick_r1 ++ (wsX5_tick_r2 ++ (wsX5_tick_r3 ++ (wsX5_tick_r4 ++ wsX5_tick_r5)))) ++ wsX50)
def wsX5_ticks_r1 : List Cond := [Cond.fieldLink RX5 113 "TunnelWatchModel" "now" "I", Cond.methodLink RX5 116 yX5_goes, Cond.instanceMethod yX5_goes, Cond.selects RX5 yX5_goes yX5_goes, Cond.initialized RX5, Cond.code yX5_goes cX5_goes 3 (some .boolean), Cond.fieldLink RX5 106 "TunnelWatchModel" "code" "I", Cond.methodLink RX5 204 yX5_tick, Cond.instanceMethod yX5_tick, Cond.selects RX5 yX5_tick yX5_tick, Cond.code yX5_tick cX5_tick 4 none, Cond.fieldLink RX5 151 "TunnelWatchModel" "wrong" "Z", Cond.fieldLink RX5 35 "TunnelWatchModel" "run" "[I", Cond.fieldLink RX5 16 "TunnelWatchModel" "command" "[I", Cond.methodLink RX5 175 yX5_act, Cond.instanceMethod yX5_act, Cond.selects RX5 yX5_act yX5_act, Cond.code yX5_act cX5_act 4 none, Cond.fieldLink RX5 7 "TunnelWatchModel" "fans" "[I", Cond.fieldLink RX5 19 "TunnelWatchModel" "actual" "[I", Cond.fieldLink RX5 25 "TunnelWatchModel" "failed" "[Z", Cond.fieldLink RX5 22 "TunnelWatchModel" "sent" "[I", Cond.fieldLink RX5 13 "TunnelWatchModel" "lag" "[I", Cond.fieldLink RX5 29 "TunnelWatchModel" "out" "[Z"]
def wsX5_ticks_r2 : List Cond := [Cond.methodLink RX5 141 yX5_stop, Cond.instanceMethod yX5_stop, Cond.selects RX5 yX5_stop yX5_stop, Cond.code yX5_stop cX5_stop 2 none, Cond.fieldLink RX5 41 "TunnelWatchModel" "stopped" "[I", Cond.methodLink RX5 137 yX5_send, Cond.instanceMethod yX5_send, Cond.selects RX5 yX5_send yX5_send, Cond.code yX5_send cX5_send 3 none, Cond.methodLink RX5 178 yX5_judge, Cond.instanceMethod yX5_judge, Cond.selects RX5 yX5_judge yX5_judge, Cond.code yX5_judge cX5_judge 6 none, Cond.fieldLink RX5 95 "TunnelWatchModel" "sections" "I", Cond.fieldLink RX5 53 "TunnelWatchModel" "pulled" "[Z", Cond.fieldLink RX5 56 "TunnelWatchModel" "rank" "[I", Cond.fieldLink RX5 71 "TunnelWatchModel" "fire" "[I", Cond.fieldLink RX5 74 "TunnelWatchModel" "place" "[I", Cond.methodLink RX5 145 yX5_isCandidate, Cond.instanceMethod yX5_isCandidate, Cond.selects RX5 yX5_isCandidate yX5_isCandidate, Cond.code yX5_isCandidate cX5_isCandidate 6 (some .boolean), Cond.methodLink RX5 131 yX5_isOn, Cond.instanceMethod yX5_isOn]
def wsX5_ticks_r3 : List Cond := [Cond.selects RX5 yX5_isOn yX5_isOn, Cond.code yX5_isOn cX5_isOn 3 (some .boolean), Cond.fieldLink RX5 47 "TunnelWatchModel" "value" "[I", Cond.fieldLink RX5 50 "TunnelWatchModel" "deaf" "[Z", Cond.methodLink RX5 134 yX5_leastOn, Cond.instanceMethod yX5_leastOn, Cond.selects RX5 yX5_leastOn yX5_leastOn, Cond.code yX5_leastOn cX5_leastOn 4 (some .int), Cond.methodLink RX5 181 yX5_burning, Cond.instanceMethod yX5_burning, Cond.selects RX5 yX5_burning yX5_burning, Cond.code yX5_burning cX5_burning 1 (some .int), Cond.methodLink RX5 184 yX5_want, Cond.instanceMethod yX5_want, Cond.selects RX5 yX5_want yX5_want, Cond.code yX5_want cX5_want 4 none, Cond.fieldLink RX5 86 "TunnelWatchModel" "wantTurn" "[I", Cond.fieldLink RX5 80 "TunnelWatchModel" "wishTurn" "[I", Cond.fieldLink RX5 59 "TunnelWatchModel" "turnHere" "[I", Cond.fieldLink RX5 65 "TunnelWatchModel" "turnThere" "[I", Cond.fieldLink RX5 89 "TunnelWatchModel" "wantFans" "[I", Cond.fieldLink RX5 83 "TunnelWatchModel" "wishFans" "[I", Cond.fieldLink RX5 62 "TunnelWatchModel" "fansHere" "[I", Cond.fieldLink RX5 68 "TunnelWatchModel" "fansThere" "[I"]
def wsX5_ticks_r4 : List Cond := [Cond.methodLink RX5 187 yX5_traffic, Cond.instanceMethod yX5_traffic, Cond.selects RX5 yX5_traffic yX5_traffic, Cond.code yX5_traffic cX5_traffic 5 none, Cond.fieldLink RX5 77 "TunnelWatchModel" "ordered" "[Z", Cond.methodLink RX5 148 yX5_isHalted, Cond.instanceMethod yX5_isHalted, Cond.selects RX5 yX5_isHalted yX5_isHalted, Cond.code yX5_isHalted cX5_isHalted 3 (some .boolean), Cond.methodLink RX5 191 yX5_calm, Cond.instanceMethod yX5_calm, Cond.selects RX5 yX5_calm yX5_calm, Cond.code yX5_calm cX5_calm 4 none, Cond.methodLink RX5 155 yX5_blowing, Cond.instanceMethod yX5_blowing, Cond.selects RX5 yX5_blowing yX5_blowing, Cond.code yX5_blowing cX5_blowing 5 (some .int), Cond.methodLink RX5 159 yX5_longest, Cond.instanceMethod yX5_longest, Cond.selects RX5 yX5_longest yX5_longest, Cond.code yX5_longest cX5_longest 6 (some .int), Cond.methodLink RX5 195 yX5_relieve, Cond.instanceMethod yX5_relieve, Cond.selects RX5 yX5_relieve yX5_relieve]
def wsX5_ticks_r5 : List Cond := [Cond.code yX5_relieve cX5_relieve 3 none, Cond.fieldLink RX5 103 "TunnelWatchModel" "limit" "I", Cond.methodLink RX5 162 yX5_loadOf, Cond.instanceMethod yX5_loadOf, Cond.selects RX5 yX5_loadOf yX5_loadOf, Cond.code yX5_loadOf cX5_loadOf 4 (some .int), Cond.fieldLink RX5 44 "TunnelWatchModel" "started" "[I", Cond.fieldLink RX5 32 "TunnelWatchModel" "kw" "[I", Cond.methodLink RX5 198 yX5_starting, Cond.instanceMethod yX5_starting, Cond.selects RX5 yX5_starting yX5_starting, Cond.code yX5_starting cX5_starting 6 (some .boolean), Cond.fieldLink RX5 38 "TunnelWatchModel" "last" "[I", Cond.fieldLink RX5 92 "TunnelWatchModel" "begun" "[I", Cond.methodLink RX5 166 yX5_hasRested, Cond.instanceMethod yX5_hasRested, Cond.selects RX5 yX5_hasRested yX5_hasRested, Cond.code yX5_hasRested cX5_hasRested 3 (some .boolean), Cond.fieldLink RX5 99 "TunnelWatchModel" "rest" "I", Cond.methodLink RX5 169 yX5_startsOf, Cond.instanceMethod yX5_startsOf, Cond.selects RX5 yX5_startsOf yX5_startsOf, Cond.code yX5_startsOf cX5_startsOf 3 (some .int), Cond.methodLink RX5 201 yX5_look]
def wsX5_ticks_r6 : List Cond := [Cond.instanceMethod yX5_look, Cond.selects RX5 yX5_look yX5_look, Cond.code yX5_look cX5_look 2 none, Cond.fieldLink RX5 172 "TunnelWatchModel" "broken" "I"]
def wsX5_ticks : List Cond := .code yX5_ticks cX5_ticks 3 (some .int) :: ((wsX5_ticks_r1 ++ (wsX5_ticks_r2 ++ (wsX5_ticks_r3 ++ (wsX5_ticks_r4 ++ (wsX5_ticks_r5 ++ wsX5_ticks_r6))))) ++ wsX50)
def wsX5_tube : List Cond := .code yX5_tube cX5_tube 3 (some .int) :: ([.fieldLink RX5 106 "TunnelWatchModel" "code" "I", .fieldLink RX5 71 "TunnelWatchModel" "fire" "[I", .fieldLink RX5 74 "TunnelWatchModel" "place" "[I", .fieldLink RX5 86 "TunnelWatchModel" "wantTurn" "[I", .fieldLink RX5 89 "TunnelWatchModel" "wantFans" "[I", .methodLink RX5 109 yX5_isTube, .static yX5_isTube, .initialized RX5, .code yX5_isTube cX5_isTube 1 (some .boolean), .methodLink RX5 155 yX5_blowing, .instanceMethod yX5_blowing, .selects RX5 yX5_blowing yX5_blowing, .code yX5_blowing cX5_blowing 5 (some .int), .fieldLink RX5 7 "TunnelWatchModel" "fans" "[I", .fieldLink RX5 16 "TunnelWatchModel" "command" "[I"] ++ wsX50)
def wsX5_device : List Cond := .code yX5_device cX5_device 6 (some .int) :: ([.fieldLink RX5 106 "TunnelWatchModel" "code" "I", .fieldLink RX5 16 "TunnelWatchModel" "command" "[I", .fieldLink RX5 19 "TunnelWatchModel" "actual" "[I", .fieldLink RX5 22 "TunnelWatchModel" "sent" "[I", .fieldLink RX5 25 "TunnelWatchModel" "failed" "[Z", .fieldLink RX5 29 "TunnelWatchModel" "out" "[Z", .fieldLink RX5 35 "TunnelWatchModel" "run" "[I", .fieldLink RX5 38 "TunnelWatchModel" "last" "[I", .fieldLink RX5 99 "TunnelWatchModel" "rest" "I", .fieldLink RX5 41 "TunnelWatchModel" "stopped" "[I", .fieldLink RX5 113 "TunnelWatchModel" "now" "I", .methodLink RX5 120 yX5_isDevice, .instanceMethod yX5_isDevice, .selects RX5 yX5_isDevice yX5_isDevice, .initialized RX5, .code yX5_isDevice cX5_isDevice 3 (some .boolean), .fieldLink RX5 7 "TunnelWatchModel" "fans" "[I", .methodLink RX5 109 yX5_isTube, .static yX5_isTube, .code yX5_isTube cX5_isTube 1 (some .boolean)] ++ wsX50)
def wsX5_load : List Cond := .code yX5_load cX5_load 1 (some .int) :: ([.fieldLink RX5 106 "TunnelWatchModel" "code" "I", .methodLink RX5 162 yX5_loadOf, .instanceMethod yX5_loadOf, .selects RX5 yX5_loadOf yX5_loadOf, .initialized RX5, .code yX5_loadOf cX5_loadOf 4 (some .int), .fieldLink RX5 16 "TunnelWatchModel" "command" "[I", .fieldLink RX5 113 "TunnelWatchModel" "now" "I", .fieldLink RX5 44 "TunnelWatchModel" "started" "[I", .fieldLink RX5 32 "TunnelWatchModel" "kw" "[I"] ++ wsX50)
def wsX5_starts : List Cond := .code yX5_starts cX5_starts 1 (some .int) :: ([.fieldLink RX5 106 "TunnelWatchModel" "code" "I", .methodLink RX5 169 yX5_startsOf, .instanceMethod yX5_startsOf, .selects RX5 yX5_startsOf yX5_startsOf, .initialized RX5, .code yX5_startsOf cX5_startsOf 3 (some .int), .fieldLink RX5 113 "TunnelWatchModel" "now" "I", .fieldLink RX5 92 "TunnelWatchModel" "begun" "[I"] ++ wsX50)
def wsX5_broken : List Cond := .code yX5_broken cX5_broken 1 (some .int) :: ([.fieldLink RX5 106 "TunnelWatchModel" "code" "I", .fieldLink RX5 172 "TunnelWatchModel" "broken" "I"] ++ wsX50)
theorem dX5_init_0 : decode cX5_init 0 = .ok (.aload_n 0, 1) := by decide +kernel
theorem dX5_init_1 : decode cX5_init 1 = .ok (.invokespecial 1, 3) := by decide +kernel
theorem dX5_init_4 : decode cX5_init 4 = .ok (.aload_n 0, 1) := by decide +kernel
theorem dX5_init_5 : decode cX5_init 5 = .ok (.iconst 2, 1) := by decide +kernel
theorem dX5_init_6 : decode cX5_init 6 = .ok (.newarray .int, 2) := by decide +kernel
theorem dX5_init_8 : decode cX5_init 8 = .ok (.putfield 7, 3) := by decide +kernel
theorem dX5_init_11 : decode cX5_init 11 = .ok (.aload_n 0, 1) := by decide +kernel
theorem dX5_init_12 : decode cX5_init 12 = .ok (.bipush 28, 2) := by decide +kernel
theorem dX5_init_14 : decode cX5_init 14 = .ok (.newarray .int, 2) := by decide +kernel
theorem dX5_init_16 : decode cX5_init 16 = .ok (.putfield 13, 3) := by decide +kernel
theorem dX5_init_19 : decode cX5_init 19 = .ok (.aload_n 0, 1) := by decide +kernel
theorem dX5_init_20 : decode cX5_init 20 = .ok (.bipush 28, 2) := by decide +kernel
theorem dX5_init_22 : decode cX5_init 22 = .ok (.newarray .int, 2) := by decide +kernel
theorem dX5_init_24 : decode cX5_init 24 = .ok (.putfield 16, 3) := by decide +kernel
theorem dX5_init_27 : decode cX5_init 27 = .ok (.aload_n 0, 1) := by decide +kernel
theorem dX5_init_28 : decode cX5_init 28 = .ok (.bipush 28, 2) := by decide +kernel
theorem dX5_init_30 : decode cX5_init 30 = .ok (.newarray .int, 2) := by decide +kernel
theorem dX5_init_32 : decode cX5_init 32 = .ok (.putfield 19, 3) := by decide +kernel
theorem dX5_init_35 : decode cX5_init 35 = .ok (.aload_n 0, 1) := by decide +kernel
theorem dX5_init_36 : decode cX5_init 36 = .ok (.bipush 28, 2) := by decide +kernel
theorem dX5_init_38 : decode cX5_init 38 = .ok (.newarray .int, 2) := by decide +kernel
theorem dX5_init_40 : decode cX5_init 40 = .ok (.putfield 22, 3) := by decide +kernel
theorem dX5_init_43 : decode cX5_init 43 = .ok (.aload_n 0, 1) := by decide +kernel
theorem dX5_init_44 : decode cX5_init 44 = .ok (.bipush 28, 2) := by decide +kernel
theorem dX5_init_46 : decode cX5_init 46 = .ok (.newarray .boolean, 2) := by decide +kernel
theorem dX5_init_48 : decode cX5_init 48 = .ok (.putfield 25, 3) := by decide +kernel
theorem dX5_init_51 : decode cX5_init 51 = .ok (.aload_n 0, 1) := by decide +kernel
theorem dX5_init_52 : decode cX5_init 52 = .ok (.bipush 28, 2) := by decide +kernel
theorem dX5_init_54 : decode cX5_init 54 = .ok (.newarray .boolean, 2) := by decide +kernel
theorem dX5_init_56 : decode cX5_init 56 = .ok (.putfield 29, 3) := by decide +kernel
theorem dX5_init_59 : decode cX5_init 59 = .ok (.aload_n 0, 1) := by decide +kernel
theorem dX5_init_60 : decode cX5_init 60 = .ok (.bipush 28, 2) := by decide +kernel
theorem dX5_init_62 : decode cX5_init 62 = .ok (.newarray .int, 2) := by decide +kernel
theorem dX5_init_64 : decode cX5_init 64 = .ok (.putfield 32, 3) := by decide +kernel
theorem dX5_init_67 : decode cX5_init 67 = .ok (.aload_n 0, 1) := by decide +kernel
theorem dX5_init_68 : decode cX5_init 68 = .ok (.bipush 28, 2) := by decide +kernel
theorem dX5_init_70 : decode cX5_init 70 = .ok (.newarray .int, 2) := by decide +kernel
theorem dX5_init_72 : decode cX5_init 72 = .ok (.putfield 35, 3) := by decide +kernel
theorem dX5_init_75 : decode cX5_init 75 = .ok (.aload_n 0, 1) := by decide +kernel
theorem dX5_init_76 : decode cX5_init 76 = .ok (.bipush 28, 2) := by decide +kernel
theorem dX5_init_78 : decode cX5_init 78 = .ok (.newarray .int, 2) := by decide +kernel
theorem dX5_init_80 : decode cX5_init 80 = .ok (.putfield 38, 3) := by decide +kernel
theorem dX5_init_83 : decode cX5_init 83 = .ok (.aload_n 0, 1) := by decide +kernel
theorem dX5_init_84 : decode cX5_init 84 = .ok (.bipush 28, 2) := by decide +kernel
theorem dX5_init_86 : decode cX5_init 86 = .ok (.newarray .int, 2) := by decide +kernel
theorem dX5_init_88 : decode cX5_init 88 = .ok (.putfield 41, 3) := by decide +kernel
theorem dX5_init_91 : decode cX5_init 91 = .ok (.aload_n 0, 1) := by decide +kernel
theorem dX5_init_92 : decode cX5_init 92 = .ok (.bipush 28, 2) := by decide +kernel
theorem dX5_init_94 : decode cX5_init 94 = .ok (.newarray .int, 2) := by decide +kernel
theorem dX5_init_96 : decode cX5_init 96 = .ok (.putfield 44, 3) := by decide +kernel
theorem dX5_init_99 : decode cX5_init 99 = .ok (.aload_n 0, 1) := by decide +kernel
theorem dX5_init_100 : decode cX5_init 100 = .ok (.bipush 48, 2) := by decide +kernel
theorem dX5_init_102 : decode cX5_init 102 = .ok (.newarray .int, 2) := by decide +kernel
theorem dX5_init_104 : decode cX5_init 104 = .ok (.putfield 47, 3) := by decide +kernel
theorem dX5_init_107 : decode cX5_init 107 = .ok (.aload_n 0, 1) := by decide +kernel
theorem dX5_init_108 : decode cX5_init 108 = .ok (.bipush 48, 2) := by decide +kernel
theorem dX5_init_110 : decode cX5_init 110 = .ok (.newarray .boolean, 2) := by decide +kernel
theorem dX5_init_112 : decode cX5_init 112 = .ok (.putfield 50, 3) := by decide +kernel
theorem dX5_init_115 : decode cX5_init 115 = .ok (.aload_n 0, 1) := by decide +kernel
theorem dX5_init_116 : decode cX5_init 116 = .ok (.bipush 48, 2) := by decide +kernel
theorem dX5_init_118 : decode cX5_init 118 = .ok (.newarray .boolean, 2) := by decide +kernel
theorem dX5_init_120 : decode cX5_init 120 = .ok (.putfield 53, 3) := by decide +kernel
theorem dX5_init_123 : decode cX5_init 123 = .ok (.aload_n 0, 1) := by decide +kernel
theorem dX5_init_124 : decode cX5_init 124 = .ok (.bipush 48, 2) := by decide +kernel
theorem dX5_init_126 : decode cX5_init 126 = .ok (.newarray .int, 2) := by decide +kernel
theorem dX5_init_128 : decode cX5_init 128 = .ok (.putfield 56, 3) := by decide +kernel
theorem dX5_init_131 : decode cX5_init 131 = .ok (.aload_n 0, 1) := by decide +kernel
theorem dX5_init_132 : decode cX5_init 132 = .ok (.bipush 48, 2) := by decide +kernel
theorem dX5_init_134 : decode cX5_init 134 = .ok (.newarray .int, 2) := by decide +kernel
theorem dX5_init_136 : decode cX5_init 136 = .ok (.putfield 59, 3) := by decide +kernel
theorem dX5_init_139 : decode cX5_init 139 = .ok (.aload_n 0, 1) := by decide +kernel
theorem dX5_init_140 : decode cX5_init 140 = .ok (.bipush 48, 2) := by decide +kernel
theorem dX5_init_142 : decode cX5_init 142 = .ok (.newarray .int, 2) := by decide +kernel
theorem dX5_init_144 : decode cX5_init 144 = .ok (.putfield 62, 3) := by decide +kernel
theorem dX5_init_147 : decode cX5_init 147 = .ok (.aload_n 0, 1) := by decide +kernel
theorem dX5_init_148 : decode cX5_init 148 = .ok (.bipush 48, 2) := by decide +kernel
theorem dX5_init_150 : decode cX5_init 150 = .ok (.newarray .int, 2) := by decide +kernel
theorem dX5_init_152 : decode cX5_init 152 = .ok (.putfield 65, 3) := by decide +kernel
theorem dX5_init_155 : decode cX5_init 155 = .ok (.aload_n 0, 1) := by decide +kernel
theorem dX5_init_156 : decode cX5_init 156 = .ok (.bipush 48, 2) := by decide +kernel
theorem dX5_init_158 : decode cX5_init 158 = .ok (.newarray .int, 2) := by decide +kernel
theorem dX5_init_160 : decode cX5_init 160 = .ok (.putfield 68, 3) := by decide +kernel
theorem dX5_init_163 : decode cX5_init 163 = .ok (.aload_n 0, 1) := by decide +kernel
theorem dX5_init_164 : decode cX5_init 164 = .ok (.iconst 2, 1) := by decide +kernel
theorem dX5_init_165 : decode cX5_init 165 = .ok (.newarray .int, 2) := by decide +kernel
theorem dX5_init_167 : decode cX5_init 167 = .ok (.putfield 71, 3) := by decide +kernel
theorem dX5_init_170 : decode cX5_init 170 = .ok (.aload_n 0, 1) := by decide +kernel
theorem dX5_init_171 : decode cX5_init 171 = .ok (.iconst 2, 1) := by decide +kernel
theorem dX5_init_172 : decode cX5_init 172 = .ok (.newarray .int, 2) := by decide +kernel
theorem dX5_init_174 : decode cX5_init 174 = .ok (.putfield 74, 3) := by decide +kernel
theorem dX5_init_177 : decode cX5_init 177 = .ok (.aload_n 0, 1) := by decide +kernel
theorem dX5_init_178 : decode cX5_init 178 = .ok (.iconst 2, 1) := by decide +kernel
theorem dX5_init_179 : decode cX5_init 179 = .ok (.newarray .boolean, 2) := by decide +kernel
theorem dX5_init_181 : decode cX5_init 181 = .ok (.putfield 77, 3) := by decide +kernel
theorem dX5_init_184 : decode cX5_init 184 = .ok (.aload_n 0, 1) := by decide +kernel
theorem dX5_init_185 : decode cX5_init 185 = .ok (.iconst 2, 1) := by decide +kernel
theorem dX5_init_186 : decode cX5_init 186 = .ok (.newarray .int, 2) := by decide +kernel
theorem dX5_init_188 : decode cX5_init 188 = .ok (.putfield 80, 3) := by decide +kernel
theorem dX5_init_191 : decode cX5_init 191 = .ok (.aload_n 0, 1) := by decide +kernel
theorem dX5_init_192 : decode cX5_init 192 = .ok (.iconst 2, 1) := by decide +kernel
theorem dX5_init_193 : decode cX5_init 193 = .ok (.newarray .int, 2) := by decide +kernel
theorem dX5_init_195 : decode cX5_init 195 = .ok (.putfield 83, 3) := by decide +kernel
theorem dX5_init_198 : decode cX5_init 198 = .ok (.aload_n 0, 1) := by decide +kernel
theorem dX5_init_199 : decode cX5_init 199 = .ok (.iconst 2, 1) := by decide +kernel
theorem dX5_init_200 : decode cX5_init 200 = .ok (.newarray .int, 2) := by decide +kernel
theorem dX5_init_202 : decode cX5_init 202 = .ok (.putfield 86, 3) := by decide +kernel
theorem dX5_init_205 : decode cX5_init 205 = .ok (.aload_n 0, 1) := by decide +kernel
theorem dX5_init_206 : decode cX5_init 206 = .ok (.iconst 2, 1) := by decide +kernel
theorem dX5_init_207 : decode cX5_init 207 = .ok (.newarray .int, 2) := by decide +kernel
theorem dX5_init_209 : decode cX5_init 209 = .ok (.putfield 89, 3) := by decide +kernel
theorem dX5_init_212 : decode cX5_init 212 = .ok (.aload_n 0, 1) := by decide +kernel
theorem dX5_init_213 : decode cX5_init 213 = .ok (.sipush 20001, 3) := by decide +kernel
theorem dX5_init_216 : decode cX5_init 216 = .ok (.newarray .int, 2) := by decide +kernel
theorem dX5_init_218 : decode cX5_init 218 = .ok (.putfield 92, 3) := by decide +kernel
theorem dX5_init_221 : decode cX5_init 221 = .ok (.aload_n 0, 1) := by decide +kernel
theorem dX5_init_222 : decode cX5_init 222 = .ok (.iload_n 1, 1) := by decide +kernel
theorem dX5_init_223 : decode cX5_init 223 = .ok (.iconst 2, 1) := by decide +kernel
theorem dX5_init_224 : decode cX5_init 224 = .ok (.if_icmp .ge 7, 3) := by decide +kernel
theorem dX5_init_227 : decode cX5_init 227 = .ok (.iconst 2, 1) := by decide +kernel
theorem dX5_init_228 : decode cX5_init 228 = .ok (.goto 15, 3) := by decide +kernel
theorem dX5_init_231 : decode cX5_init 231 = .ok (.iload_n 1, 1) := by decide +kernel
theorem dX5_init_232 : decode cX5_init 232 = .ok (.bipush 24, 2) := by decide +kernel
theorem dX5_init_234 : decode cX5_init 234 = .ok (.if_icmp .le 8, 3) := by decide +kernel
theorem dX5_init_237 : decode cX5_init 237 = .ok (.bipush 24, 2) := by decide +kernel
theorem dX5_init_239 : decode cX5_init 239 = .ok (.goto 4, 3) := by decide +kernel
theorem dX5_init_242 : decode cX5_init 242 = .ok (.iload_n 1, 1) := by decide +kernel
theorem dX5_init_243 : decode cX5_init 243 = .ok (.putfield 95, 3) := by decide +kernel
theorem dX5_init_246 : decode cX5_init 246 = .ok (.aload_n 0, 1) := by decide +kernel
theorem dX5_init_247 : decode cX5_init 247 = .ok (.iload_n 2, 1) := by decide +kernel
theorem dX5_init_248 : decode cX5_init 248 = .ok (.ifCond .ge 7, 3) := by decide +kernel
theorem dX5_init_251 : decode cX5_init 251 = .ok (.iconst 0, 1) := by decide +kernel
theorem dX5_init_252 : decode cX5_init 252 = .ok (.goto 17, 3) := by decide +kernel
theorem dX5_init_255 : decode cX5_init 255 = .ok (.iload_n 2, 1) := by decide +kernel
theorem dX5_init_256 : decode cX5_init 256 = .ok (.sipush 300, 3) := by decide +kernel
theorem dX5_init_259 : decode cX5_init 259 = .ok (.if_icmp .le 9, 3) := by decide +kernel
theorem dX5_init_262 : decode cX5_init 262 = .ok (.sipush 300, 3) := by decide +kernel
theorem dX5_init_265 : decode cX5_init 265 = .ok (.goto 4, 3) := by decide +kernel
theorem dX5_init_268 : decode cX5_init 268 = .ok (.iload_n 2, 1) := by decide +kernel
theorem dX5_init_269 : decode cX5_init 269 = .ok (.putfield 99, 3) := by decide +kernel
theorem dX5_init_272 : decode cX5_init 272 = .ok (.aload_n 0, 1) := by decide +kernel
theorem dX5_init_273 : decode cX5_init 273 = .ok (.iload_n 3, 1) := by decide +kernel
theorem dX5_init_274 : decode cX5_init 274 = .ok (.ifCond .ge 7, 3) := by decide +kernel
theorem dX5_init_277 : decode cX5_init 277 = .ok (.iconst 0, 1) := by decide +kernel
theorem dX5_init_278 : decode cX5_init 278 = .ok (.goto 15, 3) := by decide +kernel
theorem dX5_init_281 : decode cX5_init 281 = .ok (.iload_n 3, 1) := by decide +kernel
theorem dX5_init_282 : decode cX5_init 282 = .ok (.ldc 102, 2) := by decide +kernel
theorem dX5_init_284 : decode cX5_init 284 = .ok (.if_icmp .le 8, 3) := by decide +kernel
theorem dX5_init_287 : decode cX5_init 287 = .ok (.ldc 102, 2) := by decide +kernel
theorem dX5_init_289 : decode cX5_init 289 = .ok (.goto 4, 3) := by decide +kernel
theorem dX5_init_292 : decode cX5_init 292 = .ok (.iload_n 3, 1) := by decide +kernel
theorem dX5_init_293 : decode cX5_init 293 = .ok (.putfield 103, 3) := by decide +kernel
theorem dX5_init_296 : decode cX5_init 296 = .ok (.iconst 0, 1) := by decide +kernel
theorem dX5_init_297 : decode cX5_init 297 = .ok (.istore 4, 2) := by decide +kernel
theorem dX5_init_299 : decode cX5_init 299 = .ok (.iload 4, 2) := by decide +kernel
theorem dX5_init_301 : decode cX5_init 301 = .ok (.bipush 28, 2) := by decide +kernel
theorem dX5_init_303 : decode cX5_init 303 = .ok (.if_icmp .ge 17, 3) := by decide +kernel
theorem dX5_init_306 : decode cX5_init 306 = .ok (.aload_n 0, 1) := by decide +kernel
theorem dX5_init_307 : decode cX5_init 307 = .ok (.getfield 13, 3) := by decide +kernel
theorem dX5_init_310 : decode cX5_init 310 = .ok (.iload 4, 2) := by decide +kernel
theorem dX5_init_312 : decode cX5_init 312 = .ok (.iconst 1, 1) := by decide +kernel
theorem dX5_init_313 : decode cX5_init 313 = .ok (.iastore, 1) := by decide +kernel
theorem dX5_init_314 : decode cX5_init 314 = .ok (.iinc 4 1, 3) := by decide +kernel
theorem dX5_init_317 : decode cX5_init 317 = .ok (.goto (-18), 3) := by decide +kernel
theorem dX5_init_320 : decode cX5_init 320 = .ok (.iconst 0, 1) := by decide +kernel
theorem dX5_init_321 : decode cX5_init 321 = .ok (.istore 4, 2) := by decide +kernel
theorem dX5_init_323 : decode cX5_init 323 = .ok (.iload 4, 2) := by decide +kernel
theorem dX5_init_325 : decode cX5_init 325 = .ok (.bipush 48, 2) := by decide +kernel
theorem dX5_init_327 : decode cX5_init 327 = .ok (.if_icmp .ge 25, 3) := by decide +kernel
theorem dX5_init_330 : decode cX5_init 330 = .ok (.aload_n 0, 1) := by decide +kernel
theorem dX5_init_331 : decode cX5_init 331 = .ok (.getfield 59, 3) := by decide +kernel
theorem dX5_init_334 : decode cX5_init 334 = .ok (.iload 4, 2) := by decide +kernel
theorem dX5_init_336 : decode cX5_init 336 = .ok (.iconst 1, 1) := by decide +kernel
theorem dX5_init_337 : decode cX5_init 337 = .ok (.iastore, 1) := by decide +kernel
theorem dX5_init_338 : decode cX5_init 338 = .ok (.aload_n 0, 1) := by decide +kernel
theorem dX5_init_339 : decode cX5_init 339 = .ok (.getfield 65, 3) := by decide +kernel
theorem dX5_init_342 : decode cX5_init 342 = .ok (.iload 4, 2) := by decide +kernel
theorem dX5_init_344 : decode cX5_init 344 = .ok (.iconst 1, 1) := by decide +kernel
theorem dX5_init_345 : decode cX5_init 345 = .ok (.iastore, 1) := by decide +kernel
theorem dX5_init_346 : decode cX5_init 346 = .ok (.iinc 4 1, 3) := by decide +kernel
theorem dX5_init_349 : decode cX5_init 349 = .ok (.goto (-26), 3) := by decide +kernel
theorem dX5_init_352 : decode cX5_init 352 = .ok (.iconst 0, 1) := by decide +kernel
theorem dX5_init_353 : decode cX5_init 353 = .ok (.istore 4, 2) := by decide +kernel
theorem dX5_init_355 : decode cX5_init 355 = .ok (.iload 4, 2) := by decide +kernel
theorem dX5_init_357 : decode cX5_init 357 = .ok (.iconst 2, 1) := by decide +kernel
theorem dX5_init_358 : decode cX5_init 358 = .ok (.if_icmp .ge 33, 3) := by decide +kernel
theorem dX5_init_361 : decode cX5_init 361 = .ok (.aload_n 0, 1) := by decide +kernel
theorem dX5_init_362 : decode cX5_init 362 = .ok (.getfield 74, 3) := by decide +kernel
theorem dX5_init_365 : decode cX5_init 365 = .ok (.iload 4, 2) := by decide +kernel
theorem dX5_init_367 : decode cX5_init 367 = .ok (.iconst (-1), 1) := by decide +kernel
theorem dX5_init_368 : decode cX5_init 368 = .ok (.iastore, 1) := by decide +kernel
theorem dX5_init_369 : decode cX5_init 369 = .ok (.aload_n 0, 1) := by decide +kernel
theorem dX5_init_370 : decode cX5_init 370 = .ok (.getfield 80, 3) := by decide +kernel
theorem dX5_init_373 : decode cX5_init 373 = .ok (.iload 4, 2) := by decide +kernel
theorem dX5_init_375 : decode cX5_init 375 = .ok (.iconst 1, 1) := by decide +kernel
theorem dX5_init_376 : decode cX5_init 376 = .ok (.iastore, 1) := by decide +kernel
theorem dX5_init_377 : decode cX5_init 377 = .ok (.aload_n 0, 1) := by decide +kernel
theorem dX5_init_378 : decode cX5_init 378 = .ok (.getfield 86, 3) := by decide +kernel
theorem dX5_init_381 : decode cX5_init 381 = .ok (.iload 4, 2) := by decide +kernel
theorem dX5_init_383 : decode cX5_init 383 = .ok (.iconst 1, 1) := by decide +kernel
theorem dX5_init_384 : decode cX5_init 384 = .ok (.iastore, 1) := by decide +kernel
theorem dX5_init_385 : decode cX5_init 385 = .ok (.iinc 4 1, 3) := by decide +kernel
theorem dX5_init_388 : decode cX5_init 388 = .ok (.goto (-33), 3) := by decide +kernel
theorem dX5_init_391 : decode cX5_init 391 = .ok (.return_, 1) := by decide +kernel
theorem dX5_thrown_0 : decode cX5_thrown 0 = .ok (.aload_n 0, 1) := by decide +kernel
theorem dX5_thrown_1 : decode cX5_thrown 1 = .ok (.getfield 106, 3) := by decide +kernel
theorem dX5_thrown_4 : decode cX5_thrown 4 = .ok (.ireturn, 1) := by decide +kernel
theorem dX5_goes_0 : decode cX5_goes 0 = .ok (.aload_n 0, 1) := by decide +kernel
theorem dX5_goes_1 : decode cX5_goes 1 = .ok (.iload_n 1, 1) := by decide +kernel
theorem dX5_goes_2 : decode cX5_goes 2 = .ok (.ifCond .ne 7, 3) := by decide +kernel
theorem dX5_goes_5 : decode cX5_goes 5 = .ok (.iconst 1, 1) := by decide +kernel
theorem dX5_goes_6 : decode cX5_goes 6 = .ok (.goto 12, 3) := by decide +kernel
theorem dX5_goes_9 : decode cX5_goes 9 = .ok (.iload_n 2, 1) := by decide +kernel
theorem dX5_goes_10 : decode cX5_goes 10 = .ok (.ifCond .ne 7, 3) := by decide +kernel
theorem dX5_goes_13 : decode cX5_goes 13 = .ok (.iconst 2, 1) := by decide +kernel
theorem dX5_goes_14 : decode cX5_goes 14 = .ok (.goto 4, 3) := by decide +kernel
theorem dX5_goes_17 : decode cX5_goes 17 = .ok (.iconst 0, 1) := by decide +kernel
theorem dX5_goes_18 : decode cX5_goes 18 = .ok (.putfield 106, 3) := by decide +kernel
theorem dX5_goes_21 : decode cX5_goes 21 = .ok (.aload_n 0, 1) := by decide +kernel
theorem dX5_goes_22 : decode cX5_goes 22 = .ok (.getfield 106, 3) := by decide +kernel
theorem dX5_goes_25 : decode cX5_goes 25 = .ok (.ifCond .ne 7, 3) := by decide +kernel
theorem dX5_goes_28 : decode cX5_goes 28 = .ok (.iconst 1, 1) := by decide +kernel
theorem dX5_goes_29 : decode cX5_goes 29 = .ok (.goto 4, 3) := by decide +kernel
theorem dX5_goes_32 : decode cX5_goes 32 = .ok (.iconst 0, 1) := by decide +kernel
theorem dX5_goes_33 : decode cX5_goes 33 = .ok (.ireturn, 1) := by decide +kernel
theorem dX5_isTube_0 : decode cX5_isTube 0 = .ok (.iload_n 0, 1) := by decide +kernel
theorem dX5_isTube_1 : decode cX5_isTube 1 = .ok (.ifCond .eq 8, 3) := by decide +kernel
theorem dX5_isTube_4 : decode cX5_isTube 4 = .ok (.iload_n 0, 1) := by decide +kernel
theorem dX5_isTube_5 : decode cX5_isTube 5 = .ok (.iconst 1, 1) := by decide +kernel
theorem dX5_isTube_6 : decode cX5_isTube 6 = .ok (.if_icmp .ne 7, 3) := by decide +kernel
theorem dX5_isTube_9 : decode cX5_isTube 9 = .ok (.iconst 1, 1) := by decide +kernel
theorem dX5_isTube_10 : decode cX5_isTube 10 = .ok (.goto 4, 3) := by decide +kernel
theorem dX5_isTube_13 : decode cX5_isTube 13 = .ok (.iconst 0, 1) := by decide +kernel
theorem dX5_isTube_14 : decode cX5_isTube 14 = .ok (.ireturn, 1) := by decide +kernel
set_option maxRecDepth 20000 in
theorem ggX5_isSection_X5_isTube : GoodIn wsX5_isSection wsX5_isTube := goodIn_r _ [5] (by decide +kernel) (by decide +kernel)
set_option maxRecDepth 20000 in
theorem gX5_isSection_X5_isTube : GoodIn wsX5_isSection (va_wsS RX5 109 yX5_isTube wsX5_isTube) := goodIn_app (goodIn_of _ (by decide +kernel)) ggX5_isSection_X5_isTube
theorem dX5_isSection_0 : decode cX5_isSection 0 = .ok (.iload_n 1, 1) := by decide +kernel
theorem dX5_isSection_1 : decode cX5_isSection 1 = .ok (.invokestatic 109, 3) := by decide +kernel
theorem dX5_isSection_4 : decode cX5_isSection 4 = .ok (.ifCond .eq 19, 3) := by decide +kernel
theorem dX5_isSection_7 : decode cX5_isSection 7 = .ok (.iload_n 2, 1) := by decide +kernel
theorem dX5_isSection_8 : decode cX5_isSection 8 = .ok (.ifCond .lt 15, 3) := by decide +kernel
theorem dX5_isSection_11 : decode cX5_isSection 11 = .ok (.iload_n 2, 1) := by decide +kernel
theorem dX5_isSection_12 : decode cX5_isSection 12 = .ok (.aload_n 0, 1) := by decide +kernel
theorem dX5_isSection_13 : decode cX5_isSection 13 = .ok (.getfield 95, 3) := by decide +kernel
theorem dX5_isSection_16 : decode cX5_isSection 16 = .ok (.if_icmp .ge 7, 3) := by decide +kernel
theorem dX5_isSection_19 : decode cX5_isSection 19 = .ok (.iconst 1, 1) := by decide +kernel
theorem dX5_isSection_20 : decode cX5_isSection 20 = .ok (.goto 4, 3) := by decide +kernel
theorem dX5_isSection_23 : decode cX5_isSection 23 = .ok (.iconst 0, 1) := by decide +kernel
theorem dX5_isSection_24 : decode cX5_isSection 24 = .ok (.ireturn, 1) := by decide +kernel
set_option maxRecDepth 20000 in
theorem ggX5_isDevice_X5_isTube : GoodIn wsX5_isDevice wsX5_isTube := goodIn_r _ [5] (by decide +kernel) (by decide +kernel)
set_option maxRecDepth 20000 in
theorem gX5_isDevice_X5_isTube : GoodIn wsX5_isDevice (va_wsS RX5 109 yX5_isTube wsX5_isTube) := goodIn_app (goodIn_of _ (by decide +kernel)) ggX5_isDevice_X5_isTube
theorem dX5_isDevice_0 : decode cX5_isDevice 0 = .ok (.iload_n 1, 1) := by decide +kernel
theorem dX5_isDevice_1 : decode cX5_isDevice 1 = .ok (.invokestatic 109, 3) := by decide +kernel
theorem dX5_isDevice_4 : decode cX5_isDevice 4 = .ok (.ifCond .eq 23, 3) := by decide +kernel
theorem dX5_isDevice_7 : decode cX5_isDevice 7 = .ok (.iload_n 2, 1) := by decide +kernel
theorem dX5_isDevice_8 : decode cX5_isDevice 8 = .ok (.ifCond .lt 19, 3) := by decide +kernel
theorem dX5_isDevice_11 : decode cX5_isDevice 11 = .ok (.iload_n 2, 1) := by decide +kernel
theorem dX5_isDevice_12 : decode cX5_isDevice 12 = .ok (.iconst 2, 1) := by decide +kernel
theorem dX5_isDevice_13 : decode cX5_isDevice 13 = .ok (.aload_n 0, 1) := by decide +kernel
theorem dX5_isDevice_14 : decode cX5_isDevice 14 = .ok (.getfield 7, 3) := by decide +kernel
theorem dX5_isDevice_17 : decode cX5_isDevice 17 = .ok (.iload_n 1, 1) := by decide +kernel
theorem dX5_isDevice_18 : decode cX5_isDevice 18 = .ok (.iaload, 1) := by decide +kernel
theorem dX5_isDevice_19 : decode cX5_isDevice 19 = .ok (.iadd, 1) := by decide +kernel
theorem dX5_isDevice_20 : decode cX5_isDevice 20 = .ok (.if_icmp .ge 7, 3) := by decide +kernel
theorem dX5_isDevice_23 : decode cX5_isDevice 23 = .ok (.iconst 1, 1) := by decide +kernel
theorem dX5_isDevice_24 : decode cX5_isDevice 24 = .ok (.goto 4, 3) := by decide +kernel
theorem dX5_isDevice_27 : decode cX5_isDevice 27 = .ok (.iconst 0, 1) := by decide +kernel
theorem dX5_isDevice_28 : decode cX5_isDevice 28 = .ok (.ireturn, 1) := by decide +kernel
theorem dX5_turnOf_0 : decode cX5_turnOf 0 = .ok (.iload_n 0, 1) := by decide +kernel
theorem dX5_turnOf_1 : decode cX5_turnOf 1 = .ok (.ifCond .ge 7, 3) := by decide +kernel
theorem dX5_turnOf_4 : decode cX5_turnOf 4 = .ok (.iconst (-1), 1) := by decide +kernel
theorem dX5_turnOf_5 : decode cX5_turnOf 5 = .ok (.goto 4, 3) := by decide +kernel
theorem dX5_turnOf_8 : decode cX5_turnOf 8 = .ok (.iconst 1, 1) := by decide +kernel
theorem dX5_turnOf_9 : decode cX5_turnOf 9 = .ok (.ireturn, 1) := by decide +kernel
set_option maxRecDepth 20000 in
theorem ggX5_fan_X5_isTube : GoodIn wsX5_fan wsX5_isTube := goodIn_r _ [7] (by decide +kernel) (by decide +kernel)
set_option maxRecDepth 20000 in
theorem gX5_fan_X5_isTube : GoodIn wsX5_fan (va_wsS RX5 109 yX5_isTube wsX5_isTube) := goodIn_app (goodIn_of _ (by decide +kernel)) ggX5_fan_X5_isTube
set_option maxRecDepth 20000 in
theorem ggX5_fan_X5_goes : GoodIn wsX5_fan wsX5_goes := goodIn_r _ [11, 12, 13, 14, 15, 16, 17, 18, 19, 20, 21, 22, 23, 24, 25, 26, 27, 28, 29, 30, 31, 32, 33, 34, 35, 36, 37, 38, 39, 40, 41, 42, 43, 44, 45, 46, 47] (by decide +kernel) (by decide +kernel)
set_option maxRecDepth 20000 in
theorem gX5_fan_X5_goes : GoodIn wsX5_fan (wsV RX5 116 RX5 yX5_goes wsX5_goes) := goodIn_app (goodIn_of _ (by decide +kernel)) ggX5_fan_X5_goes
theorem dX5_fan_0 : decode cX5_fan 0 = .ok (.aload_n 0, 1) := by decide +kernel
theorem dX5_fan_1 : decode cX5_fan 1 = .ok (.iload_n 1, 1) := by decide +kernel
theorem dX5_fan_2 : decode cX5_fan 2 = .ok (.invokestatic 109, 3) := by decide +kernel
theorem dX5_fan_5 : decode cX5_fan 5 = .ok (.ifCond .eq 19, 3) := by decide +kernel
theorem dX5_fan_8 : decode cX5_fan 8 = .ok (.iload_n 2, 1) := by decide +kernel
theorem dX5_fan_9 : decode cX5_fan 9 = .ok (.iconst 1, 1) := by decide +kernel
theorem dX5_fan_10 : decode cX5_fan 10 = .ok (.if_icmp .lt 14, 3) := by decide +kernel
theorem dX5_fan_13 : decode cX5_fan 13 = .ok (.iload_n 2, 1) := by decide +kernel
theorem dX5_fan_14 : decode cX5_fan 14 = .ok (.sipush 1000, 3) := by decide +kernel
theorem dX5_fan_17 : decode cX5_fan 17 = .ok (.if_icmp .gt 7, 3) := by decide +kernel
theorem dX5_fan_20 : decode cX5_fan 20 = .ok (.iconst 1, 1) := by decide +kernel
theorem dX5_fan_21 : decode cX5_fan 21 = .ok (.goto 4, 3) := by decide +kernel
theorem dX5_fan_24 : decode cX5_fan 24 = .ok (.iconst 0, 1) := by decide +kernel
theorem dX5_fan_25 : decode cX5_fan 25 = .ok (.aload_n 0, 1) := by decide +kernel
theorem dX5_fan_26 : decode cX5_fan 26 = .ok (.getfield 113, 3) := by decide +kernel
theorem dX5_fan_29 : decode cX5_fan 29 = .ok (.ifCond .ne 25, 3) := by decide +kernel
theorem dX5_fan_32 : decode cX5_fan 32 = .ok (.iload_n 1, 1) := by decide +kernel
theorem dX5_fan_33 : decode cX5_fan 33 = .ok (.invokestatic 109, 3) := by decide +kernel
theorem dX5_fan_36 : decode cX5_fan 36 = .ok (.ifCond .eq 14, 3) := by decide +kernel
theorem dX5_fan_39 : decode cX5_fan 39 = .ok (.aload_n 0, 1) := by decide +kernel
theorem dX5_fan_40 : decode cX5_fan 40 = .ok (.getfield 7, 3) := by decide +kernel
theorem dX5_fan_43 : decode cX5_fan 43 = .ok (.iload_n 1, 1) := by decide +kernel
theorem dX5_fan_44 : decode cX5_fan 44 = .ok (.iaload, 1) := by decide +kernel
theorem dX5_fan_45 : decode cX5_fan 45 = .ok (.bipush 12, 2) := by decide +kernel
theorem dX5_fan_47 : decode cX5_fan 47 = .ok (.if_icmp .ge 7, 3) := by decide +kernel
theorem dX5_fan_50 : decode cX5_fan 50 = .ok (.iconst 1, 1) := by decide +kernel
theorem dX5_fan_51 : decode cX5_fan 51 = .ok (.goto 4, 3) := by decide +kernel
theorem dX5_fan_54 : decode cX5_fan 54 = .ok (.iconst 0, 1) := by decide +kernel
theorem dX5_fan_55 : decode cX5_fan 55 = .ok (.invokevirtual 116, 3) := by decide +kernel
theorem dX5_fan_58 : decode cX5_fan 58 = .ok (.ifCond .ne 5, 3) := by decide +kernel
theorem dX5_fan_61 : decode cX5_fan 61 = .ok (.iconst 0, 1) := by decide +kernel
theorem dX5_fan_62 : decode cX5_fan 62 = .ok (.ireturn, 1) := by decide +kernel
theorem dX5_fan_63 : decode cX5_fan 63 = .ok (.aload_n 0, 1) := by decide +kernel
theorem dX5_fan_64 : decode cX5_fan 64 = .ok (.getfield 32, 3) := by decide +kernel
theorem dX5_fan_67 : decode cX5_fan 67 = .ok (.bipush 14, 2) := by decide +kernel
theorem dX5_fan_69 : decode cX5_fan 69 = .ok (.iload_n 1, 1) := by decide +kernel
theorem dX5_fan_70 : decode cX5_fan 70 = .ok (.imul, 1) := by decide +kernel
theorem dX5_fan_71 : decode cX5_fan 71 = .ok (.iconst 2, 1) := by decide +kernel
theorem dX5_fan_72 : decode cX5_fan 72 = .ok (.iadd, 1) := by decide +kernel
theorem dX5_fan_73 : decode cX5_fan 73 = .ok (.aload_n 0, 1) := by decide +kernel
theorem dX5_fan_74 : decode cX5_fan 74 = .ok (.getfield 7, 3) := by decide +kernel
theorem dX5_fan_77 : decode cX5_fan 77 = .ok (.iload_n 1, 1) := by decide +kernel
theorem dX5_fan_78 : decode cX5_fan 78 = .ok (.iaload, 1) := by decide +kernel
theorem dX5_fan_79 : decode cX5_fan 79 = .ok (.iadd, 1) := by decide +kernel
theorem dX5_fan_80 : decode cX5_fan 80 = .ok (.iload_n 2, 1) := by decide +kernel
theorem dX5_fan_81 : decode cX5_fan 81 = .ok (.iastore, 1) := by decide +kernel
theorem dX5_fan_82 : decode cX5_fan 82 = .ok (.aload_n 0, 1) := by decide +kernel
theorem dX5_fan_83 : decode cX5_fan 83 = .ok (.getfield 7, 3) := by decide +kernel
theorem dX5_fan_86 : decode cX5_fan 86 = .ok (.iload_n 1, 1) := by decide +kernel
theorem dX5_fan_87 : decode cX5_fan 87 = .ok (.dup2, 1) := by decide +kernel
theorem dX5_fan_88 : decode cX5_fan 88 = .ok (.iaload, 1) := by decide +kernel
theorem dX5_fan_89 : decode cX5_fan 89 = .ok (.iconst 1, 1) := by decide +kernel
theorem dX5_fan_90 : decode cX5_fan 90 = .ok (.iadd, 1) := by decide +kernel
theorem dX5_fan_91 : decode cX5_fan 91 = .ok (.iastore, 1) := by decide +kernel
theorem dX5_fan_92 : decode cX5_fan 92 = .ok (.aload_n 0, 1) := by decide +kernel
theorem dX5_fan_93 : decode cX5_fan 93 = .ok (.getfield 7, 3) := by decide +kernel
theorem dX5_fan_96 : decode cX5_fan 96 = .ok (.iload_n 1, 1) := by decide +kernel
theorem dX5_fan_97 : decode cX5_fan 97 = .ok (.iaload, 1) := by decide +kernel
theorem dX5_fan_98 : decode cX5_fan 98 = .ok (.iconst 1, 1) := by decide +kernel
theorem dX5_fan_99 : decode cX5_fan 99 = .ok (.isub, 1) := by decide +kernel
theorem dX5_fan_100 : decode cX5_fan 100 = .ok (.ireturn, 1) := by decide +kernel
set_option maxRecDepth 20000 in
theorem ggX5_lag_X5_isDevice : GoodIn wsX5_lag wsX5_isDevice := goodIn_r _ [7, 8, 9, 10, 6, 11, 12, 13, 14, 15, 16, 17, 18, 19, 20, 21, 22, 23, 24, 25, 26, 27, 28, 29, 30, 31, 32, 33, 34, 35, 36, 37, 38, 39, 40, 41, 42, 43, 44, 45, 46] (by decide +kernel) (by decide +kernel)
set_option maxRecDepth 20000 in
theorem gX5_lag_X5_isDevice : GoodIn wsX5_lag (wsV RX5 120 RX5 yX5_isDevice wsX5_isDevice) := goodIn_app (goodIn_of _ (by decide +kernel)) ggX5_lag_X5_isDevice
theorem dX5_lag_0 : decode cX5_lag 0 = .ok (.aload_n 0, 1) := by decide +kernel
theorem dX5_lag_1 : decode cX5_lag 1 = .ok (.aload_n 0, 1) := by decide +kernel
theorem dX5_lag_2 : decode cX5_lag 2 = .ok (.iload_n 1, 1) := by decide +kernel
theorem dX5_lag_3 : decode cX5_lag 3 = .ok (.iload_n 2, 1) := by decide +kernel
theorem dX5_lag_4 : decode cX5_lag 4 = .ok (.invokevirtual 120, 3) := by decide +kernel
theorem dX5_lag_7 : decode cX5_lag 7 = .ok (.ifCond .eq 16, 3) := by decide +kernel
theorem dX5_lag_10 : decode cX5_lag 10 = .ok (.iload_n 3, 1) := by decide +kernel
theorem dX5_lag_11 : decode cX5_lag 11 = .ok (.ifCond .lt 12, 3) := by decide +kernel
theorem dX5_lag_14 : decode cX5_lag 14 = .ok (.iload_n 3, 1) := by decide +kernel
theorem dX5_lag_15 : decode cX5_lag 15 = .ok (.iconst 5, 1) := by decide +kernel
theorem dX5_lag_16 : decode cX5_lag 16 = .ok (.if_icmp .gt 7, 3) := by decide +kernel
theorem dX5_lag_19 : decode cX5_lag 19 = .ok (.iconst 0, 1) := by decide +kernel
theorem dX5_lag_20 : decode cX5_lag 20 = .ok (.goto 4, 3) := by decide +kernel
theorem dX5_lag_23 : decode cX5_lag 23 = .ok (.iconst 1, 1) := by decide +kernel
theorem dX5_lag_24 : decode cX5_lag 24 = .ok (.putfield 106, 3) := by decide +kernel
theorem dX5_lag_27 : decode cX5_lag 27 = .ok (.aload_n 0, 1) := by decide +kernel
theorem dX5_lag_28 : decode cX5_lag 28 = .ok (.getfield 106, 3) := by decide +kernel
theorem dX5_lag_31 : decode cX5_lag 31 = .ok (.ifCond .le 5, 3) := by decide +kernel
theorem dX5_lag_34 : decode cX5_lag 34 = .ok (.iconst 0, 1) := by decide +kernel
theorem dX5_lag_35 : decode cX5_lag 35 = .ok (.ireturn, 1) := by decide +kernel
theorem dX5_lag_36 : decode cX5_lag 36 = .ok (.aload_n 0, 1) := by decide +kernel
theorem dX5_lag_37 : decode cX5_lag 37 = .ok (.getfield 13, 3) := by decide +kernel
theorem dX5_lag_40 : decode cX5_lag 40 = .ok (.bipush 14, 2) := by decide +kernel
theorem dX5_lag_42 : decode cX5_lag 42 = .ok (.iload_n 1, 1) := by decide +kernel
theorem dX5_lag_43 : decode cX5_lag 43 = .ok (.imul, 1) := by decide +kernel
theorem dX5_lag_44 : decode cX5_lag 44 = .ok (.iload_n 2, 1) := by decide +kernel
theorem dX5_lag_45 : decode cX5_lag 45 = .ok (.iadd, 1) := by decide +kernel
theorem dX5_lag_46 : decode cX5_lag 46 = .ok (.iaload, 1) := by decide +kernel
theorem dX5_lag_47 : decode cX5_lag 47 = .ok (.istore 4, 2) := by decide +kernel
theorem dX5_lag_49 : decode cX5_lag 49 = .ok (.aload_n 0, 1) := by decide +kernel
theorem dX5_lag_50 : decode cX5_lag 50 = .ok (.getfield 13, 3) := by decide +kernel
theorem dX5_lag_53 : decode cX5_lag 53 = .ok (.bipush 14, 2) := by decide +kernel
theorem dX5_lag_55 : decode cX5_lag 55 = .ok (.iload_n 1, 1) := by decide +kernel
theorem dX5_lag_56 : decode cX5_lag 56 = .ok (.imul, 1) := by decide +kernel
theorem dX5_lag_57 : decode cX5_lag 57 = .ok (.iload_n 2, 1) := by decide +kernel
theorem dX5_lag_58 : decode cX5_lag 58 = .ok (.iadd, 1) := by decide +kernel
theorem dX5_lag_59 : decode cX5_lag 59 = .ok (.iload_n 3, 1) := by decide +kernel
theorem dX5_lag_60 : decode cX5_lag 60 = .ok (.iastore, 1) := by decide +kernel
theorem dX5_lag_61 : decode cX5_lag 61 = .ok (.iload 4, 2) := by decide +kernel
theorem dX5_lag_63 : decode cX5_lag 63 = .ok (.ireturn, 1) := by decide +kernel
set_option maxRecDepth 20000 in
theorem ggX5_plan_X5_isSection : GoodIn wsX5_plan wsX5_isSection := goodIn_r _ [10, 11, 12, 13, 9, 14, 23, 24, 25, 26, 27, 28, 29, 30, 31, 32, 33, 34, 35, 36, 37, 38, 39, 40, 41, 42, 43, 44, 45, 46, 47, 48, 49, 50, 51, 52, 53, 54, 55, 56, 57] (by decide +kernel) (by decide +kernel)
set_option maxRecDepth 20000 in
theorem gX5_plan_X5_isSection : GoodIn wsX5_plan (wsV RX5 124 RX5 yX5_isSection wsX5_isSection) := goodIn_app (goodIn_of _ (by decide +kernel)) ggX5_plan_X5_isSection
set_option maxRecDepth 20000 in
theorem ggX5_plan_X5_goes : GoodIn wsX5_plan wsX5_goes := goodIn_r _ [18, 19, 23, 24, 25, 26, 27, 28, 29, 30, 31, 32, 33, 34, 35, 36, 37, 38, 39, 40, 41, 42, 43, 44, 45, 46, 47, 48, 49, 50, 51, 52, 53, 54, 55, 56, 57] (by decide +kernel) (by decide +kernel)
set_option maxRecDepth 20000 in
theorem gX5_plan_X5_goes : GoodIn wsX5_plan (wsV RX5 116 RX5 yX5_goes wsX5_goes) := goodIn_app (goodIn_of _ (by decide +kernel)) ggX5_plan_X5_goes
set_option maxRecDepth 20000 in
theorem ggX5_plan_X5_turnOf : GoodIn wsX5_plan wsX5_turnOf := goodIn_r _ [22] (by decide +kernel) (by decide +kernel)
set_option maxRecDepth 20000 in
theorem gX5_plan_X5_turnOf : GoodIn wsX5_plan (va_wsS RX5 127 yX5_turnOf wsX5_turnOf) := goodIn_app (goodIn_of _ (by decide +kernel)) ggX5_plan_X5_turnOf
theorem dX5_plan_0 : decode cX5_plan 0 = .ok (.aload_n 0, 1) := by decide +kernel
theorem dX5_plan_1 : decode cX5_plan 1 = .ok (.aload_n 0, 1) := by decide +kernel
theorem dX5_plan_2 : decode cX5_plan 2 = .ok (.iload_n 1, 1) := by decide +kernel
theorem dX5_plan_3 : decode cX5_plan 3 = .ok (.iload_n 2, 1) := by decide +kernel
theorem dX5_plan_4 : decode cX5_plan 4 = .ok (.invokevirtual 124, 3) := by decide +kernel
theorem dX5_plan_7 : decode cX5_plan 7 = .ok (.ifCond .eq 41, 3) := by decide +kernel
theorem dX5_plan_10 : decode cX5_plan 10 = .ok (.iload_n 3, 1) := by decide +kernel
theorem dX5_plan_11 : decode cX5_plan 11 = .ok (.ifCond .lt 37, 3) := by decide +kernel
theorem dX5_plan_14 : decode cX5_plan 14 = .ok (.iload_n 3, 1) := by decide +kernel
theorem dX5_plan_15 : decode cX5_plan 15 = .ok (.bipush 100, 2) := by decide +kernel
theorem dX5_plan_17 : decode cX5_plan 17 = .ok (.if_icmp .gt 31, 3) := by decide +kernel
theorem dX5_plan_20 : decode cX5_plan 20 = .ok (.iload 5, 2) := by decide +kernel
theorem dX5_plan_22 : decode cX5_plan 22 = .ok (.ifCond .lt 26, 3) := by decide +kernel
theorem dX5_plan_25 : decode cX5_plan 25 = .ok (.iload 5, 2) := by decide +kernel
theorem dX5_plan_27 : decode cX5_plan 27 = .ok (.bipush 12, 2) := by decide +kernel
theorem dX5_plan_29 : decode cX5_plan 29 = .ok (.if_icmp .gt 19, 3) := by decide +kernel
theorem dX5_plan_32 : decode cX5_plan 32 = .ok (.iload 6, 2) := by decide +kernel
theorem dX5_plan_34 : decode cX5_plan 34 = .ok (.ifCond .lt 14, 3) := by decide +kernel
theorem dX5_plan_37 : decode cX5_plan 37 = .ok (.iload 6, 2) := by decide +kernel
theorem dX5_plan_39 : decode cX5_plan 39 = .ok (.bipush 12, 2) := by decide +kernel
theorem dX5_plan_41 : decode cX5_plan 41 = .ok (.if_icmp .gt 7, 3) := by decide +kernel
theorem dX5_plan_44 : decode cX5_plan 44 = .ok (.iconst 1, 1) := by decide +kernel
theorem dX5_plan_45 : decode cX5_plan 45 = .ok (.goto 4, 3) := by decide +kernel
theorem dX5_plan_48 : decode cX5_plan 48 = .ok (.iconst 0, 1) := by decide +kernel
theorem dX5_plan_49 : decode cX5_plan 49 = .ok (.aload_n 0, 1) := by decide +kernel
theorem dX5_plan_50 : decode cX5_plan 50 = .ok (.getfield 113, 3) := by decide +kernel
theorem dX5_plan_53 : decode cX5_plan 53 = .ok (.ifCond .ne 7, 3) := by decide +kernel
theorem dX5_plan_56 : decode cX5_plan 56 = .ok (.iconst 1, 1) := by decide +kernel
theorem dX5_plan_57 : decode cX5_plan 57 = .ok (.goto 4, 3) := by decide +kernel
theorem dX5_plan_60 : decode cX5_plan 60 = .ok (.iconst 0, 1) := by decide +kernel
theorem dX5_plan_61 : decode cX5_plan 61 = .ok (.invokevirtual 116, 3) := by decide +kernel
theorem dX5_plan_64 : decode cX5_plan 64 = .ok (.ifCond .eq 49, 3) := by decide +kernel
theorem dX5_plan_67 : decode cX5_plan 67 = .ok (.bipush 24, 2) := by decide +kernel
theorem dX5_plan_69 : decode cX5_plan 69 = .ok (.iload_n 1, 1) := by decide +kernel
theorem dX5_plan_70 : decode cX5_plan 70 = .ok (.imul, 1) := by decide +kernel
theorem dX5_plan_71 : decode cX5_plan 71 = .ok (.iload_n 2, 1) := by decide +kernel
theorem dX5_plan_72 : decode cX5_plan 72 = .ok (.iadd, 1) := by decide +kernel
theorem dX5_plan_73 : decode cX5_plan 73 = .ok (.istore 7, 2) := by decide +kernel
theorem dX5_plan_75 : decode cX5_plan 75 = .ok (.aload_n 0, 1) := by decide +kernel
theorem dX5_plan_76 : decode cX5_plan 76 = .ok (.getfield 56, 3) := by decide +kernel
theorem dX5_plan_79 : decode cX5_plan 79 = .ok (.iload 7, 2) := by decide +kernel
theorem dX5_plan_81 : decode cX5_plan 81 = .ok (.iload_n 3, 1) := by decide +kernel
theorem dX5_plan_82 : decode cX5_plan 82 = .ok (.iastore, 1) := by decide +kernel
theorem dX5_plan_83 : decode cX5_plan 83 = .ok (.aload_n 0, 1) := by decide +kernel
theorem dX5_plan_84 : decode cX5_plan 84 = .ok (.getfield 59, 3) := by decide +kernel
theorem dX5_plan_87 : decode cX5_plan 87 = .ok (.iload 7, 2) := by decide +kernel
theorem dX5_plan_89 : decode cX5_plan 89 = .ok (.iload 4, 2) := by decide +kernel
theorem dX5_plan_91 : decode cX5_plan 91 = .ok (.invokestatic 127, 3) := by decide +kernel
theorem dX5_plan_94 : decode cX5_plan 94 = .ok (.iastore, 1) := by decide +kernel
theorem dX5_plan_95 : decode cX5_plan 95 = .ok (.aload_n 0, 1) := by decide +kernel
theorem dX5_plan_96 : decode cX5_plan 96 = .ok (.getfield 62, 3) := by decide +kernel
theorem dX5_plan_99 : decode cX5_plan 99 = .ok (.iload 7, 2) := by decide +kernel
theorem dX5_plan_101 : decode cX5_plan 101 = .ok (.iload 5, 2) := by decide +kernel
theorem dX5_plan_103 : decode cX5_plan 103 = .ok (.iastore, 1) := by decide +kernel
theorem dX5_plan_104 : decode cX5_plan 104 = .ok (.aload_n 0, 1) := by decide +kernel
theorem dX5_plan_105 : decode cX5_plan 105 = .ok (.getfield 68, 3) := by decide +kernel
theorem dX5_plan_108 : decode cX5_plan 108 = .ok (.iload 7, 2) := by decide +kernel
theorem dX5_plan_110 : decode cX5_plan 110 = .ok (.iload 6, 2) := by decide +kernel
theorem dX5_plan_112 : decode cX5_plan 112 = .ok (.iastore, 1) := by decide +kernel
theorem dX5_plan_113 : decode cX5_plan 113 = .ok (.return_, 1) := by decide +kernel
set_option maxRecDepth 20000 in
theorem ggX5_turn_X5_isSection : GoodIn wsX5_turn wsX5_isSection := goodIn_r _ [7, 8, 9, 10, 6, 11, 20, 21, 22, 23, 24, 25, 26, 27, 28, 29, 30, 31, 32, 33, 34, 35, 36, 37, 38, 39, 40, 41, 42, 43, 44, 45, 46, 47, 48, 49, 50, 51, 52, 53, 54] (by decide +kernel) (by decide +kernel)
set_option maxRecDepth 20000 in
theorem gX5_turn_X5_isSection : GoodIn wsX5_turn (wsV RX5 124 RX5 yX5_isSection wsX5_isSection) := goodIn_app (goodIn_of _ (by decide +kernel)) ggX5_turn_X5_isSection
set_option maxRecDepth 20000 in
theorem ggX5_turn_X5_goes : GoodIn wsX5_turn wsX5_goes := goodIn_r _ [15, 16, 20, 21, 22, 23, 24, 25, 26, 27, 28, 29, 30, 31, 32, 33, 34, 35, 36, 37, 38, 39, 40, 41, 42, 43, 44, 45, 46, 47, 48, 49, 50, 51, 52, 53, 54] (by decide +kernel) (by decide +kernel)
set_option maxRecDepth 20000 in
theorem gX5_turn_X5_goes : GoodIn wsX5_turn (wsV RX5 116 RX5 yX5_goes wsX5_goes) := goodIn_app (goodIn_of _ (by decide +kernel)) ggX5_turn_X5_goes
set_option maxRecDepth 20000 in
theorem ggX5_turn_X5_turnOf : GoodIn wsX5_turn wsX5_turnOf := goodIn_r _ [19] (by decide +kernel) (by decide +kernel)
set_option maxRecDepth 20000 in
theorem gX5_turn_X5_turnOf : GoodIn wsX5_turn (va_wsS RX5 127 yX5_turnOf wsX5_turnOf) := goodIn_app (goodIn_of _ (by decide +kernel)) ggX5_turn_X5_turnOf
theorem dX5_turn_0 : decode cX5_turn 0 = .ok (.aload_n 0, 1) := by decide +kernel
theorem dX5_turn_1 : decode cX5_turn 1 = .ok (.aload_n 0, 1) := by decide +kernel
theorem dX5_turn_2 : decode cX5_turn 2 = .ok (.iload_n 1, 1) := by decide +kernel
theorem dX5_turn_3 : decode cX5_turn 3 = .ok (.iload_n 2, 1) := by decide +kernel
theorem dX5_turn_4 : decode cX5_turn 4 = .ok (.invokevirtual 124, 3) := by decide +kernel
theorem dX5_turn_7 : decode cX5_turn 7 = .ok (.aload_n 0, 1) := by decide +kernel
theorem dX5_turn_8 : decode cX5_turn 8 = .ok (.getfield 113, 3) := by decide +kernel
theorem dX5_turn_11 : decode cX5_turn 11 = .ok (.ifCond .ne 7, 3) := by decide +kernel
theorem dX5_turn_14 : decode cX5_turn 14 = .ok (.iconst 1, 1) := by decide +kernel
theorem dX5_turn_15 : decode cX5_turn 15 = .ok (.goto 4, 3) := by decide +kernel
theorem dX5_turn_18 : decode cX5_turn 18 = .ok (.iconst 0, 1) := by decide +kernel
theorem dX5_turn_19 : decode cX5_turn 19 = .ok (.invokevirtual 116, 3) := by decide +kernel
theorem dX5_turn_22 : decode cX5_turn 22 = .ok (.ifCond .eq 18, 3) := by decide +kernel
theorem dX5_turn_25 : decode cX5_turn 25 = .ok (.aload_n 0, 1) := by decide +kernel
theorem dX5_turn_26 : decode cX5_turn 26 = .ok (.getfield 65, 3) := by decide +kernel
theorem dX5_turn_29 : decode cX5_turn 29 = .ok (.bipush 24, 2) := by decide +kernel
theorem dX5_turn_31 : decode cX5_turn 31 = .ok (.iload_n 1, 1) := by decide +kernel
theorem dX5_turn_32 : decode cX5_turn 32 = .ok (.imul, 1) := by decide +kernel
theorem dX5_turn_33 : decode cX5_turn 33 = .ok (.iload_n 2, 1) := by decide +kernel
theorem dX5_turn_34 : decode cX5_turn 34 = .ok (.iadd, 1) := by decide +kernel
theorem dX5_turn_35 : decode cX5_turn 35 = .ok (.iload_n 3, 1) := by decide +kernel
theorem dX5_turn_36 : decode cX5_turn 36 = .ok (.invokestatic 127, 3) := by decide +kernel
theorem dX5_turn_39 : decode cX5_turn 39 = .ok (.iastore, 1) := by decide +kernel
theorem dX5_turn_40 : decode cX5_turn 40 = .ok (.return_, 1) := by decide +kernel
set_option maxRecDepth 20000 in
theorem ggX5_sense_X5_isSection : GoodIn wsX5_sense wsX5_isSection := goodIn_r _ [7, 8, 9, 10, 6, 11, 12, 13, 14, 15, 16, 17, 18, 19, 20, 21, 22, 23, 24, 25, 26, 27, 28, 29, 30, 31, 32, 33, 34, 35, 36, 37, 38, 39, 40, 41, 42, 43, 44, 45, 46] (by decide +kernel) (by decide +kernel)
set_option maxRecDepth 20000 in
theorem gX5_sense_X5_isSection : GoodIn wsX5_sense (wsV RX5 124 RX5 yX5_isSection wsX5_isSection) := goodIn_app (goodIn_of _ (by decide +kernel)) ggX5_sense_X5_isSection
theorem dX5_sense_0 : decode cX5_sense 0 = .ok (.aload_n 0, 1) := by decide +kernel
theorem dX5_sense_1 : decode cX5_sense 1 = .ok (.aload_n 0, 1) := by decide +kernel
theorem dX5_sense_2 : decode cX5_sense 2 = .ok (.iload_n 1, 1) := by decide +kernel
theorem dX5_sense_3 : decode cX5_sense 3 = .ok (.iload_n 2, 1) := by decide +kernel
theorem dX5_sense_4 : decode cX5_sense 4 = .ok (.invokevirtual 124, 3) := by decide +kernel
theorem dX5_sense_7 : decode cX5_sense 7 = .ok (.ifCond .eq 17, 3) := by decide +kernel
theorem dX5_sense_10 : decode cX5_sense 10 = .ok (.iload_n 3, 1) := by decide +kernel
theorem dX5_sense_11 : decode cX5_sense 11 = .ok (.ifCond .lt 13, 3) := by decide +kernel
theorem dX5_sense_14 : decode cX5_sense 14 = .ok (.iload_n 3, 1) := by decide +kernel
theorem dX5_sense_15 : decode cX5_sense 15 = .ok (.bipush 100, 2) := by decide +kernel
theorem dX5_sense_17 : decode cX5_sense 17 = .ok (.if_icmp .gt 7, 3) := by decide +kernel
theorem dX5_sense_20 : decode cX5_sense 20 = .ok (.iconst 0, 1) := by decide +kernel
theorem dX5_sense_21 : decode cX5_sense 21 = .ok (.goto 4, 3) := by decide +kernel
theorem dX5_sense_24 : decode cX5_sense 24 = .ok (.iconst 1, 1) := by decide +kernel
theorem dX5_sense_25 : decode cX5_sense 25 = .ok (.putfield 106, 3) := by decide +kernel
theorem dX5_sense_28 : decode cX5_sense 28 = .ok (.aload_n 0, 1) := by decide +kernel
theorem dX5_sense_29 : decode cX5_sense 29 = .ok (.getfield 106, 3) := by decide +kernel
theorem dX5_sense_32 : decode cX5_sense 32 = .ok (.ifCond .le 5, 3) := by decide +kernel
theorem dX5_sense_35 : decode cX5_sense 35 = .ok (.iconst 0, 1) := by decide +kernel
theorem dX5_sense_36 : decode cX5_sense 36 = .ok (.ireturn, 1) := by decide +kernel
theorem dX5_sense_37 : decode cX5_sense 37 = .ok (.aload_n 0, 1) := by decide +kernel
theorem dX5_sense_38 : decode cX5_sense 38 = .ok (.getfield 47, 3) := by decide +kernel
theorem dX5_sense_41 : decode cX5_sense 41 = .ok (.bipush 24, 2) := by decide +kernel
theorem dX5_sense_43 : decode cX5_sense 43 = .ok (.iload_n 1, 1) := by decide +kernel
theorem dX5_sense_44 : decode cX5_sense 44 = .ok (.imul, 1) := by decide +kernel
theorem dX5_sense_45 : decode cX5_sense 45 = .ok (.iload_n 2, 1) := by decide +kernel
theorem dX5_sense_46 : decode cX5_sense 46 = .ok (.iadd, 1) := by decide +kernel
theorem dX5_sense_47 : decode cX5_sense 47 = .ok (.iaload, 1) := by decide +kernel
theorem dX5_sense_48 : decode cX5_sense 48 = .ok (.istore 4, 2) := by decide +kernel
theorem dX5_sense_50 : decode cX5_sense 50 = .ok (.aload_n 0, 1) := by decide +kernel
theorem dX5_sense_51 : decode cX5_sense 51 = .ok (.getfield 47, 3) := by decide +kernel
theorem dX5_sense_54 : decode cX5_sense 54 = .ok (.bipush 24, 2) := by decide +kernel
theorem dX5_sense_56 : decode cX5_sense 56 = .ok (.iload_n 1, 1) := by decide +kernel
theorem dX5_sense_57 : decode cX5_sense 57 = .ok (.imul, 1) := by decide +kernel
theorem dX5_sense_58 : decode cX5_sense 58 = .ok (.iload_n 2, 1) := by decide +kernel
theorem dX5_sense_59 : decode cX5_sense 59 = .ok (.iadd, 1) := by decide +kernel
theorem dX5_sense_60 : decode cX5_sense 60 = .ok (.iload_n 3, 1) := by decide +kernel
theorem dX5_sense_61 : decode cX5_sense 61 = .ok (.iastore, 1) := by decide +kernel
theorem dX5_sense_62 : decode cX5_sense 62 = .ok (.iload 4, 2) := by decide +kernel
theorem dX5_sense_64 : decode cX5_sense 64 = .ok (.ireturn, 1) := by decide +kernel
set_option maxRecDepth 20000 in
theorem ggX5_deafen_X5_isSection : GoodIn wsX5_deafen wsX5_isSection := goodIn_r _ [7, 8, 9, 10, 6, 11, 12, 13, 14, 15, 16, 17, 18, 19, 20, 21, 22, 23, 24, 25, 26, 27, 28, 29, 30, 31, 32, 33, 34, 35, 36, 37, 38, 39, 40, 41, 42, 43, 44, 45, 46] (by decide +kernel) (by decide +kernel)
set_option maxRecDepth 20000 in
theorem gX5_deafen_X5_isSection : GoodIn wsX5_deafen (wsV RX5 124 RX5 yX5_isSection wsX5_isSection) := goodIn_app (goodIn_of _ (by decide +kernel)) ggX5_deafen_X5_isSection
theorem dX5_deafen_0 : decode cX5_deafen 0 = .ok (.aload_n 0, 1) := by decide +kernel
theorem dX5_deafen_1 : decode cX5_deafen 1 = .ok (.aload_n 0, 1) := by decide +kernel
theorem dX5_deafen_2 : decode cX5_deafen 2 = .ok (.iload_n 1, 1) := by decide +kernel
theorem dX5_deafen_3 : decode cX5_deafen 3 = .ok (.iload_n 2, 1) := by decide +kernel
theorem dX5_deafen_4 : decode cX5_deafen 4 = .ok (.invokevirtual 124, 3) := by decide +kernel
theorem dX5_deafen_7 : decode cX5_deafen 7 = .ok (.ifCond .eq 7, 3) := by decide +kernel
theorem dX5_deafen_10 : decode cX5_deafen 10 = .ok (.iconst 0, 1) := by decide +kernel
theorem dX5_deafen_11 : decode cX5_deafen 11 = .ok (.goto 4, 3) := by decide +kernel
theorem dX5_deafen_14 : decode cX5_deafen 14 = .ok (.iconst 1, 1) := by decide +kernel
theorem dX5_deafen_15 : decode cX5_deafen 15 = .ok (.putfield 106, 3) := by decide +kernel
theorem dX5_deafen_18 : decode cX5_deafen 18 = .ok (.aload_n 0, 1) := by decide +kernel
theorem dX5_deafen_19 : decode cX5_deafen 19 = .ok (.getfield 106, 3) := by decide +kernel
theorem dX5_deafen_22 : decode cX5_deafen 22 = .ok (.ifCond .le 5, 3) := by decide +kernel
theorem dX5_deafen_25 : decode cX5_deafen 25 = .ok (.iconst 0, 1) := by decide +kernel
theorem dX5_deafen_26 : decode cX5_deafen 26 = .ok (.ireturn, 1) := by decide +kernel
theorem dX5_deafen_27 : decode cX5_deafen 27 = .ok (.aload_n 0, 1) := by decide +kernel
theorem dX5_deafen_28 : decode cX5_deafen 28 = .ok (.getfield 50, 3) := by decide +kernel
theorem dX5_deafen_31 : decode cX5_deafen 31 = .ok (.bipush 24, 2) := by decide +kernel
theorem dX5_deafen_33 : decode cX5_deafen 33 = .ok (.iload_n 1, 1) := by decide +kernel
theorem dX5_deafen_34 : decode cX5_deafen 34 = .ok (.imul, 1) := by decide +kernel
theorem dX5_deafen_35 : decode cX5_deafen 35 = .ok (.iload_n 2, 1) := by decide +kernel
theorem dX5_deafen_36 : decode cX5_deafen 36 = .ok (.iadd, 1) := by decide +kernel
theorem dX5_deafen_37 : decode cX5_deafen 37 = .ok (.baload, 1) := by decide +kernel
theorem dX5_deafen_38 : decode cX5_deafen 38 = .ok (.istore 4, 2) := by decide +kernel
theorem dX5_deafen_40 : decode cX5_deafen 40 = .ok (.aload_n 0, 1) := by decide +kernel
theorem dX5_deafen_41 : decode cX5_deafen 41 = .ok (.getfield 50, 3) := by decide +kernel
theorem dX5_deafen_44 : decode cX5_deafen 44 = .ok (.bipush 24, 2) := by decide +kernel
theorem dX5_deafen_46 : decode cX5_deafen 46 = .ok (.iload_n 1, 1) := by decide +kernel
theorem dX5_deafen_47 : decode cX5_deafen 47 = .ok (.imul, 1) := by decide +kernel
theorem dX5_deafen_48 : decode cX5_deafen 48 = .ok (.iload_n 2, 1) := by decide +kernel
theorem dX5_deafen_49 : decode cX5_deafen 49 = .ok (.iadd, 1) := by decide +kernel
theorem dX5_deafen_50 : decode cX5_deafen 50 = .ok (.iload_n 3, 1) := by decide +kernel
theorem dX5_deafen_51 : decode cX5_deafen 51 = .ok (.bastore, 1) := by decide +kernel
theorem dX5_deafen_52 : decode cX5_deafen 52 = .ok (.iload 4, 2) := by decide +kernel
theorem dX5_deafen_54 : decode cX5_deafen 54 = .ok (.ireturn, 1) := by decide +kernel
set_option maxRecDepth 20000 in
theorem ggX5_pull_X5_isSection : GoodIn wsX5_pull wsX5_isSection := goodIn_r _ [7, 8, 9, 10, 6, 11, 12, 13, 14, 15, 16, 17, 18, 19, 20, 21, 22, 23, 24, 25, 26, 27, 28, 29, 30, 31, 32, 33, 34, 35, 36, 37, 38, 39, 40, 41, 42, 43, 44, 45, 46] (by decide +kernel) (by decide +kernel)
set_option maxRecDepth 20000 in
theorem gX5_pull_X5_isSection : GoodIn wsX5_pull (wsV RX5 124 RX5 yX5_isSection wsX5_isSection) := goodIn_app (goodIn_of _ (by decide +kernel)) ggX5_pull_X5_isSection
theorem dX5_pull_0 : decode cX5_pull 0 = .ok (.aload_n 0, 1) := by decide +kernel
theorem dX5_pull_1 : decode cX5_pull 1 = .ok (.aload_n 0, 1) := by decide +kernel
theorem dX5_pull_2 : decode cX5_pull 2 = .ok (.iload_n 1, 1) := by decide +kernel
theorem dX5_pull_3 : decode cX5_pull 3 = .ok (.iload_n 2, 1) := by decide +kernel
theorem dX5_pull_4 : decode cX5_pull 4 = .ok (.invokevirtual 124, 3) := by decide +kernel
theorem dX5_pull_7 : decode cX5_pull 7 = .ok (.ifCond .eq 7, 3) := by decide +kernel
theorem dX5_pull_10 : decode cX5_pull 10 = .ok (.iconst 0, 1) := by decide +kernel
theorem dX5_pull_11 : decode cX5_pull 11 = .ok (.goto 4, 3) := by decide +kernel
theorem dX5_pull_14 : decode cX5_pull 14 = .ok (.iconst 1, 1) := by decide +kernel
theorem dX5_pull_15 : decode cX5_pull 15 = .ok (.putfield 106, 3) := by decide +kernel
theorem dX5_pull_18 : decode cX5_pull 18 = .ok (.aload_n 0, 1) := by decide +kernel
theorem dX5_pull_19 : decode cX5_pull 19 = .ok (.getfield 106, 3) := by decide +kernel
theorem dX5_pull_22 : decode cX5_pull 22 = .ok (.ifCond .le 5, 3) := by decide +kernel
theorem dX5_pull_25 : decode cX5_pull 25 = .ok (.iconst 0, 1) := by decide +kernel
theorem dX5_pull_26 : decode cX5_pull 26 = .ok (.ireturn, 1) := by decide +kernel
theorem dX5_pull_27 : decode cX5_pull 27 = .ok (.aload_n 0, 1) := by decide +kernel
theorem dX5_pull_28 : decode cX5_pull 28 = .ok (.getfield 53, 3) := by decide +kernel
theorem dX5_pull_31 : decode cX5_pull 31 = .ok (.bipush 24, 2) := by decide +kernel
theorem dX5_pull_33 : decode cX5_pull 33 = .ok (.iload_n 1, 1) := by decide +kernel
theorem dX5_pull_34 : decode cX5_pull 34 = .ok (.imul, 1) := by decide +kernel
theorem dX5_pull_35 : decode cX5_pull 35 = .ok (.iload_n 2, 1) := by decide +kernel
theorem dX5_pull_36 : decode cX5_pull 36 = .ok (.iadd, 1) := by decide +kernel
theorem dX5_pull_37 : decode cX5_pull 37 = .ok (.baload, 1) := by decide +kernel
theorem dX5_pull_38 : decode cX5_pull 38 = .ok (.istore_n 3, 1) := by decide +kernel
theorem dX5_pull_39 : decode cX5_pull 39 = .ok (.aload_n 0, 1) := by decide +kernel
theorem dX5_pull_40 : decode cX5_pull 40 = .ok (.getfield 53, 3) := by decide +kernel
theorem dX5_pull_43 : decode cX5_pull 43 = .ok (.bipush 24, 2) := by decide +kernel
theorem dX5_pull_45 : decode cX5_pull 45 = .ok (.iload_n 1, 1) := by decide +kernel
theorem dX5_pull_46 : decode cX5_pull 46 = .ok (.imul, 1) := by decide +kernel
theorem dX5_pull_47 : decode cX5_pull 47 = .ok (.iload_n 2, 1) := by decide +kernel
theorem dX5_pull_48 : decode cX5_pull 48 = .ok (.iadd, 1) := by decide +kernel
theorem dX5_pull_49 : decode cX5_pull 49 = .ok (.iconst 1, 1) := by decide +kernel
theorem dX5_pull_50 : decode cX5_pull 50 = .ok (.bastore, 1) := by decide +kernel
theorem dX5_pull_51 : decode cX5_pull 51 = .ok (.iload_n 3, 1) := by decide +kernel
theorem dX5_pull_52 : decode cX5_pull 52 = .ok (.ifCond .ne 7, 3) := by decide +kernel
theorem dX5_pull_55 : decode cX5_pull 55 = .ok (.iconst 1, 1) := by decide +kernel
theorem dX5_pull_56 : decode cX5_pull 56 = .ok (.goto 4, 3) := by decide +kernel
theorem dX5_pull_59 : decode cX5_pull 59 = .ok (.iconst 0, 1) := by decide +kernel
theorem dX5_pull_60 : decode cX5_pull 60 = .ok (.ireturn, 1) := by decide +kernel
set_option maxRecDepth 20000 in
theorem ggX5_confirm_X5_isTube : GoodIn wsX5_confirm wsX5_isTube := goodIn_r _ [8] (by decide +kernel) (by decide +kernel)
set_option maxRecDepth 20000 in
theorem gX5_confirm_X5_isTube : GoodIn wsX5_confirm (va_wsS RX5 109 yX5_isTube wsX5_isTube) := goodIn_app (goodIn_of _ (by decide +kernel)) ggX5_confirm_X5_isTube
theorem dX5_confirm_0 : decode cX5_confirm 0 = .ok (.aload_n 0, 1) := by decide +kernel
theorem dX5_confirm_1 : decode cX5_confirm 1 = .ok (.iload_n 1, 1) := by decide +kernel
theorem dX5_confirm_2 : decode cX5_confirm 2 = .ok (.invokestatic 109, 3) := by decide +kernel
theorem dX5_confirm_5 : decode cX5_confirm 5 = .ok (.ifCond .eq 7, 3) := by decide +kernel
theorem dX5_confirm_8 : decode cX5_confirm 8 = .ok (.iconst 0, 1) := by decide +kernel
theorem dX5_confirm_9 : decode cX5_confirm 9 = .ok (.goto 4, 3) := by decide +kernel
theorem dX5_confirm_12 : decode cX5_confirm 12 = .ok (.iconst 1, 1) := by decide +kernel
theorem dX5_confirm_13 : decode cX5_confirm 13 = .ok (.putfield 106, 3) := by decide +kernel
theorem dX5_confirm_16 : decode cX5_confirm 16 = .ok (.aload_n 0, 1) := by decide +kernel
theorem dX5_confirm_17 : decode cX5_confirm 17 = .ok (.getfield 106, 3) := by decide +kernel
theorem dX5_confirm_20 : decode cX5_confirm 20 = .ok (.ifCond .gt 13, 3) := by decide +kernel
theorem dX5_confirm_23 : decode cX5_confirm 23 = .ok (.aload_n 0, 1) := by decide +kernel
theorem dX5_confirm_24 : decode cX5_confirm 24 = .ok (.getfield 71, 3) := by decide +kernel
theorem dX5_confirm_27 : decode cX5_confirm 27 = .ok (.iload_n 1, 1) := by decide +kernel
theorem dX5_confirm_28 : decode cX5_confirm 28 = .ok (.iaload, 1) := by decide +kernel
theorem dX5_confirm_29 : decode cX5_confirm 29 = .ok (.iconst 1, 1) := by decide +kernel
theorem dX5_confirm_30 : decode cX5_confirm 30 = .ok (.if_icmp .eq 5, 3) := by decide +kernel
theorem dX5_confirm_33 : decode cX5_confirm 33 = .ok (.iconst 0, 1) := by decide +kernel
theorem dX5_confirm_34 : decode cX5_confirm 34 = .ok (.ireturn, 1) := by decide +kernel
theorem dX5_confirm_35 : decode cX5_confirm 35 = .ok (.aload_n 0, 1) := by decide +kernel
theorem dX5_confirm_36 : decode cX5_confirm 36 = .ok (.getfield 53, 3) := by decide +kernel
theorem dX5_confirm_39 : decode cX5_confirm 39 = .ok (.bipush 24, 2) := by decide +kernel
theorem dX5_confirm_41 : decode cX5_confirm 41 = .ok (.iload_n 1, 1) := by decide +kernel
theorem dX5_confirm_42 : decode cX5_confirm 42 = .ok (.imul, 1) := by decide +kernel
theorem dX5_confirm_43 : decode cX5_confirm 43 = .ok (.aload_n 0, 1) := by decide +kernel
theorem dX5_confirm_44 : decode cX5_confirm 44 = .ok (.getfield 74, 3) := by decide +kernel
theorem dX5_confirm_47 : decode cX5_confirm 47 = .ok (.iload_n 1, 1) := by decide +kernel
theorem dX5_confirm_48 : decode cX5_confirm 48 = .ok (.iaload, 1) := by decide +kernel
theorem dX5_confirm_49 : decode cX5_confirm 49 = .ok (.iadd, 1) := by decide +kernel
theorem dX5_confirm_50 : decode cX5_confirm 50 = .ok (.iconst 1, 1) := by decide +kernel
theorem dX5_confirm_51 : decode cX5_confirm 51 = .ok (.bastore, 1) := by decide +kernel
theorem dX5_confirm_52 : decode cX5_confirm 52 = .ok (.iconst 1, 1) := by decide +kernel
theorem dX5_confirm_53 : decode cX5_confirm 53 = .ok (.ireturn, 1) := by decide +kernel
theorem dX5_isOn_0 : decode cX5_isOn 0 = .ok (.iload_n 2, 1) := by decide +kernel
theorem dX5_isOn_1 : decode cX5_isOn 1 = .ok (.ifCond .lt 45, 3) := by decide +kernel
theorem dX5_isOn_4 : decode cX5_isOn 4 = .ok (.iload_n 2, 1) := by decide +kernel
theorem dX5_isOn_5 : decode cX5_isOn 5 = .ok (.aload_n 0, 1) := by decide +kernel
theorem dX5_isOn_6 : decode cX5_isOn 6 = .ok (.getfield 95, 3) := by decide +kernel
theorem dX5_isOn_9 : decode cX5_isOn 9 = .ok (.if_icmp .ge 37, 3) := by decide +kernel
theorem dX5_isOn_12 : decode cX5_isOn 12 = .ok (.aload_n 0, 1) := by decide +kernel
theorem dX5_isOn_13 : decode cX5_isOn 13 = .ok (.getfield 47, 3) := by decide +kernel
theorem dX5_isOn_16 : decode cX5_isOn 16 = .ok (.bipush 24, 2) := by decide +kernel
theorem dX5_isOn_18 : decode cX5_isOn 18 = .ok (.iload_n 1, 1) := by decide +kernel
theorem dX5_isOn_19 : decode cX5_isOn 19 = .ok (.imul, 1) := by decide +kernel
theorem dX5_isOn_20 : decode cX5_isOn 20 = .ok (.iload_n 2, 1) := by decide +kernel
theorem dX5_isOn_21 : decode cX5_isOn 21 = .ok (.iadd, 1) := by decide +kernel
theorem dX5_isOn_22 : decode cX5_isOn 22 = .ok (.iaload, 1) := by decide +kernel
theorem dX5_isOn_23 : decode cX5_isOn 23 = .ok (.bipush 50, 2) := by decide +kernel
theorem dX5_isOn_25 : decode cX5_isOn 25 = .ok (.if_icmp .lt 21, 3) := by decide +kernel
theorem dX5_isOn_28 : decode cX5_isOn 28 = .ok (.aload_n 0, 1) := by decide +kernel
theorem dX5_isOn_29 : decode cX5_isOn 29 = .ok (.getfield 50, 3) := by decide +kernel
theorem dX5_isOn_32 : decode cX5_isOn 32 = .ok (.bipush 24, 2) := by decide +kernel
theorem dX5_isOn_34 : decode cX5_isOn 34 = .ok (.iload_n 1, 1) := by decide +kernel
theorem dX5_isOn_35 : decode cX5_isOn 35 = .ok (.imul, 1) := by decide +kernel
theorem dX5_isOn_36 : decode cX5_isOn 36 = .ok (.iload_n 2, 1) := by decide +kernel
theorem dX5_isOn_37 : decode cX5_isOn 37 = .ok (.iadd, 1) := by decide +kernel
theorem dX5_isOn_38 : decode cX5_isOn 38 = .ok (.baload, 1) := by decide +kernel
theorem dX5_isOn_39 : decode cX5_isOn 39 = .ok (.ifCond .ne 7, 3) := by decide +kernel
theorem dX5_isOn_42 : decode cX5_isOn 42 = .ok (.iconst 1, 1) := by decide +kernel
theorem dX5_isOn_43 : decode cX5_isOn 43 = .ok (.goto 4, 3) := by decide +kernel
theorem dX5_isOn_46 : decode cX5_isOn 46 = .ok (.iconst 0, 1) := by decide +kernel
theorem dX5_isOn_47 : decode cX5_isOn 47 = .ok (.ireturn, 1) := by decide +kernel
set_option maxRecDepth 20000 in
theorem ggX5_leastOn_X5_isOn : GoodIn wsX5_leastOn wsX5_isOn := goodIn_r _ [6, 1, 7, 8, 9, 10, 11, 12, 13, 14, 15, 16, 17, 18, 19, 20, 21, 22, 23, 24, 25, 26, 27, 28, 29, 30, 31, 32, 33, 34, 35, 36, 37, 38, 39, 40, 41, 42, 43] (by decide +kernel) (by decide +kernel)
set_option maxRecDepth 20000 in
theorem gX5_leastOn_X5_isOn : GoodIn wsX5_leastOn (wsV RX5 131 RX5 yX5_isOn wsX5_isOn) := goodIn_app (goodIn_of _ (by decide +kernel)) ggX5_leastOn_X5_isOn
theorem dX5_leastOn_0 : decode cX5_leastOn 0 = .ok (.iconst (-1), 1) := by decide +kernel
theorem dX5_leastOn_1 : decode cX5_leastOn 1 = .ok (.istore_n 2, 1) := by decide +kernel
theorem dX5_leastOn_2 : decode cX5_leastOn 2 = .ok (.aload_n 0, 1) := by decide +kernel
theorem dX5_leastOn_3 : decode cX5_leastOn 3 = .ok (.getfield 95, 3) := by decide +kernel
theorem dX5_leastOn_6 : decode cX5_leastOn 6 = .ok (.iconst 1, 1) := by decide +kernel
theorem dX5_leastOn_7 : decode cX5_leastOn 7 = .ok (.isub, 1) := by decide +kernel
theorem dX5_leastOn_8 : decode cX5_leastOn 8 = .ok (.istore_n 3, 1) := by decide +kernel
theorem dX5_leastOn_9 : decode cX5_leastOn 9 = .ok (.iload_n 3, 1) := by decide +kernel
theorem dX5_leastOn_10 : decode cX5_leastOn 10 = .ok (.ifCond .lt 24, 3) := by decide +kernel
theorem dX5_leastOn_13 : decode cX5_leastOn 13 = .ok (.aload_n 0, 1) := by decide +kernel
theorem dX5_leastOn_14 : decode cX5_leastOn 14 = .ok (.iload_n 1, 1) := by decide +kernel
theorem dX5_leastOn_15 : decode cX5_leastOn 15 = .ok (.iload_n 3, 1) := by decide +kernel
theorem dX5_leastOn_16 : decode cX5_leastOn 16 = .ok (.invokevirtual 131, 3) := by decide +kernel
theorem dX5_leastOn_19 : decode cX5_leastOn 19 = .ok (.ifCond .eq 7, 3) := by decide +kernel
theorem dX5_leastOn_22 : decode cX5_leastOn 22 = .ok (.iload_n 3, 1) := by decide +kernel
theorem dX5_leastOn_23 : decode cX5_leastOn 23 = .ok (.goto 4, 3) := by decide +kernel
theorem dX5_leastOn_26 : decode cX5_leastOn 26 = .ok (.iload_n 2, 1) := by decide +kernel
theorem dX5_leastOn_27 : decode cX5_leastOn 27 = .ok (.istore_n 2, 1) := by decide +kernel
theorem dX5_leastOn_28 : decode cX5_leastOn 28 = .ok (.iinc 3 (-1), 3) := by decide +kernel
theorem dX5_leastOn_31 : decode cX5_leastOn 31 = .ok (.goto (-22), 3) := by decide +kernel
theorem dX5_leastOn_34 : decode cX5_leastOn 34 = .ok (.iload_n 2, 1) := by decide +kernel
theorem dX5_leastOn_35 : decode cX5_leastOn 35 = .ok (.ireturn, 1) := by decide +kernel
set_option maxRecDepth 20000 in
theorem ggX5_reset_X5_isTube : GoodIn wsX5_reset wsX5_isTube := goodIn_r _ [9] (by decide +kernel) (by decide +kernel)
set_option maxRecDepth 20000 in
theorem gX5_reset_X5_isTube : GoodIn wsX5_reset (va_wsS RX5 109 yX5_isTube wsX5_isTube) := goodIn_app (goodIn_of _ (by decide +kernel)) ggX5_reset_X5_isTube
set_option maxRecDepth 20000 in
theorem ggX5_reset_X5_leastOn : GoodIn wsX5_reset wsX5_leastOn := goodIn_r _ [13, 2, 14, 15, 16, 8, 17, 18, 19, 20, 21, 22, 23, 24, 25, 26, 27, 28, 29, 30, 31, 32, 33, 34, 35, 36, 37, 38, 39, 40, 41, 42, 43, 44, 45, 46, 47, 48, 49, 50, 51, 52, 53, 54] (by decide +kernel) (by decide +kernel)
set_option maxRecDepth 20000 in
theorem gX5_reset_X5_leastOn : GoodIn wsX5_reset (wsV RX5 134 RX5 yX5_leastOn wsX5_leastOn) := goodIn_app (goodIn_of _ (by decide +kernel)) ggX5_reset_X5_leastOn
theorem dX5_reset_0 : decode cX5_reset 0 = .ok (.aload_n 0, 1) := by decide +kernel
theorem dX5_reset_1 : decode cX5_reset 1 = .ok (.iload_n 1, 1) := by decide +kernel
theorem dX5_reset_2 : decode cX5_reset 2 = .ok (.invokestatic 109, 3) := by decide +kernel
theorem dX5_reset_5 : decode cX5_reset 5 = .ok (.ifCond .eq 7, 3) := by decide +kernel
theorem dX5_reset_8 : decode cX5_reset 8 = .ok (.iconst 0, 1) := by decide +kernel
theorem dX5_reset_9 : decode cX5_reset 9 = .ok (.goto 4, 3) := by decide +kernel
theorem dX5_reset_12 : decode cX5_reset 12 = .ok (.iconst 1, 1) := by decide +kernel
theorem dX5_reset_13 : decode cX5_reset 13 = .ok (.putfield 106, 3) := by decide +kernel
theorem dX5_reset_16 : decode cX5_reset 16 = .ok (.aload_n 0, 1) := by decide +kernel
theorem dX5_reset_17 : decode cX5_reset 17 = .ok (.getfield 106, 3) := by decide +kernel
theorem dX5_reset_20 : decode cX5_reset 20 = .ok (.ifCond .gt 11, 3) := by decide +kernel
theorem dX5_reset_23 : decode cX5_reset 23 = .ok (.aload_n 0, 1) := by decide +kernel
theorem dX5_reset_24 : decode cX5_reset 24 = .ok (.iload_n 1, 1) := by decide +kernel
theorem dX5_reset_25 : decode cX5_reset 25 = .ok (.invokevirtual 134, 3) := by decide +kernel
theorem dX5_reset_28 : decode cX5_reset 28 = .ok (.ifCond .lt 5, 3) := by decide +kernel
theorem dX5_reset_31 : decode cX5_reset 31 = .ok (.iconst 0, 1) := by decide +kernel
theorem dX5_reset_32 : decode cX5_reset 32 = .ok (.ireturn, 1) := by decide +kernel
theorem dX5_reset_33 : decode cX5_reset 33 = .ok (.iconst 0, 1) := by decide +kernel
theorem dX5_reset_34 : decode cX5_reset 34 = .ok (.istore_n 2, 1) := by decide +kernel
theorem dX5_reset_35 : decode cX5_reset 35 = .ok (.iload_n 2, 1) := by decide +kernel
theorem dX5_reset_36 : decode cX5_reset 36 = .ok (.aload_n 0, 1) := by decide +kernel
theorem dX5_reset_37 : decode cX5_reset 37 = .ok (.getfield 95, 3) := by decide +kernel
theorem dX5_reset_40 : decode cX5_reset 40 = .ok (.if_icmp .ge 21, 3) := by decide +kernel
theorem dX5_reset_43 : decode cX5_reset 43 = .ok (.aload_n 0, 1) := by decide +kernel
theorem dX5_reset_44 : decode cX5_reset 44 = .ok (.getfield 53, 3) := by decide +kernel
theorem dX5_reset_47 : decode cX5_reset 47 = .ok (.bipush 24, 2) := by decide +kernel
theorem dX5_reset_49 : decode cX5_reset 49 = .ok (.iload_n 1, 1) := by decide +kernel
theorem dX5_reset_50 : decode cX5_reset 50 = .ok (.imul, 1) := by decide +kernel
theorem dX5_reset_51 : decode cX5_reset 51 = .ok (.iload_n 2, 1) := by decide +kernel
theorem dX5_reset_52 : decode cX5_reset 52 = .ok (.iadd, 1) := by decide +kernel
theorem dX5_reset_53 : decode cX5_reset 53 = .ok (.iconst 0, 1) := by decide +kernel
theorem dX5_reset_54 : decode cX5_reset 54 = .ok (.bastore, 1) := by decide +kernel
theorem dX5_reset_55 : decode cX5_reset 55 = .ok (.iinc 2 1, 3) := by decide +kernel
theorem dX5_reset_58 : decode cX5_reset 58 = .ok (.goto (-23), 3) := by decide +kernel
theorem dX5_reset_61 : decode cX5_reset 61 = .ok (.aload_n 0, 1) := by decide +kernel
theorem dX5_reset_62 : decode cX5_reset 62 = .ok (.getfield 71, 3) := by decide +kernel
theorem dX5_reset_65 : decode cX5_reset 65 = .ok (.iload_n 1, 1) := by decide +kernel
theorem dX5_reset_66 : decode cX5_reset 66 = .ok (.iconst 0, 1) := by decide +kernel
theorem dX5_reset_67 : decode cX5_reset 67 = .ok (.iastore, 1) := by decide +kernel
theorem dX5_reset_68 : decode cX5_reset 68 = .ok (.aload_n 0, 1) := by decide +kernel
theorem dX5_reset_69 : decode cX5_reset 69 = .ok (.getfield 74, 3) := by decide +kernel
theorem dX5_reset_72 : decode cX5_reset 72 = .ok (.iload_n 1, 1) := by decide +kernel
theorem dX5_reset_73 : decode cX5_reset 73 = .ok (.iconst (-1), 1) := by decide +kernel
theorem dX5_reset_74 : decode cX5_reset 74 = .ok (.iastore, 1) := by decide +kernel
theorem dX5_reset_75 : decode cX5_reset 75 = .ok (.iconst 1, 1) := by decide +kernel
theorem dX5_reset_76 : decode cX5_reset 76 = .ok (.ireturn, 1) := by decide +kernel
set_option maxRecDepth 20000 in
theorem ggX5_wish_X5_isTube : GoodIn wsX5_wish wsX5_isTube := goodIn_r _ [7] (by decide +kernel) (by decide +kernel)
set_option maxRecDepth 20000 in
theorem gX5_wish_X5_isTube : GoodIn wsX5_wish (va_wsS RX5 109 yX5_isTube wsX5_isTube) := goodIn_app (goodIn_of _ (by decide +kernel)) ggX5_wish_X5_isTube
set_option maxRecDepth 20000 in
theorem ggX5_wish_X5_turnOf : GoodIn wsX5_wish wsX5_turnOf := goodIn_r _ [10] (by decide +kernel) (by decide +kernel)
set_option maxRecDepth 20000 in
theorem gX5_wish_X5_turnOf : GoodIn wsX5_wish (va_wsS RX5 127 yX5_turnOf wsX5_turnOf) := goodIn_app (goodIn_of _ (by decide +kernel)) ggX5_wish_X5_turnOf
theorem dX5_wish_0 : decode cX5_wish 0 = .ok (.aload_n 0, 1) := by decide +kernel
theorem dX5_wish_1 : decode cX5_wish 1 = .ok (.iload_n 1, 1) := by decide +kernel
theorem dX5_wish_2 : decode cX5_wish 2 = .ok (.invokestatic 109, 3) := by decide +kernel
theorem dX5_wish_5 : decode cX5_wish 5 = .ok (.ifCond .eq 17, 3) := by decide +kernel
theorem dX5_wish_8 : decode cX5_wish 8 = .ok (.iload_n 3, 1) := by decide +kernel
theorem dX5_wish_9 : decode cX5_wish 9 = .ok (.ifCond .lt 13, 3) := by decide +kernel
theorem dX5_wish_12 : decode cX5_wish 12 = .ok (.iload_n 3, 1) := by decide +kernel
theorem dX5_wish_13 : decode cX5_wish 13 = .ok (.bipush 12, 2) := by decide +kernel
theorem dX5_wish_15 : decode cX5_wish 15 = .ok (.if_icmp .gt 7, 3) := by decide +kernel
theorem dX5_wish_18 : decode cX5_wish 18 = .ok (.iconst 0, 1) := by decide +kernel
theorem dX5_wish_19 : decode cX5_wish 19 = .ok (.goto 4, 3) := by decide +kernel
theorem dX5_wish_22 : decode cX5_wish 22 = .ok (.iconst 1, 1) := by decide +kernel
theorem dX5_wish_23 : decode cX5_wish 23 = .ok (.putfield 106, 3) := by decide +kernel
theorem dX5_wish_26 : decode cX5_wish 26 = .ok (.aload_n 0, 1) := by decide +kernel
theorem dX5_wish_27 : decode cX5_wish 27 = .ok (.getfield 106, 3) := by decide +kernel
theorem dX5_wish_30 : decode cX5_wish 30 = .ok (.ifCond .ne 20, 3) := by decide +kernel
theorem dX5_wish_33 : decode cX5_wish 33 = .ok (.aload_n 0, 1) := by decide +kernel
theorem dX5_wish_34 : decode cX5_wish 34 = .ok (.getfield 80, 3) := by decide +kernel
theorem dX5_wish_37 : decode cX5_wish 37 = .ok (.iload_n 1, 1) := by decide +kernel
theorem dX5_wish_38 : decode cX5_wish 38 = .ok (.iload_n 2, 1) := by decide +kernel
theorem dX5_wish_39 : decode cX5_wish 39 = .ok (.invokestatic 127, 3) := by decide +kernel
theorem dX5_wish_42 : decode cX5_wish 42 = .ok (.iastore, 1) := by decide +kernel
theorem dX5_wish_43 : decode cX5_wish 43 = .ok (.aload_n 0, 1) := by decide +kernel
theorem dX5_wish_44 : decode cX5_wish 44 = .ok (.getfield 83, 3) := by decide +kernel
theorem dX5_wish_47 : decode cX5_wish 47 = .ok (.iload_n 1, 1) := by decide +kernel
theorem dX5_wish_48 : decode cX5_wish 48 = .ok (.iload_n 3, 1) := by decide +kernel
theorem dX5_wish_49 : decode cX5_wish 49 = .ok (.iastore, 1) := by decide +kernel
theorem dX5_wish_50 : decode cX5_wish 50 = .ok (.return_, 1) := by decide +kernel
set_option maxRecDepth 20000 in
theorem ggX5_order_X5_isTube : GoodIn wsX5_order wsX5_isTube := goodIn_r _ [6] (by decide +kernel) (by decide +kernel)
set_option maxRecDepth 20000 in
theorem gX5_order_X5_isTube : GoodIn wsX5_order (va_wsS RX5 109 yX5_isTube wsX5_isTube) := goodIn_app (goodIn_of _ (by decide +kernel)) ggX5_order_X5_isTube
theorem dX5_order_0 : decode cX5_order 0 = .ok (.aload_n 0, 1) := by decide +kernel
theorem dX5_order_1 : decode cX5_order 1 = .ok (.iload_n 1, 1) := by decide +kernel
theorem dX5_order_2 : decode cX5_order 2 = .ok (.invokestatic 109, 3) := by decide +kernel
theorem dX5_order_5 : decode cX5_order 5 = .ok (.ifCond .eq 7, 3) := by decide +kernel
theorem dX5_order_8 : decode cX5_order 8 = .ok (.iconst 0, 1) := by decide +kernel
theorem dX5_order_9 : decode cX5_order 9 = .ok (.goto 4, 3) := by decide +kernel
theorem dX5_order_12 : decode cX5_order 12 = .ok (.iconst 1, 1) := by decide +kernel
theorem dX5_order_13 : decode cX5_order 13 = .ok (.putfield 106, 3) := by decide +kernel
theorem dX5_order_16 : decode cX5_order 16 = .ok (.aload_n 0, 1) := by decide +kernel
theorem dX5_order_17 : decode cX5_order 17 = .ok (.getfield 106, 3) := by decide +kernel
theorem dX5_order_20 : decode cX5_order 20 = .ok (.ifCond .le 5, 3) := by decide +kernel
theorem dX5_order_23 : decode cX5_order 23 = .ok (.iconst 0, 1) := by decide +kernel
theorem dX5_order_24 : decode cX5_order 24 = .ok (.ireturn, 1) := by decide +kernel
theorem dX5_order_25 : decode cX5_order 25 = .ok (.aload_n 0, 1) := by decide +kernel
theorem dX5_order_26 : decode cX5_order 26 = .ok (.getfield 77, 3) := by decide +kernel
theorem dX5_order_29 : decode cX5_order 29 = .ok (.iload_n 1, 1) := by decide +kernel
theorem dX5_order_30 : decode cX5_order 30 = .ok (.baload, 1) := by decide +kernel
theorem dX5_order_31 : decode cX5_order 31 = .ok (.istore_n 3, 1) := by decide +kernel
theorem dX5_order_32 : decode cX5_order 32 = .ok (.aload_n 0, 1) := by decide +kernel
theorem dX5_order_33 : decode cX5_order 33 = .ok (.getfield 77, 3) := by decide +kernel
theorem dX5_order_36 : decode cX5_order 36 = .ok (.iload_n 1, 1) := by decide +kernel
theorem dX5_order_37 : decode cX5_order 37 = .ok (.iload_n 2, 1) := by decide +kernel
theorem dX5_order_38 : decode cX5_order 38 = .ok (.bastore, 1) := by decide +kernel
theorem dX5_order_39 : decode cX5_order 39 = .ok (.iload_n 3, 1) := by decide +kernel
theorem dX5_order_40 : decode cX5_order 40 = .ok (.ireturn, 1) := by decide +kernel
theorem dX5_limit_0 : decode cX5_limit 0 = .ok (.aload_n 0, 1) := by decide +kernel
theorem dX5_limit_1 : decode cX5_limit 1 = .ok (.iload_n 1, 1) := by decide +kernel
theorem dX5_limit_2 : decode cX5_limit 2 = .ok (.ifCond .lt 13, 3) := by decide +kernel
theorem dX5_limit_5 : decode cX5_limit 5 = .ok (.iload_n 1, 1) := by decide +kernel
theorem dX5_limit_6 : decode cX5_limit 6 = .ok (.ldc 102, 2) := by decide +kernel
theorem dX5_limit_8 : decode cX5_limit 8 = .ok (.if_icmp .gt 7, 3) := by decide +kernel
theorem dX5_limit_11 : decode cX5_limit 11 = .ok (.iconst 0, 1) := by decide +kernel
theorem dX5_limit_12 : decode cX5_limit 12 = .ok (.goto 4, 3) := by decide +kernel
theorem dX5_limit_15 : decode cX5_limit 15 = .ok (.iconst 1, 1) := by decide +kernel
theorem dX5_limit_16 : decode cX5_limit 16 = .ok (.putfield 106, 3) := by decide +kernel
theorem dX5_limit_19 : decode cX5_limit 19 = .ok (.aload_n 0, 1) := by decide +kernel
theorem dX5_limit_20 : decode cX5_limit 20 = .ok (.getfield 106, 3) := by decide +kernel
theorem dX5_limit_23 : decode cX5_limit 23 = .ok (.ifCond .le 5, 3) := by decide +kernel
theorem dX5_limit_26 : decode cX5_limit 26 = .ok (.iconst 0, 1) := by decide +kernel
theorem dX5_limit_27 : decode cX5_limit 27 = .ok (.ireturn, 1) := by decide +kernel
theorem dX5_limit_28 : decode cX5_limit 28 = .ok (.aload_n 0, 1) := by decide +kernel
theorem dX5_limit_29 : decode cX5_limit 29 = .ok (.getfield 103, 3) := by decide +kernel
theorem dX5_limit_32 : decode cX5_limit 32 = .ok (.istore_n 2, 1) := by decide +kernel
theorem dX5_limit_33 : decode cX5_limit 33 = .ok (.aload_n 0, 1) := by decide +kernel
theorem dX5_limit_34 : decode cX5_limit 34 = .ok (.iload_n 1, 1) := by decide +kernel
theorem dX5_limit_35 : decode cX5_limit 35 = .ok (.putfield 103, 3) := by decide +kernel
theorem dX5_limit_38 : decode cX5_limit 38 = .ok (.iload_n 2, 1) := by decide +kernel
theorem dX5_limit_39 : decode cX5_limit 39 = .ok (.ireturn, 1) := by decide +kernel
set_option maxRecDepth 20000 in
theorem ggX5_fail_X5_isDevice : GoodIn wsX5_fail wsX5_isDevice := goodIn_r _ [7, 8, 9, 10, 6, 11, 12, 13, 14, 15, 16, 17, 18, 19, 20, 21, 22, 23, 24, 25, 26, 27, 28, 29, 30, 31, 32, 33, 34, 35, 36, 37, 38, 39, 40, 41, 42, 43, 44, 45, 46] (by decide +kernel) (by decide +kernel)
set_option maxRecDepth 20000 in
theorem gX5_fail_X5_isDevice : GoodIn wsX5_fail (wsV RX5 120 RX5 yX5_isDevice wsX5_isDevice) := goodIn_app (goodIn_of _ (by decide +kernel)) ggX5_fail_X5_isDevice
theorem dX5_fail_0 : decode cX5_fail 0 = .ok (.aload_n 0, 1) := by decide +kernel
theorem dX5_fail_1 : decode cX5_fail 1 = .ok (.aload_n 0, 1) := by decide +kernel
theorem dX5_fail_2 : decode cX5_fail 2 = .ok (.iload_n 1, 1) := by decide +kernel
theorem dX5_fail_3 : decode cX5_fail 3 = .ok (.iload_n 2, 1) := by decide +kernel
theorem dX5_fail_4 : decode cX5_fail 4 = .ok (.invokevirtual 120, 3) := by decide +kernel
theorem dX5_fail_7 : decode cX5_fail 7 = .ok (.ifCond .eq 7, 3) := by decide +kernel
theorem dX5_fail_10 : decode cX5_fail 10 = .ok (.iconst 0, 1) := by decide +kernel
theorem dX5_fail_11 : decode cX5_fail 11 = .ok (.goto 4, 3) := by decide +kernel
theorem dX5_fail_14 : decode cX5_fail 14 = .ok (.iconst 1, 1) := by decide +kernel
theorem dX5_fail_15 : decode cX5_fail 15 = .ok (.putfield 106, 3) := by decide +kernel
theorem dX5_fail_18 : decode cX5_fail 18 = .ok (.aload_n 0, 1) := by decide +kernel
theorem dX5_fail_19 : decode cX5_fail 19 = .ok (.getfield 106, 3) := by decide +kernel
theorem dX5_fail_22 : decode cX5_fail 22 = .ok (.ifCond .le 5, 3) := by decide +kernel
theorem dX5_fail_25 : decode cX5_fail 25 = .ok (.iconst 0, 1) := by decide +kernel
theorem dX5_fail_26 : decode cX5_fail 26 = .ok (.ireturn, 1) := by decide +kernel
