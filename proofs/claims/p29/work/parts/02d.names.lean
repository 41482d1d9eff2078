def wsL_alike_r19 : List Cond := [Cond.instanceMethod yX5_doneIn, Cond.selects RX5 yX5_doneIn yX5_doneIn, Cond.code yX5_doneIn cX5_doneIn 3 (some .int), Cond.methodLink RL 147 yL_trySounds, Cond.static yL_trySounds, Cond.codeWith yL_trySounds cL_trySounds 3 (some .int) [(0, 5, 6, 38)], Cond.methodLink RL 78 yX5_soundsIn, Cond.instanceMethod yX5_soundsIn, Cond.selects RX5 yX5_soundsIn yX5_soundsIn, Cond.code yX5_soundsIn cX5_soundsIn 3 (some .int), Cond.methodLink RX5 222 yX1_soundedAgo, Cond.methodLink RL 150 yL_tryLeast, Cond.static yL_tryLeast, Cond.codeWith yL_tryLeast cL_tryLeast 3 (some .int) [(0, 5, 6, 13)], Cond.methodLink RL 81 yX5_leastSpeed, Cond.instanceMethod yX5_leastSpeed, Cond.selects RX5 yX5_leastSpeed yX5_leastSpeed, Cond.code yX5_leastSpeed cX5_leastSpeed 3 (some .int), Cond.methodLink RL 153 yL_tryRoom, Cond.static yL_tryRoom, Cond.codeWith yL_tryRoom cL_tryRoom 4 (some .int) [(0, 6, 7, 38), (0, 6, 11, 13)], Cond.methodLink RL 84 yX5_room, Cond.instanceMethod yX5_room, Cond.selects RX5 yX5_room yX5_room]
def wsL_alike_r20 : List Cond := [Cond.code yX5_room cX5_room 4 (some .int), Cond.methodLink RX5 237 yX5_span, Cond.methodLink RX5 240 yX1_isFree, Cond.methodLink RL 156 yL_tryKeep, Cond.static yL_tryKeep, Cond.codeWith yL_tryKeep cL_tryKeep 3 (some .int) [(0, 5, 6, 38)], Cond.methodLink RL 87 yX5_save, Cond.instanceMethod yX5_save, Cond.selects RX5 yX5_save yX5_save, Cond.code yX5_save cX5_save 2 (some .int), Cond.methodLink RX5 278 yX3_has, Cond.instanceMethod yX3_has, Cond.selects RX3 yX3_has yX3_has, Cond.code yX3_has cX3_has 2 (some .boolean), Cond.methodLink RX5 281 yX3_store, Cond.instanceMethod yX3_store, Cond.selects RX3 yX3_store yX3_store, Cond.code yX3_store cX3_store 3 none, Cond.fieldLink RX3 11 "OrganPegs$Slots" "states" "[LOrganPegs$Organ;", Cond.methodLink RX3 22 yX3_has, Cond.methodLink RX3 26 yX1_copyFrom, Cond.methodLink RL 159 yL_tryBack, Cond.static yL_tryBack, Cond.codeWith yL_tryBack cL_tryBack 3 (some .int) [(0, 5, 6, 38), (0, 5, 10, 24)]]
def wsL_alike_r21 : List Cond := [Cond.methodLink RL 90 yX5_restore, Cond.instanceMethod yX5_restore, Cond.selects RX5 yX5_restore yX5_restore, Cond.code yX5_restore cX5_restore 2 (some .int), Cond.methodLink RX5 285 yX3_isStored, Cond.instanceMethod yX3_isStored, Cond.selects RX3 yX3_isStored yX3_isStored, Cond.code yX3_isStored cX3_isStored 2 (some .boolean), Cond.methodLink RX5 290 yX3_fetch, Cond.instanceMethod yX3_fetch, Cond.selects RX3 yX3_fetch yX3_fetch, Cond.code yX3_fetch cX3_fetch 3 none]
def wsL_alike : List Cond := .code yL_alike cL_alike 5 (some .boolean) :: ((wsL_alike_r1 ++ (wsL_alike_r2 ++ (wsL_alike_r3 ++ (wsL_alike_r4 ++ (wsL_alike_r5 ++ (wsL_alike_r6 ++ (wsL_alike_r7 ++ (wsL_alike_r8 ++ (wsL_alike_r9 ++ (wsL_alike_r10 ++ (wsL_alike_r11 ++ (wsL_alike_r12 ++ (wsL_alike_r13 ++ (wsL_alike_r14 ++ (wsL_alike_r15 ++ (wsL_alike_r16 ++ (wsL_alike_r17 ++ (wsL_alike_r18 ++ (wsL_alike_r19 ++ (wsL_alike_r20 ++ wsL_alike_r21)))))))))))))))))))) ++ wsX50 ++ wsX10 ++ wsX40 ++ wsX20 ++ wsX00 ++ wsX30 ++ (vx_atS RX5 47 "java/lang/IllegalArgumentException" ["java/lang/RuntimeException", "java/lang/Exception"]).filter goodWord ++ (vx_atS RX5 58 "java/lang/IllegalStateException" ["java/lang/RuntimeException", "java/lang/Exception"]).filter goodWord ++ (vx_atS RX5 141 "java/lang/IndexOutOfBoundsException" ["java/lang/RuntimeException", "java/lang/Exception"]).filter goodWord)
def wsL_waits_r1 : List Cond := [Cond.methodLink RL 164 yL_call, Cond.static yL_call, Cond.initialized RL, Cond.code yL_call cL_call 5 (some .int), Cond.methodLink RL 93 yL_tryAppend, Cond.static yL_tryAppend, Cond.codeWith yL_tryAppend cL_tryAppend 3 (some .int) [(0, 5, 6, 13), (0, 5, 10, 24)], Cond.classLink RL 13 "java/lang/IllegalArgumentException", Cond.classLink RL 24 "java/lang/IllegalStateException", Cond.constant RL 15 (-9999002), Cond.constant RL 26 (-9999003), Cond.methodLink RL 20 yX5_append, Cond.instanceMethod yX5_append, Cond.selects RX5 yX5_append yX5_append, Cond.initialized RX5, Cond.code yX5_append cX5_append 2 (some .int), Cond.classLink RX5 43 "java/lang/IllegalArgumentException", Cond.initialized "java/lang/IllegalArgumentException", Cond.classLink RX5 54 "java/lang/IllegalStateException", Cond.initialized "java/lang/IllegalStateException", Cond.fieldLink RX5 10 "OrganPegs" "roll" "LOrganPegs$Roll;", Cond.methodLink RX5 50 yX2_isFull, Cond.instanceMethod yX2_isFull, Cond.selects RX2 yX2_isFull yX2_isFull]
def wsL_waits_r2 : List Cond := [Cond.initialized RX2, Cond.code yX2_isFull cX2_isFull 1 (some .boolean), Cond.fieldLink RX2 15 "OrganPegs$Roll" "length" "I", Cond.methodLink RX5 59 yX2_addCharacter, Cond.instanceMethod yX2_addCharacter, Cond.selects RX2 yX2_addCharacter yX2_addCharacter, Cond.code yX2_addCharacter cX2_addCharacter 2 (some .int), Cond.fieldLink RX2 9 "OrganPegs$Roll" "text" "[C", Cond.methodLink RL 99 yL_tryLoad, Cond.static yL_tryLoad, Cond.codeWith yL_tryLoad cL_tryLoad 2 (some .int) [(0, 4, 5, 24)], Cond.methodLink RL 27 yX5_load, Cond.instanceMethod yX5_load, Cond.selects RX5 yX5_load yX5_load, Cond.code yX5_load cX5_load 3 (some .int), Cond.fieldLink RX5 19 "OrganPegs" "organ" "LOrganPegs$Organ;", Cond.fieldLink RX5 23 "OrganPegs" "untouched" "LOrganPegs$Organ;", Cond.fieldLink RX5 32 "OrganPegs" "history" "LOrganPegs$History;", Cond.fieldLink RX5 39 "OrganPegs" "slots" "LOrganPegs$Slots;", Cond.methodLink RX5 67 yX2_firstWrong, Cond.instanceMethod yX2_firstWrong, Cond.selects RX2 yX2_firstWrong yX2_firstWrong, Cond.code yX2_firstWrong cX2_firstWrong 2 (some .int), Cond.fieldLink RX2 26 "OrganPegs$Roll" "wrong" "Z"]
def wsL_waits_r3 : List Cond := [Cond.fieldLink RX2 30 "OrganPegs$Roll" "position" "I", Cond.methodLink RX2 19 yX2_rewind, Cond.instanceMethod yX2_rewind, Cond.selects RX2 yX2_rewind yX2_rewind, Cond.code yX2_rewind cX2_rewind 1 none, Cond.methodLink RX2 33 yX2_here, Cond.instanceMethod yX2_here, Cond.selects RX2 yX2_here yX2_here, Cond.code yX2_here cX2_here 1 (some .char), Cond.methodLink RX2 22 yX2_readCommand, Cond.instanceMethod yX2_readCommand, Cond.selects RX2 yX2_readCommand yX2_readCommand, Cond.code yX2_readCommand cX2_readCommand 1 (some .boolean), Cond.fieldLink RX2 37 "OrganPegs$Roll" "letter" "C", Cond.methodLink RX2 41 yX2_readNumbers, Cond.instanceMethod yX2_readNumbers, Cond.selects RX2 yX2_readNumbers yX2_readNumbers, Cond.code yX2_readNumbers cX2_readNumbers 1 none, Cond.fieldLink RX2 48 "OrganPegs$Roll" "first" "I", Cond.fieldLink RX2 54 "OrganPegs$Roll" "second" "I", Cond.fieldLink RX2 57 "OrganPegs$Roll" "third" "I", Cond.methodLink RX2 44 yX2_digit, Cond.instanceMethod yX2_digit, Cond.selects RX2 yX2_digit yX2_digit]
def wsL_waits_r4 : List Cond := [Cond.code yX2_digit cX2_digit 4 (some .int), Cond.methodLink RX2 51 yX2_twoDigits, Cond.instanceMethod yX2_twoDigits, Cond.selects RX2 yX2_twoDigits yX2_twoDigits, Cond.code yX2_twoDigits cX2_twoDigits 6 (some .int), Cond.methodLink RX5 72 yX1_copyFrom, Cond.instanceMethod yX1_copyFrom, Cond.selects RX1 yX1_copyFrom yX1_copyFrom, Cond.initialized RX1, Cond.code yX1_copyFrom cX1_copyFrom 2 none, Cond.fieldLink RX1 16 "OrganPegs$Organ" "pegs" "LOrganPegs$Table;", Cond.fieldLink RX1 20 "OrganPegs$Organ" "orders" "LOrganPegs$Table;", Cond.fieldLink RX1 23 "OrganPegs$Organ" "covers" "[I", Cond.fieldLink RX1 27 "OrganPegs$Organ" "pipeNotes" "[I", Cond.fieldLink RX1 30 "OrganPegs$Organ" "pipeLacks" "[I", Cond.fieldLink RX1 33 "OrganPegs$Organ" "settings" "[I", Cond.fieldLink RX1 48 "OrganPegs$Organ" "time" "I", Cond.fieldLink RX1 51 "OrganPegs$Organ" "comb" "I", Cond.fieldLink RX1 54 "OrganPegs$Organ" "turns" "I", Cond.fieldLink RX1 57 "OrganPegs$Organ" "version" "I", Cond.fieldLink RX1 60 "OrganPegs$Organ" "wind" "I", Cond.fieldLink RX1 63 "OrganPegs$Organ" "past" "J", Cond.fieldLink RX1 67 "OrganPegs$Organ" "heard" "I", Cond.fieldLink RX1 70 "OrganPegs$Organ" "notes" "I"]
def wsL_waits_r5 : List Cond := [Cond.fieldLink RX1 73 "OrganPegs$Organ" "lacks" "I", Cond.fieldLink RX1 76 "OrganPegs$Organ" "voids" "I", Cond.fieldLink RX1 36 "OrganPegs$Organ" "watched" "I", Cond.methodLink RX1 40 yX4_copyFrom, Cond.instanceMethod yX4_copyFrom, Cond.selects RX4 yX4_copyFrom yX4_copyFrom, Cond.initialized RX4, Cond.code yX4_copyFrom cX4_copyFrom 2 none, Cond.fieldLink RX4 28 "OrganPegs$Table" "lines" "I", Cond.fieldLink RX4 24 "OrganPegs$Table" "cells" "[I", Cond.static yX5_copyRow, Cond.code yX5_copyRow cX5_copyRow 2 none, Cond.methodLink RX5 294 Lib.Math.min.name, Cond.static Lib.Math.min.name, Cond.initialized "java/lang/Math", Cond.code Lib.Math.min.name Lib.Math.min.code 2 (some .int), Cond.methodLink RX5 299 arraycopyName, Cond.native arraycopyName, Cond.static arraycopyName, Cond.initialized "java/lang/System", Cond.methodLink RX5 76 yX0_forget, Cond.instanceMethod yX0_forget, Cond.selects RX0 yX0_forget yX0_forget, Cond.initialized RX0]
def wsL_waits_r6 : List Cond := [Cond.code yX0_forget cX0_forget 1 none, Cond.fieldLink RX0 18 "OrganPegs$History" "count" "I", Cond.methodLink RX5 79 yX3_wipe, Cond.instanceMethod yX3_wipe, Cond.selects RX3 yX3_wipe yX3_wipe, Cond.initialized RX3, Cond.code yX3_wipe cX3_wipe 2 none, Cond.fieldLink RX3 17 "OrganPegs$Slots" "stored" "[Z", Cond.methodLink RX5 81 yX2_rewind, Cond.methodLink RX5 84 yX2_readCommand, Cond.methodLink RX5 87 yX5_obeysCommand, Cond.instanceMethod yX5_obeysCommand, Cond.selects RX5 yX5_obeysCommand yX5_obeysCommand, Cond.code yX5_obeysCommand cX5_obeysCommand 1 (some .boolean), Cond.methodLink RX5 104 yX1_orderPut, Cond.instanceMethod yX1_orderPut, Cond.selects RX1 yX1_orderPut yX1_orderPut, Cond.code yX1_orderPut cX1_orderPut 4 (some .int), Cond.static yX5_isLength, Cond.code yX5_isLength cX5_isLength 1 (some .boolean), Cond.methodLink RX1 118 yX1_addOrder, Cond.instanceMethod yX1_addOrder, Cond.selects RX1 yX1_addOrder yX1_addOrder, Cond.code yX1_addOrder cX1_addOrder 6 (some .int)]
def wsL_waits_r7 : List Cond := [Cond.static yX5_isPipe, Cond.code yX5_isPipe cX5_isPipe 1 (some .boolean), Cond.static yX5_isBar, Cond.code yX5_isBar cX5_isBar 1 (some .boolean), Cond.methodLink RX1 125 yX4_isFull, Cond.instanceMethod yX4_isFull, Cond.selects RX4 yX4_isFull yX4_isFull, Cond.code yX4_isFull cX4_isFull 1 (some .boolean), Cond.fieldLink RX4 15 "OrganPegs$Table" "most" "I", Cond.methodLink RX1 129 yX4_addLine, Cond.instanceMethod yX4_addLine, Cond.selects RX4 yX4_addLine yX4_addLine, Cond.code yX4_addLine cX4_addLine 1 (some .int), Cond.methodLink RX4 35 yX4_isFull, Cond.methodLink RX1 133 yX4_write, Cond.instanceMethod yX4_write, Cond.selects RX4 yX4_write yX4_write, Cond.code yX4_write cX4_write 4 none, Cond.fieldLink RX4 21 "OrganPegs$Table" "columns" "I", Cond.methodLink RX4 31 yX4_hasCell, Cond.instanceMethod yX4_hasCell, Cond.selects RX4 yX4_hasCell yX4_hasCell, Cond.code yX4_hasCell cX4_hasCell 3 (some .boolean), Cond.methodLink RX5 108 yX1_orderPull]
def wsL_waits_r8 : List Cond := [Cond.instanceMethod yX1_orderPull, Cond.selects RX1 yX1_orderPull yX1_orderPull, Cond.code yX1_orderPull cX1_orderPull 3 (some .int), Cond.methodLink RX5 112 yX1_change, Cond.instanceMethod yX1_change, Cond.selects RX1 yX1_change yX1_change, Cond.code yX1_change cX1_change 4 (some .int), Cond.static yX5_isSettingValue, Cond.code yX5_isSettingValue cX5_isSettingValue 2 (some .boolean), Cond.fieldLink RX5 225 "OrganPegs" "SETTING_MOST" "[I", Cond.methodLink RX5 178 yX5_isSetting, Cond.static yX5_isSetting, Cond.code yX5_isSetting cX5_isSetting 1 (some .boolean), Cond.methodLink RX5 115 yX1_play, Cond.instanceMethod yX1_play, Cond.selects RX1 yX1_play yX1_play, Cond.code yX1_play cX1_play 4 (some .int), Cond.methodLink RX1 153 Lib.Math.min.name, Cond.static yX5_isTicks, Cond.code yX5_isTicks cX5_isTicks 1 (some .boolean), Cond.methodLink RX1 150 yX1_turnCrank, Cond.instanceMethod yX1_turnCrank, Cond.selects RX1 yX1_turnCrank yX1_turnCrank, Cond.code yX1_turnCrank cX1_turnCrank 1 none]
def wsL_waits_r9 : List Cond := [Cond.methodLink RX1 158 yX1_lookAtOrders, Cond.instanceMethod yX1_lookAtOrders, Cond.selects RX1 yX1_lookAtOrders yX1_lookAtOrders, Cond.code yX1_lookAtOrders cX1_lookAtOrders 4 none, Cond.methodLink RX1 164 yX1_goesOnWaiting, Cond.instanceMethod yX1_goesOnWaiting, Cond.selects RX1 yX1_goesOnWaiting yX1_goesOnWaiting, Cond.code yX1_goesOnWaiting cX1_goesOnWaiting 4 (some .boolean), Cond.methodLink RX1 102 yX4_at, Cond.instanceMethod yX4_at, Cond.selects RX4 yX4_at yX4_at, Cond.code yX4_at cX4_at 3 (some .int), Cond.static yX5_span, Cond.code yX5_span cX5_span 4 (some .int), Cond.constant RX5 293 (16777215), Cond.methodLink RX1 98 yX1_isOpen, Cond.instanceMethod yX1_isOpen, Cond.selects RX1 yX1_isOpen yX1_isOpen, Cond.code yX1_isOpen cX1_isOpen 3 (some .boolean), Cond.methodLink RX1 167 yX1_isPut, Cond.instanceMethod yX1_isPut, Cond.selects RX1 yX1_isPut yX1_isPut, Cond.code yX1_isPut cX1_isPut 2 (some .boolean), Cond.methodLink RX1 170 yX1_placePeg]
def wsL_waits_r10 : List Cond := [Cond.instanceMethod yX1_placePeg, Cond.selects RX1 yX1_placePeg yX1_placePeg, Cond.code yX1_placePeg cX1_placePeg 7 (some .boolean), Cond.methodLink RX1 179 yX1_isFree, Cond.instanceMethod yX1_isFree, Cond.selects RX1 yX1_isFree yX1_isFree, Cond.code yX1_isFree cX1_isFree 3 (some .boolean), Cond.methodLink RX1 173 yX1_takePeg, Cond.instanceMethod yX1_takePeg, Cond.selects RX1 yX1_takePeg yX1_takePeg, Cond.code yX1_takePeg cX1_takePeg 5 (some .boolean), Cond.methodLink RX1 140 yX4_removeLine, Cond.instanceMethod yX4_removeLine, Cond.selects RX4 yX4_removeLine yX4_removeLine, Cond.code yX4_removeLine cX4_removeLine 3 none, Cond.methodLink RX4 43 arraycopyName, Cond.methodLink RX4 39 yX4_has, Cond.instanceMethod yX4_has, Cond.selects RX4 yX4_has yX4_has, Cond.code yX4_has cX4_has 2 (some .boolean), Cond.methodLink RX1 176 yX1_dropOrder, Cond.instanceMethod yX1_dropOrder, Cond.selects RX1 yX1_dropOrder yX1_dropOrder, Cond.code yX1_dropOrder cX1_dropOrder 2 (some .int)]
def wsL_waits_r11 : List Cond := [Cond.methodLink RX1 137 yX4_has, Cond.methodLink RX1 161 yX1_blowPipes, Cond.instanceMethod yX1_blowPipes, Cond.selects RX1 yX1_blowPipes yX1_blowPipes, Cond.code yX1_blowPipes cX1_blowPipes 3 none, Cond.methodLink RX1 82 yX1_soundedAgo, Cond.instanceMethod yX1_soundedAgo, Cond.selects RX1 yX1_soundedAgo yX1_soundedAgo, Cond.code yX1_soundedAgo cX1_soundedAgo 2 (some .int), Cond.methodLink RX5 119 yX1_dropOrder, Cond.methodLink RL 103 yL_tryAbout, Cond.static yL_tryAbout, Cond.codeWith yL_tryAbout cL_tryAbout 3 (some .int) [(0, 5, 6, 13)], Cond.methodLink RL 31 yX5_about, Cond.instanceMethod yX5_about, Cond.selects RX5 yX5_about yX5_about, Cond.code yX5_about cX5_about 2 (some .int), Cond.methodLink RX5 124 yX1_tell, Cond.instanceMethod yX1_tell, Cond.selects RX1 yX1_tell yX1_tell, Cond.code yX1_tell cX1_tell 2 (some .int), Cond.methodLink RL 106 yL_tryPeg, Cond.static yL_tryPeg, Cond.codeWith yL_tryPeg cL_tryPeg 4 (some .int) [(0, 6, 7, 38), (0, 6, 11, 13)]]
def wsL_waits_r12 : List Cond := [Cond.classLink RL 38 "java/lang/IndexOutOfBoundsException", Cond.constant RL 40 (-9999001), Cond.methodLink RL 34 yX5_pegOf, Cond.instanceMethod yX5_pegOf, Cond.selects RX5 yX5_pegOf yX5_pegOf, Cond.code yX5_pegOf cX5_pegOf 3 (some .int), Cond.classLink RX5 137 "java/lang/IndexOutOfBoundsException", Cond.initialized "java/lang/IndexOutOfBoundsException", Cond.methodLink RX5 131 yX4_has, Cond.methodLink RX5 144 yX4_at, Cond.methodLink RL 110 yL_tryOrder, Cond.static yL_tryOrder, Cond.codeWith yL_tryOrder cL_tryOrder 4 (some .int) [(0, 6, 7, 38), (0, 6, 11, 13)], Cond.methodLink RL 41 yX5_orderOf, Cond.instanceMethod yX5_orderOf, Cond.selects RX5 yX5_orderOf yX5_orderOf, Cond.code yX5_orderOf cX5_orderOf 3 (some .int), Cond.methodLink RL 113 yL_tryPipe, Cond.static yL_tryPipe, Cond.codeWith yL_tryPipe cL_tryPipe 4 (some .int) [(0, 6, 7, 38), (0, 6, 11, 13)], Cond.methodLink RL 44 yX5_pipeOf, Cond.instanceMethod yX5_pipeOf, Cond.selects RX5 yX5_pipeOf yX5_pipeOf, Cond.code yX5_pipeOf cX5_pipeOf 3 (some .int)]
def wsL_waits_r13 : List Cond := [Cond.methodLink RX5 154 yX5_isPipe, Cond.methodLink RX5 159 yX1_tellOfPipe, Cond.instanceMethod yX1_tellOfPipe, Cond.selects RX1 yX1_tellOfPipe yX1_tellOfPipe, Cond.code yX1_tellOfPipe cX1_tellOfPipe 3 (some .int), Cond.methodLink RX1 90 yX1_pegsOfPipe, Cond.instanceMethod yX1_pegsOfPipe, Cond.selects RX1 yX1_pegsOfPipe yX1_pegsOfPipe, Cond.code yX1_pegsOfPipe cX1_pegsOfPipe 4 (some .int), Cond.methodLink RX1 93 yJ6_bitCount_0f7a4, Cond.static yJ6_bitCount_0f7a4, Cond.initialized RJ6, Cond.code yJ6_bitCount_0f7a4 cJ6_bitCount_0f7a4 1 (some .int), Cond.constant RJ6 265 (1431655765), Cond.constant RJ6 266 (858993459), Cond.constant RJ6 267 (252645135), Cond.methodLink RL 116 yL_tryChord, Cond.static yL_tryChord, Cond.codeWith yL_tryChord cL_tryChord 3 (some .int) [(0, 5, 6, 38)], Cond.methodLink RL 47 yX5_chord, Cond.instanceMethod yX5_chord, Cond.selects RX5 yX5_chord yX5_chord, Cond.code yX5_chord cX5_chord 2 (some .int), Cond.methodLink RX5 162 yX5_isBar]
def wsL_waits_r14 : List Cond := [Cond.methodLink RX5 167 yX1_openPipes, Cond.instanceMethod yX1_openPipes, Cond.selects RX1 yX1_openPipes yX1_openPipes, Cond.code yX1_openPipes cX1_openPipes 4 (some .int), Cond.methodLink RL 119 yL_tryCovered, Cond.static yL_tryCovered, Cond.codeWith yL_tryCovered cL_tryCovered 3 (some .int) [(0, 5, 6, 13)], Cond.methodLink RL 50 yX5_covered, Cond.instanceMethod yX5_covered, Cond.selects RX5 yX5_covered yX5_covered, Cond.code yX5_covered cX5_covered 2 (some .int), Cond.methodLink RX5 172 yX1_coveredBars, Cond.instanceMethod yX1_coveredBars, Cond.selects RX1 yX1_coveredBars yX1_coveredBars, Cond.code yX1_coveredBars cX1_coveredBars 3 (some .int), Cond.methodLink RX1 112 yX1_openPipes, Cond.methodLink RX5 175 yX1_sumOfLengths, Cond.instanceMethod yX1_sumOfLengths, Cond.selects RX1 yX1_sumOfLengths yX1_sumOfLengths, Cond.code yX1_sumOfLengths cX1_sumOfLengths 3 (some .int), Cond.methodLink RL 122 yL_trySetting, Cond.static yL_trySetting, Cond.codeWith yL_trySetting cL_trySetting 3 (some .int) [(0, 5, 6, 13)], Cond.methodLink RL 53 yX5_setting]
def wsL_waits_r15 : List Cond := [Cond.instanceMethod yX5_setting, Cond.selects RX5 yX5_setting yX5_setting, Cond.code yX5_setting cX5_setting 2 (some .int), Cond.methodLink RX5 183 yX1_settingOf, Cond.instanceMethod yX1_settingOf, Cond.selects RX1 yX1_settingOf yX1_settingOf, Cond.code yX1_settingOf cX1_settingOf 2 (some .int), Cond.methodLink RL 125 yL_tryPut, Cond.static yL_tryPut, Cond.codeWith yL_tryPut cL_tryPut 5 (some .int) [(0, 7, 8, 38), (0, 7, 13, 13), (0, 7, 18, 24)], Cond.methodLink RL 56 yX5_put, Cond.instanceMethod yX5_put, Cond.selects RX5 yX5_put yX5_put, Cond.code yX5_put cX5_put 4 (some .int), Cond.methodLink RX5 188 yX5_isLength, Cond.methodLink RX5 193 yX4_isFull, Cond.methodLink RX5 196 yX0_remember, Cond.instanceMethod yX0_remember, Cond.selects RX0 yX0_remember yX0_remember, Cond.code yX0_remember cX0_remember 2 none, Cond.fieldLink RX0 22 "OrganPegs$History" "next" "I", Cond.methodLink RX0 33 Lib.Math.min.name, Cond.methodLink RX0 25 yX0_stateAt, Cond.instanceMethod yX0_stateAt]
def wsL_waits_r16 : List Cond := [Cond.selects RX0 yX0_stateAt yX0_stateAt, Cond.code yX0_stateAt cX0_stateAt 2 (some (.object "OrganPegs$Organ")), Cond.fieldLink RX0 11 "OrganPegs$History" "states" "[LOrganPegs$Organ;", Cond.methodLink RX0 29 yX1_copyFrom, Cond.methodLink RL 129 yL_tryPull, Cond.static yL_tryPull, Cond.codeWith yL_tryPull cL_tryPull 4 (some .int) [(0, 6, 7, 38), (0, 6, 11, 24)], Cond.methodLink RL 60 yX5_pull, Cond.instanceMethod yX5_pull, Cond.selects RX5 yX5_pull yX5_pull, Cond.code yX5_pull cX5_pull 3 (some .int), Cond.methodLink RL 132 yL_tryCancel, Cond.static yL_tryCancel, Cond.codeWith yL_tryCancel cL_tryCancel 3 (some .int) [(0, 5, 6, 38)], Cond.methodLink RL 63 yX5_cancel, Cond.instanceMethod yX5_cancel, Cond.selects RX5 yX5_cancel yX5_cancel, Cond.code yX5_cancel cX5_cancel 2 (some .int), Cond.methodLink RL 135 yL_tryTicks, Cond.static yL_tryTicks, Cond.codeWith yL_tryTicks cL_tryTicks 3 (some .int) [(0, 5, 6, 13)], Cond.methodLink RL 66 yX5_ticks, Cond.instanceMethod yX5_ticks, Cond.selects RX5 yX5_ticks yX5_ticks]
def wsL_waits_r17 : List Cond := [Cond.code yX5_ticks cX5_ticks 2 (some .int), Cond.methodLink RX5 199 yX5_isTicks, Cond.methodLink RL 138 yL_tryLay, Cond.static yL_tryLay, Cond.codeWith yL_tryLay cL_tryLay 4 (some .int) [(0, 6, 7, 13)], Cond.methodLink RL 69 yX5_set, Cond.instanceMethod yX5_set, Cond.selects RX5 yX5_set yX5_set, Cond.code yX5_set cX5_set 3 (some .int), Cond.methodLink RX5 204 yX5_isSettingValue, Cond.methodLink RL 141 yL_tryUndo, Cond.static yL_tryUndo, Cond.codeWith yL_tryUndo cL_tryUndo 2 (some .int) [(0, 4, 5, 24)], Cond.methodLink RL 72 yX5_undo, Cond.instanceMethod yX5_undo, Cond.selects RX5 yX5_undo yX5_undo, Cond.code yX5_undo cX5_undo 1 (some .int), Cond.methodLink RX5 210 yX0_isEmpty, Cond.instanceMethod yX0_isEmpty, Cond.selects RX0 yX0_isEmpty yX0_isEmpty, Cond.code yX0_isEmpty cX0_isEmpty 1 (some .boolean), Cond.methodLink RX5 215 yX0_bringBack, Cond.instanceMethod yX0_bringBack, Cond.selects RX0 yX0_bringBack yX0_bringBack]
def wsL_waits_r18 : List Cond := [Cond.code yX0_bringBack cX0_bringBack 2 (some .int), Cond.methodLink RL 144 yL_tryDone, Cond.static yL_tryDone, Cond.codeWith yL_tryDone cL_tryDone 3 (some .int) [(0, 5, 6, 38)], Cond.methodLink RL 75 yX5_doneIn, Cond.instanceMethod yX5_doneIn, Cond.selects RX5 yX5_doneIn yX5_doneIn, Cond.code yX5_doneIn cX5_doneIn 3 (some .int), Cond.fieldLink RX5 26 "OrganPegs" "trial" "LOrganPegs$Organ;", Cond.methodLink RL 147 yL_trySounds, Cond.static yL_trySounds, Cond.codeWith yL_trySounds cL_trySounds 3 (some .int) [(0, 5, 6, 38)], Cond.methodLink RL 78 yX5_soundsIn, Cond.instanceMethod yX5_soundsIn, Cond.selects RX5 yX5_soundsIn yX5_soundsIn, Cond.code yX5_soundsIn cX5_soundsIn 3 (some .int), Cond.methodLink RX5 222 yX1_soundedAgo, Cond.methodLink RL 150 yL_tryLeast, Cond.static yL_tryLeast, Cond.codeWith yL_tryLeast cL_tryLeast 3 (some .int) [(0, 5, 6, 13)], Cond.methodLink RL 81 yX5_leastSpeed, Cond.instanceMethod yX5_leastSpeed, Cond.selects RX5 yX5_leastSpeed yX5_leastSpeed, Cond.code yX5_leastSpeed cX5_leastSpeed 3 (some .int)]
def wsL_waits_r19 : List Cond := [Cond.methodLink RL 153 yL_tryRoom, Cond.static yL_tryRoom, Cond.codeWith yL_tryRoom cL_tryRoom 4 (some .int) [(0, 6, 7, 38), (0, 6, 11, 13)], Cond.methodLink RL 84 yX5_room, Cond.instanceMethod yX5_room, Cond.selects RX5 yX5_room yX5_room, Cond.code yX5_room cX5_room 4 (some .int), Cond.methodLink RX5 237 yX5_span, Cond.methodLink RX5 240 yX1_isFree, Cond.methodLink RL 156 yL_tryKeep, Cond.static yL_tryKeep, Cond.codeWith yL_tryKeep cL_tryKeep 3 (some .int) [(0, 5, 6, 38)], Cond.methodLink RL 87 yX5_save, Cond.instanceMethod yX5_save, Cond.selects RX5 yX5_save yX5_save, Cond.code yX5_save cX5_save 2 (some .int), Cond.methodLink RX5 278 yX3_has, Cond.instanceMethod yX3_has, Cond.selects RX3 yX3_has yX3_has, Cond.code yX3_has cX3_has 2 (some .boolean), Cond.methodLink RX5 281 yX3_store, Cond.instanceMethod yX3_store, Cond.selects RX3 yX3_store yX3_store, Cond.code yX3_store cX3_store 3 none]
def wsL_waits_r20 : List Cond := [Cond.fieldLink RX3 11 "OrganPegs$Slots" "states" "[LOrganPegs$Organ;", Cond.methodLink RX3 22 yX3_has, Cond.methodLink RX3 26 yX1_copyFrom, Cond.methodLink RL 159 yL_tryBack, Cond.static yL_tryBack, Cond.codeWith yL_tryBack cL_tryBack 3 (some .int) [(0, 5, 6, 38), (0, 5, 10, 24)], Cond.methodLink RL 90 yX5_restore, Cond.instanceMethod yX5_restore, Cond.selects RX5 yX5_restore yX5_restore, Cond.code yX5_restore cX5_restore 2 (some .int), Cond.methodLink RX5 285 yX3_isStored, Cond.instanceMethod yX3_isStored, Cond.selects RX3 yX3_isStored yX3_isStored, Cond.code yX3_isStored cX3_isStored 2 (some .boolean), Cond.methodLink RX5 290 yX3_fetch, Cond.instanceMethod yX3_fetch, Cond.selects RX3 yX3_fetch yX3_fetch, Cond.code yX3_fetch cX3_fetch 3 none]
def wsL_waits : List Cond := .code yL_waits cL_waits 7 (some .boolean) :: ((wsL_waits_r1 ++ (wsL_waits_r2 ++ (wsL_waits_r3 ++ (wsL_waits_r4 ++ (wsL_waits_r5 ++ (wsL_waits_r6 ++ (wsL_waits_r7 ++ (wsL_waits_r8 ++ (wsL_waits_r9 ++ (wsL_waits_r10 ++ (wsL_waits_r11 ++ (wsL_waits_r12 ++ (wsL_waits_r13 ++ (wsL_waits_r14 ++ (wsL_waits_r15 ++ (wsL_waits_r16 ++ (wsL_waits_r17 ++ (wsL_waits_r18 ++ (wsL_waits_r19 ++ wsL_waits_r20))))))))))))))))))) ++ wsX50 ++ wsX20 ++ wsX10 ++ wsX40 ++ wsX00 ++ wsX30 ++ (vx_atS RX5 47 "java/lang/IllegalArgumentException" ["java/lang/RuntimeException", "java/lang/Exception"]).filter goodWord ++ (vx_atS RX5 58 "java/lang/IllegalStateException" ["java/lang/RuntimeException", "java/lang/Exception"]).filter goodWord ++ (vx_atS RX5 141 "java/lang/IndexOutOfBoundsException" ["java/lang/RuntimeException", "java/lang/Exception"]).filter goodWord)
def wsL_undoes_r1 : List Cond := [Cond.methodLink RL 164 yL_call, Cond.static yL_call, Cond.initialized RL, Cond.code yL_call cL_call 5 (some .int), Cond.methodLink RL 93 yL_tryAppend, Cond.static yL_tryAppend, Cond.codeWith yL_tryAppend cL_tryAppend 3 (some .int) [(0, 5, 6, 13), (0, 5, 10, 24)], Cond.classLink RL 13 "java/lang/IllegalArgumentException", Cond.classLink RL 24 "java/lang/IllegalStateException", Cond.constant RL 15 (-9999002), Cond.constant RL 26 (-9999003), Cond.methodLink RL 20 yX5_append, Cond.instanceMethod yX5_append, Cond.selects RX5 yX5_append yX5_append, Cond.initialized RX5, Cond.code yX5_append cX5_append 2 (some .int), Cond.classLink RX5 43 "java/lang/IllegalArgumentException", Cond.initialized "java/lang/IllegalArgumentException", Cond.classLink RX5 54 "java/lang/IllegalStateException", Cond.initialized "java/lang/IllegalStateException", Cond.fieldLink RX5 10 "OrganPegs" "roll" "LOrganPegs$Roll;", Cond.methodLink RX5 50 yX2_isFull, Cond.instanceMethod yX2_isFull, Cond.selects RX2 yX2_isFull yX2_isFull]
def wsL_undoes_r2 : List Cond := [Cond.initialized RX2, Cond.code yX2_isFull cX2_isFull 1 (some .boolean), Cond.fieldLink RX2 15 "OrganPegs$Roll" "length" "I", Cond.methodLink RX5 59 yX2_addCharacter, Cond.instanceMethod yX2_addCharacter, Cond.selects RX2 yX2_addCharacter yX2_addCharacter, Cond.code yX2_addCharacter cX2_addCharacter 2 (some .int), Cond.fieldLink RX2 9 "OrganPegs$Roll" "text" "[C", Cond.methodLink RL 99 yL_tryLoad, Cond.static yL_tryLoad, Cond.codeWith yL_tryLoad cL_tryLoad 2 (some .int) [(0, 4, 5, 24)], Cond.methodLink RL 27 yX5_load, Cond.instanceMethod yX5_load, Cond.selects RX5 yX5_load yX5_load, Cond.code yX5_load cX5_load 3 (some .int), Cond.fieldLink RX5 19 "OrganPegs" "organ" "LOrganPegs$Organ;", Cond.fieldLink RX5 23 "OrganPegs" "untouched" "LOrganPegs$Organ;", Cond.fieldLink RX5 32 "OrganPegs" "history" "LOrganPegs$History;", Cond.fieldLink RX5 39 "OrganPegs" "slots" "LOrganPegs$Slots;", Cond.methodLink RX5 67 yX2_firstWrong, Cond.instanceMethod yX2_firstWrong, Cond.selects RX2 yX2_firstWrong yX2_firstWrong, Cond.code yX2_firstWrong cX2_firstWrong 2 (some .int), Cond.fieldLink RX2 26 "OrganPegs$Roll" "wrong" "Z"]
def wsL_undoes_r3 : List Cond := [Cond.fieldLink RX2 30 "OrganPegs$Roll" "position" "I", Cond.methodLink RX2 19 yX2_rewind, Cond.instanceMethod yX2_rewind, Cond.selects RX2 yX2_rewind yX2_rewind, Cond.code yX2_rewind cX2_rewind 1 none, Cond.methodLink RX2 33 yX2_here, Cond.instanceMethod yX2_here, Cond.selects RX2 yX2_here yX2_here, Cond.code yX2_here cX2_here 1 (some .char), Cond.methodLink RX2 22 yX2_readCommand, Cond.instanceMethod yX2_readCommand, Cond.selects RX2 yX2_readCommand yX2_readCommand, Cond.code yX2_readCommand cX2_readCommand 1 (some .boolean), Cond.fieldLink RX2 37 "OrganPegs$Roll" "letter" "C", Cond.methodLink RX2 41 yX2_readNumbers, Cond.instanceMethod yX2_readNumbers, Cond.selects RX2 yX2_readNumbers yX2_readNumbers, Cond.code yX2_readNumbers cX2_readNumbers 1 none, Cond.fieldLink RX2 48 "OrganPegs$Roll" "first" "I", Cond.fieldLink RX2 54 "OrganPegs$Roll" "second" "I", Cond.fieldLink RX2 57 "OrganPegs$Roll" "third" "I", Cond.methodLink RX2 44 yX2_digit, Cond.instanceMethod yX2_digit, Cond.selects RX2 yX2_digit yX2_digit]
def wsL_undoes_r4 : List Cond := [Cond.code yX2_digit cX2_digit 4 (some .int), Cond.methodLink RX2 51 yX2_twoDigits, Cond.instanceMethod yX2_twoDigits, Cond.selects RX2 yX2_twoDigits yX2_twoDigits, Cond.code yX2_twoDigits cX2_twoDigits 6 (some .int), Cond.methodLink RX5 72 yX1_copyFrom, Cond.instanceMethod yX1_copyFrom, Cond.selects RX1 yX1_copyFrom yX1_copyFrom, Cond.initialized RX1, Cond.code yX1_copyFrom cX1_copyFrom 2 none, Cond.fieldLink RX1 16 "OrganPegs$Organ" "pegs" "LOrganPegs$Table;", Cond.fieldLink RX1 20 "OrganPegs$Organ" "orders" "LOrganPegs$Table;", Cond.fieldLink RX1 23 "OrganPegs$Organ" "covers" "[I", Cond.fieldLink RX1 27 "OrganPegs$Organ" "pipeNotes" "[I", Cond.fieldLink RX1 30 "OrganPegs$Organ" "pipeLacks" "[I", Cond.fieldLink RX1 33 "OrganPegs$Organ" "settings" "[I", Cond.fieldLink RX1 48 "OrganPegs$Organ" "time" "I", Cond.fieldLink RX1 51 "OrganPegs$Organ" "comb" "I", Cond.fieldLink RX1 54 "OrganPegs$Organ" "turns" "I", Cond.fieldLink RX1 57 "OrganPegs$Organ" "version" "I", Cond.fieldLink RX1 60 "OrganPegs$Organ" "wind" "I", Cond.fieldLink RX1 63 "OrganPegs$Organ" "past" "J", Cond.fieldLink RX1 67 "OrganPegs$Organ" "heard" "I", Cond.fieldLink RX1 70 "OrganPegs$Organ" "notes" "I"]
def wsL_undoes_r5 : List Cond := [Cond.fieldLink RX1 73 "OrganPegs$Organ" "lacks" "I", Cond.fieldLink RX1 76 "OrganPegs$Organ" "voids" "I", Cond.fieldLink RX1 36 "OrganPegs$Organ" "watched" "I", Cond.methodLink RX1 40 yX4_copyFrom, Cond.instanceMethod yX4_copyFrom, Cond.selects RX4 yX4_copyFrom yX4_copyFrom, Cond.initialized RX4, Cond.code yX4_copyFrom cX4_copyFrom 2 none, Cond.fieldLink RX4 28 "OrganPegs$Table" "lines" "I", Cond.fieldLink RX4 24 "OrganPegs$Table" "cells" "[I", Cond.static yX5_copyRow, Cond.code yX5_copyRow cX5_copyRow 2 none, Cond.methodLink RX5 294 Lib.Math.min.name, Cond.static Lib.Math.min.name, Cond.initialized "java/lang/Math", Cond.code Lib.Math.min.name Lib.Math.min.code 2 (some .int), Cond.methodLink RX5 299 arraycopyName, Cond.native arraycopyName, Cond.static arraycopyName, Cond.initialized "java/lang/System", Cond.methodLink RX5 76 yX0_forget, Cond.instanceMethod yX0_forget, Cond.selects RX0 yX0_forget yX0_forget, Cond.initialized RX0]
def wsL_undoes_r6 : List Cond := [Cond.code yX0_forget cX0_forget 1 none, Cond.fieldLink RX0 18 "OrganPegs$History" "count" "I", Cond.methodLink RX5 79 yX3_wipe, Cond.instanceMethod yX3_wipe, Cond.selects RX3 yX3_wipe yX3_wipe, Cond.initialized RX3, Cond.code yX3_wipe cX3_wipe 2 none, Cond.fieldLink RX3 17 "OrganPegs$Slots" "stored" "[Z", Cond.methodLink RX5 81 yX2_rewind, Cond.methodLink RX5 84 yX2_readCommand, Cond.methodLink RX5 87 yX5_obeysCommand, Cond.instanceMethod yX5_obeysCommand, Cond.selects RX5 yX5_obeysCommand yX5_obeysCommand, Cond.code yX5_obeysCommand cX5_obeysCommand 1 (some .boolean), Cond.methodLink RX5 104 yX1_orderPut, Cond.instanceMethod yX1_orderPut, Cond.selects RX1 yX1_orderPut yX1_orderPut, Cond.code yX1_orderPut cX1_orderPut 4 (some .int), Cond.static yX5_isLength, Cond.code yX5_isLength cX5_isLength 1 (some .boolean), Cond.methodLink RX1 118 yX1_addOrder, Cond.instanceMethod yX1_addOrder, Cond.selects RX1 yX1_addOrder yX1_addOrder, Cond.code yX1_addOrder cX1_addOrder 6 (some .int)]
def wsL_undoes_r7 : List Cond := [Cond.static yX5_isPipe, Cond.code yX5_isPipe cX5_isPipe 1 (some .boolean), Cond.static yX5_isBar, Cond.code yX5_isBar cX5_isBar 1 (some .boolean), Cond.methodLink RX1 125 yX4_isFull, Cond.instanceMethod yX4_isFull, Cond.selects RX4 yX4_isFull yX4_isFull, Cond.code yX4_isFull cX4_isFull 1 (some .boolean), Cond.fieldLink RX4 15 "OrganPegs$Table" "most" "I", Cond.methodLink RX1 129 yX4_addLine, Cond.instanceMethod yX4_addLine, Cond.selects RX4 yX4_addLine yX4_addLine, Cond.code yX4_addLine cX4_addLine 1 (some .int), Cond.methodLink RX4 35 yX4_isFull, Cond.methodLink RX1 133 yX4_write, Cond.instanceMethod yX4_write, Cond.selects RX4 yX4_write yX4_write, Cond.code yX4_write cX4_write 4 none, Cond.fieldLink RX4 21 "OrganPegs$Table" "columns" "I", Cond.methodLink RX4 31 yX4_hasCell, Cond.instanceMethod yX4_hasCell, Cond.selects RX4 yX4_hasCell yX4_hasCell, Cond.code yX4_hasCell cX4_hasCell 3 (some .boolean), Cond.methodLink RX5 108 yX1_orderPull]
def wsL_undoes_r8 : List Cond := [Cond.instanceMethod yX1_orderPull, Cond.selects RX1 yX1_orderPull yX1_orderPull, Cond.code yX1_orderPull cX1_orderPull 3 (some .int), Cond.methodLink RX5 112 yX1_change, Cond.instanceMethod yX1_change, Cond.selects RX1 yX1_change yX1_change, Cond.code yX1_change cX1_change 4 (some .int), Cond.static yX5_isSettingValue, Cond.code yX5_isSettingValue cX5_isSettingValue 2 (some .boolean), Cond.fieldLink RX5 225 "OrganPegs" "SETTING_MOST" "[I", Cond.methodLink RX5 178 yX5_isSetting, Cond.static yX5_isSetting, Cond.code yX5_isSetting cX5_isSetting 1 (some .boolean), Cond.methodLink RX5 115 yX1_play, Cond.instanceMethod yX1_play, Cond.selects RX1 yX1_play yX1_play, Cond.code yX1_play cX1_play 4 (some .int), Cond.methodLink RX1 153 Lib.Math.min.name, Cond.static yX5_isTicks, Cond.code yX5_isTicks cX5_isTicks 1 (some .boolean), Cond.methodLink RX1 150 yX1_turnCrank, Cond.instanceMethod yX1_turnCrank, Cond.selects RX1 yX1_turnCrank yX1_turnCrank, Cond.code yX1_turnCrank cX1_turnCrank 1 none]
def wsL_undoes_r9 : List Cond := [Cond.methodLink RX1 158 yX1_lookAtOrders, Cond.instanceMethod yX1_lookAtOrders, Cond.selects RX1 yX1_lookAtOrders yX1_lookAtOrders, Cond.code yX1_lookAtOrders cX1_lookAtOrders 4 none, Cond.methodLink RX1 164 yX1_goesOnWaiting, Cond.instanceMethod yX1_goesOnWaiting, Cond.selects RX1 yX1_goesOnWaiting yX1_goesOnWaiting, Cond.code yX1_goesOnWaiting cX1_goesOnWaiting 4 (some .boolean), Cond.methodLink RX1 102 yX4_at, Cond.instanceMethod yX4_at, Cond.selects RX4 yX4_at yX4_at, Cond.code yX4_at cX4_at 3 (some .int), Cond.static yX5_span, Cond.code yX5_span cX5_span 4 (some .int), Cond.constant RX5 293 (16777215), Cond.methodLink RX1 98 yX1_isOpen, Cond.instanceMethod yX1_isOpen, Cond.selects RX1 yX1_isOpen yX1_isOpen, Cond.code yX1_isOpen cX1_isOpen 3 (some .boolean), Cond.methodLink RX1 167 yX1_isPut, Cond.instanceMethod yX1_isPut, Cond.selects RX1 yX1_isPut yX1_isPut, Cond.code yX1_isPut cX1_isPut 2 (some .boolean), Cond.methodLink RX1 170 yX1_placePeg]
def wsL_undoes_r10 : List Cond := [Cond.instanceMethod yX1_placePeg, Cond.selects RX1 yX1_placePeg yX1_placePeg, Cond.code yX1_placePeg cX1_placePeg 7 (some .boolean), Cond.methodLink RX1 179 yX1_isFree, Cond.instanceMethod yX1_isFree, Cond.selects RX1 yX1_isFree yX1_isFree, Cond.code yX1_isFree cX1_isFree 3 (some .boolean), Cond.methodLink RX1 173 yX1_takePeg, Cond.instanceMethod yX1_takePeg, Cond.selects RX1 yX1_takePeg yX1_takePeg, Cond.code yX1_takePeg cX1_takePeg 5 (some .boolean), Cond.methodLink RX1 140 yX4_removeLine, Cond.instanceMethod yX4_removeLine, Cond.selects RX4 yX4_removeLine yX4_removeLine, Cond.code yX4_removeLine cX4_removeLine 3 none, Cond.methodLink RX4 43 arraycopyName, Cond.methodLink RX4 39 yX4_has, Cond.instanceMethod yX4_has, Cond.selects RX4 yX4_has yX4_has, Cond.code yX4_has cX4_has 2 (some .boolean), Cond.methodLink RX1 176 yX1_dropOrder, Cond.instanceMethod yX1_dropOrder, Cond.selects RX1 yX1_dropOrder yX1_dropOrder, Cond.code yX1_dropOrder cX1_dropOrder 2 (some .int)]
def wsL_undoes_r11 : List Cond := [Cond.methodLink RX1 137 yX4_has, Cond.methodLink RX1 161 yX1_blowPipes, Cond.instanceMethod yX1_blowPipes, Cond.selects RX1 yX1_blowPipes yX1_blowPipes, Cond.code yX1_blowPipes cX1_blowPipes 3 none, Cond.methodLink RX1 82 yX1_soundedAgo, Cond.instanceMethod yX1_soundedAgo, Cond.selects RX1 yX1_soundedAgo yX1_soundedAgo, Cond.code yX1_soundedAgo cX1_soundedAgo 2 (some .int), Cond.methodLink RX5 119 yX1_dropOrder, Cond.methodLink RL 103 yL_tryAbout, Cond.static yL_tryAbout, Cond.codeWith yL_tryAbout cL_tryAbout 3 (some .int) [(0, 5, 6, 13)], Cond.methodLink RL 31 yX5_about, Cond.instanceMethod yX5_about, Cond.selects RX5 yX5_about yX5_about, Cond.code yX5_about cX5_about 2 (some .int), Cond.methodLink RX5 124 yX1_tell, Cond.instanceMethod yX1_tell, Cond.selects RX1 yX1_tell yX1_tell, Cond.code yX1_tell cX1_tell 2 (some .int), Cond.methodLink RL 106 yL_tryPeg, Cond.static yL_tryPeg, Cond.codeWith yL_tryPeg cL_tryPeg 4 (some .int) [(0, 6, 7, 38), (0, 6, 11, 13)]]
def wsL_undoes_r12 : List Cond := [Cond.classLink RL 38 "java/lang/IndexOutOfBoundsException", Cond.constant RL 40 (-9999001), Cond.methodLink RL 34 yX5_pegOf, Cond.instanceMethod yX5_pegOf, Cond.selects RX5 yX5_pegOf yX5_pegOf, Cond.code yX5_pegOf cX5_pegOf 3 (some .int), Cond.classLink RX5 137 "java/lang/IndexOutOfBoundsException", Cond.initialized "java/lang/IndexOutOfBoundsException", Cond.methodLink RX5 131 yX4_has, Cond.methodLink RX5 144 yX4_at, Cond.methodLink RL 110 yL_tryOrder, Cond.static yL_tryOrder, Cond.codeWith yL_tryOrder cL_tryOrder 4 (some .int) [(0, 6, 7, 38), (0, 6, 11, 13)], Cond.methodLink RL 41 yX5_orderOf, Cond.instanceMethod yX5_orderOf, Cond.selects RX5 yX5_orderOf yX5_orderOf, Cond.code yX5_orderOf cX5_orderOf 3 (some .int), Cond.methodLink RL 113 yL_tryPipe, Cond.static yL_tryPipe, Cond.codeWith yL_tryPipe cL_tryPipe 4 (some .int) [(0, 6, 7, 38), (0, 6, 11, 13)], Cond.methodLink RL 44 yX5_pipeOf, Cond.instanceMethod yX5_pipeOf, Cond.selects RX5 yX5_pipeOf yX5_pipeOf, Cond.code yX5_pipeOf cX5_pipeOf 3 (some .int)]
def wsL_undoes_r13 : List Cond := [Cond.methodLink RX5 154 yX5_isPipe, Cond.methodLink RX5 159 yX1_tellOfPipe, Cond.instanceMethod yX1_tellOfPipe, Cond.selects RX1 yX1_tellOfPipe yX1_tellOfPipe, Cond.code yX1_tellOfPipe cX1_tellOfPipe 3 (some .int), Cond.methodLink RX1 90 yX1_pegsOfPipe, Cond.instanceMethod yX1_pegsOfPipe, Cond.selects RX1 yX1_pegsOfPipe yX1_pegsOfPipe, Cond.code yX1_pegsOfPipe cX1_pegsOfPipe 4 (some .int), Cond.methodLink RX1 93 yJ6_bitCount_0f7a4, Cond.static yJ6_bitCount_0f7a4, Cond.initialized RJ6, Cond.code yJ6_bitCount_0f7a4 cJ6_bitCount_0f7a4 1 (some .int), Cond.constant RJ6 265 (1431655765), Cond.constant RJ6 266 (858993459), Cond.constant RJ6 267 (252645135), Cond.methodLink RL 116 yL_tryChord, Cond.static yL_tryChord, Cond.codeWith yL_tryChord cL_tryChord 3 (some .int) [(0, 5, 6, 38)], Cond.methodLink RL 47 yX5_chord, Cond.instanceMethod yX5_chord, Cond.selects RX5 yX5_chord yX5_chord, Cond.code yX5_chord cX5_chord 2 (some .int), Cond.methodLink RX5 162 yX5_isBar]
def wsL_undoes_r14 : List Cond := [Cond.methodLink RX5 167 yX1_openPipes, Cond.instanceMethod yX1_openPipes, Cond.selects RX1 yX1_openPipes yX1_openPipes, Cond.code yX1_openPipes cX1_openPipes 4 (some .int), Cond.methodLink RL 119 yL_tryCovered, Cond.static yL_tryCovered, Cond.codeWith yL_tryCovered cL_tryCovered 3 (some .int) [(0, 5, 6, 13)], Cond.methodLink RL 50 yX5_covered, Cond.instanceMethod yX5_covered, Cond.selects RX5 yX5_covered yX5_covered, Cond.code yX5_covered cX5_covered 2 (some .int), Cond.methodLink RX5 172 yX1_coveredBars, Cond.instanceMethod yX1_coveredBars, Cond.selects RX1 yX1_coveredBars yX1_coveredBars, Cond.code yX1_coveredBars cX1_coveredBars 3 (some .int), Cond.methodLink RX1 112 yX1_openPipes, Cond.methodLink RX5 175 yX1_sumOfLengths, Cond.instanceMethod yX1_sumOfLengths, Cond.selects RX1 yX1_sumOfLengths yX1_sumOfLengths, Cond.code yX1_sumOfLengths cX1_sumOfLengths 3 (some .int), Cond.methodLink RL 122 yL_trySetting, Cond.static yL_trySetting, Cond.codeWith yL_trySetting cL_trySetting 3 (some .int) [(0, 5, 6, 13)], Cond.methodLink RL 53 yX5_setting]
def wsL_undoes_r15 : List Cond := [Cond.instanceMethod yX5_setting, Cond.selects RX5 yX5_setting yX5_setting, Cond.code yX5_setting cX5_setting 2 (some .int), Cond.methodLink RX5 183 yX1_settingOf, Cond.instanceMethod yX1_settingOf, Cond.selects RX1 yX1_settingOf yX1_settingOf, Cond.code yX1_settingOf cX1_settingOf 2 (some .int), Cond.methodLink RL 125 yL_tryPut, Cond.static yL_tryPut, Cond.codeWith yL_tryPut cL_tryPut 5 (some .int) [(0, 7, 8, 38), (0, 7, 13, 13), (0, 7, 18, 24)], Cond.methodLink RL 56 yX5_put, Cond.instanceMethod yX5_put, Cond.selects RX5 yX5_put yX5_put, Cond.code yX5_put cX5_put 4 (some .int), Cond.methodLink RX5 188 yX5_isLength, Cond.methodLink RX5 193 yX4_isFull, Cond.methodLink RX5 196 yX0_remember, Cond.instanceMethod yX0_remember, Cond.selects RX0 yX0_remember yX0_remember, Cond.code yX0_remember cX0_remember 2 none, Cond.fieldLink RX0 22 "OrganPegs$History" "next" "I", Cond.methodLink RX0 33 Lib.Math.min.name, Cond.methodLink RX0 25 yX0_stateAt, Cond.instanceMethod yX0_stateAt]
def wsL_undoes_r16 : List Cond := [Cond.selects RX0 yX0_stateAt yX0_stateAt, Cond.code yX0_stateAt cX0_stateAt 2 (some (.object "OrganPegs$Organ")), Cond.fieldLink RX0 11 "OrganPegs$History" "states" "[LOrganPegs$Organ;", Cond.methodLink RX0 29 yX1_copyFrom, Cond.methodLink RL 129 yL_tryPull, Cond.static yL_tryPull, Cond.codeWith yL_tryPull cL_tryPull 4 (some .int) [(0, 6, 7, 38), (0, 6, 11, 24)], Cond.methodLink RL 60 yX5_pull, Cond.instanceMethod yX5_pull, Cond.selects RX5 yX5_pull yX5_pull, Cond.code yX5_pull cX5_pull 3 (some .int), Cond.methodLink RL 132 yL_tryCancel, Cond.static yL_tryCancel, Cond.codeWith yL_tryCancel cL_tryCancel 3 (some .int) [(0, 5, 6, 38)], Cond.methodLink RL 63 yX5_cancel, Cond.instanceMethod yX5_cancel, Cond.selects RX5 yX5_cancel yX5_cancel, Cond.code yX5_cancel cX5_cancel 2 (some .int), Cond.methodLink RL 135 yL_tryTicks, Cond.static yL_tryTicks, Cond.codeWith yL_tryTicks cL_tryTicks 3 (some .int) [(0, 5, 6, 13)], Cond.methodLink RL 66 yX5_ticks, Cond.instanceMethod yX5_ticks, Cond.selects RX5 yX5_ticks yX5_ticks]
def wsL_undoes_r17 : List Cond := [Cond.code yX5_ticks cX5_ticks 2 (some .int), Cond.methodLink RX5 199 yX5_isTicks, Cond.methodLink RL 138 yL_tryLay, Cond.static yL_tryLay, Cond.codeWith yL_tryLay cL_tryLay 4 (some .int) [(0, 6, 7, 13)], Cond.methodLink RL 69 yX5_set, Cond.instanceMethod yX5_set, Cond.selects RX5 yX5_set yX5_set, Cond.code yX5_set cX5_set 3 (some .int), Cond.methodLink RX5 204 yX5_isSettingValue, Cond.methodLink RL 141 yL_tryUndo, Cond.static yL_tryUndo, Cond.codeWith yL_tryUndo cL_tryUndo 2 (some .int) [(0, 4, 5, 24)], Cond.methodLink RL 72 yX5_undo, Cond.instanceMethod yX5_undo, Cond.selects RX5 yX5_undo yX5_undo, Cond.code yX5_undo cX5_undo 1 (some .int), Cond.methodLink RX5 210 yX0_isEmpty, Cond.instanceMethod yX0_isEmpty, Cond.selects RX0 yX0_isEmpty yX0_isEmpty, Cond.code yX0_isEmpty cX0_isEmpty 1 (some .boolean), Cond.methodLink RX5 215 yX0_bringBack, Cond.instanceMethod yX0_bringBack, Cond.selects RX0 yX0_bringBack yX0_bringBack]
def wsL_undoes_r18 : List Cond := [Cond.code yX0_bringBack cX0_bringBack 2 (some .int), Cond.methodLink RL 144 yL_tryDone, Cond.static yL_tryDone, Cond.codeWith yL_tryDone cL_tryDone 3 (some .int) [(0, 5, 6, 38)], Cond.methodLink RL 75 yX5_doneIn, Cond.instanceMethod yX5_doneIn, Cond.selects RX5 yX5_doneIn yX5_doneIn, Cond.code yX5_doneIn cX5_doneIn 3 (some .int), Cond.fieldLink RX5 26 "OrganPegs" "trial" "LOrganPegs$Organ;", Cond.methodLink RL 147 yL_trySounds, Cond.static yL_trySounds, Cond.codeWith yL_trySounds cL_trySounds 3 (some .int) [(0, 5, 6, 38)], Cond.methodLink RL 78 yX5_soundsIn, Cond.instanceMethod yX5_soundsIn, Cond.selects RX5 yX5_soundsIn yX5_soundsIn, Cond.code yX5_soundsIn cX5_soundsIn 3 (some .int), Cond.methodLink RX5 222 yX1_soundedAgo, Cond.methodLink RL 150 yL_tryLeast, Cond.static yL_tryLeast, Cond.codeWith yL_tryLeast cL_tryLeast 3 (some .int) [(0, 5, 6, 13)], Cond.methodLink RL 81 yX5_leastSpeed, Cond.instanceMethod yX5_leastSpeed, Cond.selects RX5 yX5_leastSpeed yX5_leastSpeed, Cond.code yX5_leastSpeed cX5_leastSpeed 3 (some .int)]
def wsL_undoes_r19 : List Cond := [Cond.methodLink RL 153 yL_tryRoom, Cond.static yL_tryRoom, Cond.codeWith yL_tryRoom cL_tryRoom 4 (some .int) [(0, 6, 7, 38), (0, 6, 11, 13)], Cond.methodLink RL 84 yX5_room, Cond.instanceMethod yX5_room, Cond.selects RX5 yX5_room yX5_room, Cond.code yX5_room cX5_room 4 (some .int), Cond.methodLink RX5 237 yX5_span, Cond.methodLink RX5 240 yX1_isFree, Cond.methodLink RL 156 yL_tryKeep, Cond.static yL_tryKeep, Cond.codeWith yL_tryKeep cL_tryKeep 3 (some .int) [(0, 5, 6, 38)], Cond.methodLink RL 87 yX5_save, Cond.instanceMethod yX5_save, Cond.selects RX5 yX5_save yX5_save, Cond.code yX5_save cX5_save 2 (some .int), Cond.methodLink RX5 278 yX3_has, Cond.instanceMethod yX3_has, Cond.selects RX3 yX3_has yX3_has, Cond.code yX3_has cX3_has 2 (some .boolean), Cond.methodLink RX5 281 yX3_store, Cond.instanceMethod yX3_store, Cond.selects RX3 yX3_store yX3_store, Cond.code yX3_store cX3_store 3 none]
def wsL_undoes_r20 : List Cond := [Cond.fieldLink RX3 11 "OrganPegs$Slots" "states" "[LOrganPegs$Organ;", Cond.methodLink RX3 22 yX3_has, Cond.methodLink RX3 26 yX1_copyFrom, Cond.methodLink RL 159 yL_tryBack, Cond.static yL_tryBack, Cond.codeWith yL_tryBack cL_tryBack 3 (some .int) [(0, 5, 6, 38), (0, 5, 10, 24)], Cond.methodLink RL 90 yX5_restore, Cond.instanceMethod yX5_restore, Cond.selects RX5 yX5_restore yX5_restore, Cond.code yX5_restore cX5_restore 2 (some .int), Cond.methodLink RX5 285 yX3_isStored, Cond.instanceMethod yX3_isStored, Cond.selects RX3 yX3_isStored yX3_isStored, Cond.code yX3_isStored cX3_isStored 2 (some .boolean), Cond.methodLink RX5 290 yX3_fetch, Cond.instanceMethod yX3_fetch, Cond.selects RX3 yX3_fetch yX3_fetch, Cond.code yX3_fetch cX3_fetch 3 none, Cond.methodLink RL 214 yL_thrown, Cond.static yL_thrown, Cond.code yL_thrown cL_thrown 1 (some .boolean)]
def wsL_undoes : List Cond := .code yL_undoes cL_undoes 5 (some .boolean) :: ((wsL_undoes_r1 ++ (wsL_undoes_r2 ++ (wsL_undoes_r3 ++ (wsL_undoes_r4 ++ (wsL_undoes_r5 ++ (wsL_undoes_r6 ++ (wsL_undoes_r7 ++ (wsL_undoes_r8 ++ (wsL_undoes_r9 ++ (wsL_undoes_r10 ++ (wsL_undoes_r11 ++ (wsL_undoes_r12 ++ (wsL_undoes_r13 ++ (wsL_undoes_r14 ++ (wsL_undoes_r15 ++ (wsL_undoes_r16 ++ (wsL_undoes_r17 ++ (wsL_undoes_r18 ++ (wsL_undoes_r19 ++ wsL_undoes_r20))))))))))))))))))) ++ wsX50 ++ wsX20 ++ wsX10 ++ wsX40 ++ wsX00 ++ wsX30 ++ (vx_atS RX5 47 "java/lang/IllegalArgumentException" ["java/lang/RuntimeException", "java/lang/Exception"]).filter goodWord ++ (vx_atS RX5 58 "java/lang/IllegalStateException" ["java/lang/RuntimeException", "java/lang/Exception"]).filter goodWord ++ (vx_atS RX5 141 "java/lang/IndexOutOfBoundsException" ["java/lang/RuntimeException", "java/lang/Exception"]).filter goodWord)
def wsL_goes_r1 : List Cond := [Cond.methodLink RL 164 yL_call, Cond.static yL_call, Cond.initialized RL, Cond.code yL_call cL_call 5 (some .int), Cond.methodLink RL 93 yL_tryAppend, Cond.static yL_tryAppend, Cond.codeWith yL_tryAppend cL_tryAppend 3 (some .int) [(0, 5, 6, 13), (0, 5, 10, 24)], Cond.classLink RL 13 "java/lang/IllegalArgumentException", Cond.classLink RL 24 "java/lang/IllegalStateException", Cond.constant RL 15 (-9999002), Cond.constant RL 26 (-9999003), Cond.methodLink RL 20 yX5_append, Cond.instanceMethod yX5_append, Cond.selects RX5 yX5_append yX5_append, Cond.initialized RX5, Cond.code yX5_append cX5_append 2 (some .int), Cond.classLink RX5 43 "java/lang/IllegalArgumentException", Cond.initialized "java/lang/IllegalArgumentException", Cond.classLink RX5 54 "java/lang/IllegalStateException", Cond.initialized "java/lang/IllegalStateException", Cond.fieldLink RX5 10 "OrganPegs" "roll" "LOrganPegs$Roll;", Cond.methodLink RX5 50 yX2_isFull, Cond.instanceMethod yX2_isFull, Cond.selects RX2 yX2_isFull yX2_isFull]
def wsL_goes_r2 : List Cond := [Cond.initialized RX2, Cond.code yX2_isFull cX2_isFull 1 (some .boolean), Cond.fieldLink RX2 15 "OrganPegs$Roll" "length" "I", Cond.methodLink RX5 59 yX2_addCharacter, Cond.instanceMethod yX2_addCharacter, Cond.selects RX2 yX2_addCharacter yX2_addCharacter, Cond.code yX2_addCharacter cX2_addCharacter 2 (some .int), Cond.fieldLink RX2 9 "OrganPegs$Roll" "text" "[C", Cond.methodLink RL 99 yL_tryLoad, Cond.static yL_tryLoad, Cond.codeWith yL_tryLoad cL_tryLoad 2 (some .int) [(0, 4, 5, 24)], Cond.methodLink RL 27 yX5_load, Cond.instanceMethod yX5_load, Cond.selects RX5 yX5_load yX5_load, Cond.code yX5_load cX5_load 3 (some .int), Cond.fieldLink RX5 19 "OrganPegs" "organ" "LOrganPegs$Organ;", Cond.fieldLink RX5 23 "OrganPegs" "untouched" "LOrganPegs$Organ;", Cond.fieldLink RX5 32 "OrganPegs" "history" "LOrganPegs$History;", Cond.fieldLink RX5 39 "OrganPegs" "slots" "LOrganPegs$Slots;", Cond.methodLink RX5 67 yX2_firstWrong, Cond.instanceMethod yX2_firstWrong, Cond.selects RX2 yX2_firstWrong yX2_firstWrong, Cond.code yX2_firstWrong cX2_firstWrong 2 (some .int), Cond.fieldLink RX2 26 "OrganPegs$Roll" "wrong" "Z"]
def wsL_goes_r3 : List Cond := [Cond.fieldLink RX2 30 "OrganPegs$Roll" "position" "I", Cond.methodLink RX2 19 yX2_rewind, Cond.instanceMethod yX2_rewind, Cond.selects RX2 yX2_rewind yX2_rewind, Cond.code yX2_rewind cX2_rewind 1 none, Cond.methodLink RX2 33 yX2_here, Cond.instanceMethod yX2_here, Cond.selects RX2 yX2_here yX2_here, Cond.code yX2_here cX2_here 1 (some .char), Cond.methodLink RX2 22 yX2_readCommand, Cond.instanceMethod yX2_readCommand, Cond.selects RX2 yX2_readCommand yX2_readCommand, Cond.code yX2_readCommand cX2_readCommand 1 (some .boolean), Cond.fieldLink RX2 37 "OrganPegs$Roll" "letter" "C", Cond.methodLink RX2 41 yX2_readNumbers, Cond.instanceMethod yX2_readNumbers, Cond.selects RX2 yX2_readNumbers yX2_readNumbers, Cond.code yX2_readNumbers cX2_readNumbers 1 none, Cond.fieldLink RX2 48 "OrganPegs$Roll" "first" "I", Cond.fieldLink RX2 54 "OrganPegs$Roll" "second" "I", Cond.fieldLink RX2 57 "OrganPegs$Roll" "third" "I", Cond.methodLink RX2 44 yX2_digit, Cond.instanceMethod yX2_digit, Cond.selects RX2 yX2_digit yX2_digit]
def wsL_goes_r4 : List Cond := [Cond.code yX2_digit cX2_digit 4 (some .int), Cond.methodLink RX2 51 yX2_twoDigits, Cond.instanceMethod yX2_twoDigits, Cond.selects RX2 yX2_twoDigits yX2_twoDigits, Cond.code yX2_twoDigits cX2_twoDigits 6 (some .int), Cond.methodLink RX5 72 yX1_copyFrom, Cond.instanceMethod yX1_copyFrom, Cond.selects RX1 yX1_copyFrom yX1_copyFrom, Cond.initialized RX1, Cond.code yX1_copyFrom cX1_copyFrom 2 none, Cond.fieldLink RX1 16 "OrganPegs$Organ" "pegs" "LOrganPegs$Table;", Cond.fieldLink RX1 20 "OrganPegs$Organ" "orders" "LOrganPegs$Table;", Cond.fieldLink RX1 23 "OrganPegs$Organ" "covers" "[I", Cond.fieldLink RX1 27 "OrganPegs$Organ" "pipeNotes" "[I", Cond.fieldLink RX1 30 "OrganPegs$Organ" "pipeLacks" "[I", Cond.fieldLink RX1 33 "OrganPegs$Organ" "settings" "[I", Cond.fieldLink RX1 48 "OrganPegs$Organ" "time" "I", Cond.fieldLink RX1 51 "OrganPegs$Organ" "comb" "I", Cond.fieldLink RX1 54 "OrganPegs$Organ" "turns" "I", Cond.fieldLink RX1 57 "OrganPegs$Organ" "version" "I", Cond.fieldLink RX1 60 "OrganPegs$Organ" "wind" "I", Cond.fieldLink RX1 63 "OrganPegs$Organ" "past" "J", Cond.fieldLink RX1 67 "OrganPegs$Organ" "heard" "I", Cond.fieldLink RX1 70 "OrganPegs$Organ" "notes" "I"]
def wsL_goes_r5 : List Cond := [Cond.fieldLink RX1 73 "OrganPegs$Organ" "lacks" "I", Cond.fieldLink RX1 76 "OrganPegs$Organ" "voids" "I", Cond.fieldLink RX1 36 "OrganPegs$Organ" "watched" "I", Cond.methodLink RX1 40 yX4_copyFrom, Cond.instanceMethod yX4_copyFrom, Cond.selects RX4 yX4_copyFrom yX4_copyFrom, Cond.initialized RX4, Cond.code yX4_copyFrom cX4_copyFrom 2 none, Cond.fieldLink RX4 28 "OrganPegs$Table" "lines" "I", Cond.fieldLink RX4 24 "OrganPegs$Table" "cells" "[I", Cond.static yX5_copyRow, Cond.code yX5_copyRow cX5_copyRow 2 none, Cond.methodLink RX5 294 Lib.Math.min.name, Cond.static Lib.Math.min.name, Cond.initialized "java/lang/Math", Cond.code Lib.Math.min.name Lib.Math.min.code 2 (some .int), Cond.methodLink RX5 299 arraycopyName, Cond.native arraycopyName, Cond.static arraycopyName, Cond.initialized "java/lang/System", Cond.methodLink RX5 76 yX0_forget, Cond.instanceMethod yX0_forget, Cond.selects RX0 yX0_forget yX0_forget, Cond.initialized RX0]
def wsL_goes_r6 : List Cond := [Cond.code yX0_forget cX0_forget 1 none, Cond.fieldLink RX0 18 "OrganPegs$History" "count" "I", Cond.methodLink RX5 79 yX3_wipe, Cond.instanceMethod yX3_wipe, Cond.selects RX3 yX3_wipe yX3_wipe, Cond.initialized RX3, Cond.code yX3_wipe cX3_wipe 2 none, Cond.fieldLink RX3 17 "OrganPegs$Slots" "stored" "[Z", Cond.methodLink RX5 81 yX2_rewind, Cond.methodLink RX5 84 yX2_readCommand, Cond.methodLink RX5 87 yX5_obeysCommand, Cond.instanceMethod yX5_obeysCommand, Cond.selects RX5 yX5_obeysCommand yX5_obeysCommand, Cond.code yX5_obeysCommand cX5_obeysCommand 1 (some .boolean), Cond.methodLink RX5 104 yX1_orderPut, Cond.instanceMethod yX1_orderPut, Cond.selects RX1 yX1_orderPut yX1_orderPut, Cond.code yX1_orderPut cX1_orderPut 4 (some .int), Cond.static yX5_isLength, Cond.code yX5_isLength cX5_isLength 1 (some .boolean), Cond.methodLink RX1 118 yX1_addOrder, Cond.instanceMethod yX1_addOrder, Cond.selects RX1 yX1_addOrder yX1_addOrder, Cond.code yX1_addOrder cX1_addOrder 6 (some .int)]
def wsL_goes_r7 : List Cond := [Cond.static yX5_isPipe, Cond.code yX5_isPipe cX5_isPipe 1 (some .boolean), Cond.static yX5_isBar, Cond.code yX5_isBar cX5_isBar 1 (some .boolean), Cond.methodLink RX1 125 yX4_isFull, Cond.instanceMethod yX4_isFull, Cond.selects RX4 yX4_isFull yX4_isFull, Cond.code yX4_isFull cX4_isFull 1 (some .boolean), Cond.fieldLink RX4 15 "OrganPegs$Table" "most" "I", Cond.methodLink RX1 129 yX4_addLine, Cond.instanceMethod yX4_addLine, Cond.selects RX4 yX4_addLine yX4_addLine, Cond.code yX4_addLine cX4_addLine 1 (some .int), Cond.methodLink RX4 35 yX4_isFull, Cond.methodLink RX1 133 yX4_write, Cond.instanceMethod yX4_write, Cond.selects RX4 yX4_write yX4_write, Cond.code yX4_write cX4_write 4 none, Cond.fieldLink RX4 21 "OrganPegs$Table" "columns" "I", Cond.methodLink RX4 31 yX4_hasCell, Cond.instanceMethod yX4_hasCell, Cond.selects RX4 yX4_hasCell yX4_hasCell, Cond.code yX4_hasCell cX4_hasCell 3 (some .boolean), Cond.methodLink RX5 108 yX1_orderPull]
def wsL_goes_r8 : List Cond := [Cond.instanceMethod yX1_orderPull, Cond.selects RX1 yX1_orderPull yX1_orderPull, Cond.code yX1_orderPull cX1_orderPull 3 (some .int), Cond.methodLink RX5 112 yX1_change, Cond.instanceMethod yX1_change, Cond.selects RX1 yX1_change yX1_change, Cond.code yX1_change cX1_change 4 (some .int), Cond.static yX5_isSettingValue, Cond.code yX5_isSettingValue cX5_isSettingValue 2 (some .boolean), Cond.fieldLink RX5 225 "OrganPegs" "SETTING_MOST" "[I", Cond.methodLink RX5 178 yX5_isSetting, Cond.static yX5_isSetting, Cond.code yX5_isSetting cX5_isSetting 1 (some .boolean), Cond.methodLink RX5 115 yX1_play, Cond.instanceMethod yX1_play, Cond.selects RX1 yX1_play yX1_play, Cond.code yX1_play cX1_play 4 (some .int), Cond.methodLink RX1 153 Lib.Math.min.name, Cond.static yX5_isTicks, Cond.code yX5_isTicks cX5_isTicks 1 (some .boolean), Cond.methodLink RX1 150 yX1_turnCrank, Cond.instanceMethod yX1_turnCrank, Cond.selects RX1 yX1_turnCrank yX1_turnCrank, Cond.code yX1_turnCrank cX1_turnCrank 1 none]
def wsL_goes_r9 : List Cond := [Cond.methodLink RX1 158 yX1_lookAtOrders, Cond.instanceMethod yX1_lookAtOrders, Cond.selects RX1 yX1_lookAtOrders yX1_lookAtOrders, Cond.code yX1_lookAtOrders cX1_lookAtOrders 4 none, Cond.methodLink RX1 164 yX1_goesOnWaiting, Cond.instanceMethod yX1_goesOnWaiting, Cond.selects RX1 yX1_goesOnWaiting yX1_goesOnWaiting, Cond.code yX1_goesOnWaiting cX1_goesOnWaiting 4 (some .boolean), Cond.methodLink RX1 102 yX4_at, Cond.instanceMethod yX4_at, Cond.selects RX4 yX4_at yX4_at, Cond.code yX4_at cX4_at 3 (some .int), Cond.static yX5_span, Cond.code yX5_span cX5_span 4 (some .int), Cond.constant RX5 293 (16777215), Cond.methodLink RX1 98 yX1_isOpen, Cond.instanceMethod yX1_isOpen, Cond.selects RX1 yX1_isOpen yX1_isOpen, Cond.code yX1_isOpen cX1_isOpen 3 (some .boolean), Cond.methodLink RX1 167 yX1_isPut, Cond.instanceMethod yX1_isPut, Cond.selects RX1 yX1_isPut yX1_isPut, Cond.code yX1_isPut cX1_isPut 2 (some .boolean), Cond.methodLink RX1 170 yX1_placePeg]
def wsL_goes_r10 : List Cond := [Cond.instanceMethod yX1_placePeg, Cond.selects RX1 yX1_placePeg yX1_placePeg, Cond.code yX1_placePeg cX1_placePeg 7 (some .boolean), Cond.methodLink RX1 179 yX1_isFree, Cond.instanceMethod yX1_isFree, Cond.selects RX1 yX1_isFree yX1_isFree, Cond.code yX1_isFree cX1_isFree 3 (some .boolean), Cond.methodLink RX1 173 yX1_takePeg, Cond.instanceMethod yX1_takePeg, Cond.selects RX1 yX1_takePeg yX1_takePeg, Cond.code yX1_takePeg cX1_takePeg 5 (some .boolean), Cond.methodLink RX1 140 yX4_removeLine, Cond.instanceMethod yX4_removeLine, Cond.selects RX4 yX4_removeLine yX4_removeLine, Cond.code yX4_removeLine cX4_removeLine 3 none, Cond.methodLink RX4 43 arraycopyName, Cond.methodLink RX4 39 yX4_has, Cond.instanceMethod yX4_has, Cond.selects RX4 yX4_has yX4_has, Cond.code yX4_has cX4_has 2 (some .boolean), Cond.methodLink RX1 176 yX1_dropOrder, Cond.instanceMethod yX1_dropOrder, Cond.selects RX1 yX1_dropOrder yX1_dropOrder, Cond.code yX1_dropOrder cX1_dropOrder 2 (some .int)]
def wsL_goes_r11 : List Cond := [Cond.methodLink RX1 137 yX4_has, Cond.methodLink RX1 161 yX1_blowPipes, Cond.instanceMethod yX1_blowPipes, Cond.selects RX1 yX1_blowPipes yX1_blowPipes, Cond.code yX1_blowPipes cX1_blowPipes 3 none, Cond.methodLink RX1 82 yX1_soundedAgo, Cond.instanceMethod yX1_soundedAgo, Cond.selects RX1 yX1_soundedAgo yX1_soundedAgo, Cond.code yX1_soundedAgo cX1_soundedAgo 2 (some .int), Cond.methodLink RX5 119 yX1_dropOrder, Cond.methodLink RL 103 yL_tryAbout, Cond.static yL_tryAbout, Cond.codeWith yL_tryAbout cL_tryAbout 3 (some .int) [(0, 5, 6, 13)], Cond.methodLink RL 31 yX5_about, Cond.instanceMethod yX5_about, Cond.selects RX5 yX5_about yX5_about, Cond.code yX5_about cX5_about 2 (some .int), Cond.methodLink RX5 124 yX1_tell, Cond.instanceMethod yX1_tell, Cond.selects RX1 yX1_tell yX1_tell, Cond.code yX1_tell cX1_tell 2 (some .int), Cond.methodLink RL 106 yL_tryPeg, Cond.static yL_tryPeg, Cond.codeWith yL_tryPeg cL_tryPeg 4 (some .int) [(0, 6, 7, 38), (0, 6, 11, 13)]]
def wsL_goes_r12 : List Cond := [Cond.classLink RL 38 "java/lang/IndexOutOfBoundsException", Cond.constant RL 40 (-9999001), Cond.methodLink RL 34 yX5_pegOf, Cond.instanceMethod yX5_pegOf, Cond.selects RX5 yX5_pegOf yX5_pegOf, Cond.code yX5_pegOf cX5_pegOf 3 (some .int), Cond.classLink RX5 137 "java/lang/IndexOutOfBoundsException", Cond.initialized "java/lang/IndexOutOfBoundsException", Cond.methodLink RX5 131 yX4_has, Cond.methodLink RX5 144 yX4_at, Cond.methodLink RL 110 yL_tryOrder, Cond.static yL_tryOrder, Cond.codeWith yL_tryOrder cL_tryOrder 4 (some .int) [(0, 6, 7, 38), (0, 6, 11, 13)], Cond.methodLink RL 41 yX5_orderOf, Cond.instanceMethod yX5_orderOf, Cond.selects RX5 yX5_orderOf yX5_orderOf, Cond.code yX5_orderOf cX5_orderOf 3 (some .int), Cond.methodLink RL 113 yL_tryPipe, Cond.static yL_tryPipe, Cond.codeWith yL_tryPipe cL_tryPipe 4 (some .int) [(0, 6, 7, 38), (0, 6, 11, 13)], Cond.methodLink RL 44 yX5_pipeOf, Cond.instanceMethod yX5_pipeOf, Cond.selects RX5 yX5_pipeOf yX5_pipeOf, Cond.code yX5_pipeOf cX5_pipeOf 3 (some .int)]
def wsL_goes_r13 : List Cond := [Cond.methodLink RX5 154 yX5_isPipe, Cond.methodLink RX5 159 yX1_tellOfPipe, Cond.instanceMethod yX1_tellOfPipe, Cond.selects RX1 yX1_tellOfPipe yX1_tellOfPipe, Cond.code yX1_tellOfPipe cX1_tellOfPipe 3 (some .int), Cond.methodLink RX1 90 yX1_pegsOfPipe, Cond.instanceMethod yX1_pegsOfPipe, Cond.selects RX1 yX1_pegsOfPipe yX1_pegsOfPipe, Cond.code yX1_pegsOfPipe cX1_pegsOfPipe 4 (some .int), Cond.methodLink RX1 93 yJ6_bitCount_0f7a4, Cond.static yJ6_bitCount_0f7a4, Cond.initialized RJ6, Cond.code yJ6_bitCount_0f7a4 cJ6_bitCount_0f7a4 1 (some .int), Cond.constant RJ6 265 (1431655765), Cond.constant RJ6 266 (858993459), Cond.constant RJ6 267 (252645135), Cond.methodLink RL 116 yL_tryChord, Cond.static yL_tryChord, Cond.codeWith yL_tryChord cL_tryChord 3 (some .int) [(0, 5, 6, 38)], Cond.methodLink RL 47 yX5_chord, Cond.instanceMethod yX5_chord, Cond.selects RX5 yX5_chord yX5_chord, Cond.code yX5_chord cX5_chord 2 (some .int), Cond.methodLink RX5 162 yX5_isBar]
def wsL_goes_r14 : List Cond := [Cond.methodLink RX5 167 yX1_openPipes, Cond.instanceMethod yX1_openPipes, Cond.selects RX1 yX1_openPipes yX1_openPipes, Cond.code yX1_openPipes cX1_openPipes 4 (some .int), Cond.methodLink RL 119 yL_tryCovered, Cond.static yL_tryCovered, Cond.codeWith yL_tryCovered cL_tryCovered 3 (some .int) [(0, 5, 6, 13)], Cond.methodLink RL 50 yX5_covered, Cond.instanceMethod yX5_covered, Cond.selects RX5 yX5_covered yX5_covered, Cond.code yX5_covered cX5_covered 2 (some .int), Cond.methodLink RX5 172 yX1_coveredBars, Cond.instanceMethod yX1_coveredBars, Cond.selects RX1 yX1_coveredBars yX1_coveredBars, Cond.code yX1_coveredBars cX1_coveredBars 3 (some .int), Cond.methodLink RX1 112 yX1_openPipes, Cond.methodLink RX5 175 yX1_sumOfLengths, Cond.instanceMethod yX1_sumOfLengths, Cond.selects RX1 yX1_sumOfLengths yX1_sumOfLengths, Cond.code yX1_sumOfLengths cX1_sumOfLengths 3 (some .int), Cond.methodLink RL 122 yL_trySetting, Cond.static yL_trySetting, Cond.codeWith yL_trySetting cL_trySetting 3 (some .int) [(0, 5, 6, 13)], Cond.methodLink RL 53 yX5_setting]
def wsL_goes_r15 : List Cond := [Cond.instanceMethod yX5_setting, Cond.selects RX5 yX5_setting yX5_setting, Cond.code yX5_setting cX5_setting 2 (some .int), Cond.methodLink RX5 183 yX1_settingOf, Cond.instanceMethod yX1_settingOf, Cond.selects RX1 yX1_settingOf yX1_settingOf, Cond.code yX1_settingOf cX1_settingOf 2 (some .int), Cond.methodLink RL 125 yL_tryPut, Cond.static yL_tryPut, Cond.codeWith yL_tryPut cL_tryPut 5 (some .int) [(0, 7, 8, 38), (0, 7, 13, 13), (0, 7, 18, 24)], Cond.methodLink RL 56 yX5_put, Cond.instanceMethod yX5_put, Cond.selects RX5 yX5_put yX5_put, Cond.code yX5_put cX5_put 4 (some .int), Cond.methodLink RX5 188 yX5_isLength, Cond.methodLink RX5 193 yX4_isFull, Cond.methodLink RX5 196 yX0_remember, Cond.instanceMethod yX0_remember, Cond.selects RX0 yX0_remember yX0_remember, Cond.code yX0_remember cX0_remember 2 none, Cond.fieldLink RX0 22 "OrganPegs$History" "next" "I", Cond.methodLink RX0 33 Lib.Math.min.name, Cond.methodLink RX0 25 yX0_stateAt, Cond.instanceMethod yX0_stateAt]
def wsL_goes_r16 : List Cond := [Cond.selects RX0 yX0_stateAt yX0_stateAt, Cond.code yX0_stateAt cX0_stateAt 2 (some (.object "OrganPegs$Organ")), Cond.fieldLink RX0 11 "OrganPegs$History" "states" "[LOrganPegs$Organ;", Cond.methodLink RX0 29 yX1_copyFrom, Cond.methodLink RL 129 yL_tryPull, Cond.static yL_tryPull, Cond.codeWith yL_tryPull cL_tryPull 4 (some .int) [(0, 6, 7, 38), (0, 6, 11, 24)], Cond.methodLink RL 60 yX5_pull, Cond.instanceMethod yX5_pull, Cond.selects RX5 yX5_pull yX5_pull, Cond.code yX5_pull cX5_pull 3 (some .int), Cond.methodLink RL 132 yL_tryCancel, Cond.static yL_tryCancel, Cond.codeWith yL_tryCancel cL_tryCancel 3 (some .int) [(0, 5, 6, 38)], Cond.methodLink RL 63 yX5_cancel, Cond.instanceMethod yX5_cancel, Cond.selects RX5 yX5_cancel yX5_cancel, Cond.code yX5_cancel cX5_cancel 2 (some .int), Cond.methodLink RL 135 yL_tryTicks, Cond.static yL_tryTicks, Cond.codeWith yL_tryTicks cL_tryTicks 3 (some .int) [(0, 5, 6, 13)], Cond.methodLink RL 66 yX5_ticks, Cond.instanceMethod yX5_ticks, Cond.selects RX5 yX5_ticks yX5_ticks]
def wsL_goes_r17 : List Cond := [Cond.code yX5_ticks cX5_ticks 2 (some .int), Cond.methodLink RX5 199 yX5_isTicks, Cond.methodLink RL 138 yL_tryLay, Cond.static yL_tryLay, Cond.codeWith yL_tryLay cL_tryLay 4 (some .int) [(0, 6, 7, 13)], Cond.methodLink RL 69 yX5_set, Cond.instanceMethod yX5_set, Cond.selects RX5 yX5_set yX5_set, Cond.code yX5_set cX5_set 3 (some .int), Cond.methodLink RX5 204 yX5_isSettingValue, Cond.methodLink RL 141 yL_tryUndo, Cond.static yL_tryUndo, Cond.codeWith yL_tryUndo cL_tryUndo 2 (some .int) [(0, 4, 5, 24)], Cond.methodLink RL 72 yX5_undo, Cond.instanceMethod yX5_undo, Cond.selects RX5 yX5_undo yX5_undo, Cond.code yX5_undo cX5_undo 1 (some .int), Cond.methodLink RX5 210 yX0_isEmpty, Cond.instanceMethod yX0_isEmpty, Cond.selects RX0 yX0_isEmpty yX0_isEmpty, Cond.code yX0_isEmpty cX0_isEmpty 1 (some .boolean), Cond.methodLink RX5 215 yX0_bringBack, Cond.instanceMethod yX0_bringBack, Cond.selects RX0 yX0_bringBack yX0_bringBack]
def wsL_goes_r18 : List Cond := [Cond.code yX0_bringBack cX0_bringBack 2 (some .int), Cond.methodLink RL 144 yL_tryDone, Cond.static yL_tryDone, Cond.codeWith yL_tryDone cL_tryDone 3 (some .int) [(0, 5, 6, 38)], Cond.methodLink RL 75 yX5_doneIn, Cond.instanceMethod yX5_doneIn, Cond.selects RX5 yX5_doneIn yX5_doneIn, Cond.code yX5_doneIn cX5_doneIn 3 (some .int), Cond.fieldLink RX5 26 "OrganPegs" "trial" "LOrganPegs$Organ;", Cond.methodLink RL 147 yL_trySounds, Cond.static yL_trySounds, Cond.codeWith yL_trySounds cL_trySounds 3 (some .int) [(0, 5, 6, 38)], Cond.methodLink RL 78 yX5_soundsIn, Cond.instanceMethod yX5_soundsIn, Cond.selects RX5 yX5_soundsIn yX5_soundsIn, Cond.code yX5_soundsIn cX5_soundsIn 3 (some .int), Cond.methodLink RX5 222 yX1_soundedAgo, Cond.methodLink RL 150 yL_tryLeast, Cond.static yL_tryLeast, Cond.codeWith yL_tryLeast cL_tryLeast 3 (some .int) [(0, 5, 6, 13)], Cond.methodLink RL 81 yX5_leastSpeed, Cond.instanceMethod yX5_leastSpeed, Cond.selects RX5 yX5_leastSpeed yX5_leastSpeed, Cond.code yX5_leastSpeed cX5_leastSpeed 3 (some .int)]
def wsL_goes_r19 : List Cond := [Cond.methodLink RL 153 yL_tryRoom, Cond.static yL_tryRoom, Cond.codeWith yL_tryRoom cL_tryRoom 4 (some .int) [(0, 6, 7, 38), (0, 6, 11, 13)], Cond.methodLink RL 84 yX5_room, Cond.instanceMethod yX5_room, Cond.selects RX5 yX5_room yX5_room, Cond.code yX5_room cX5_room 4 (some .int), Cond.methodLink RX5 237 yX5_span, Cond.methodLink RX5 240 yX1_isFree, Cond.methodLink RL 156 yL_tryKeep, Cond.static yL_tryKeep, Cond.codeWith yL_tryKeep cL_tryKeep 3 (some .int) [(0, 5, 6, 38)], Cond.methodLink RL 87 yX5_save, Cond.instanceMethod yX5_save, Cond.selects RX5 yX5_save yX5_save, Cond.code yX5_save cX5_save 2 (some .int), Cond.methodLink RX5 278 yX3_has, Cond.instanceMethod yX3_has, Cond.selects RX3 yX3_has yX3_has, Cond.code yX3_has cX3_has 2 (some .boolean), Cond.methodLink RX5 281 yX3_store, Cond.instanceMethod yX3_store, Cond.selects RX3 yX3_store yX3_store, Cond.code yX3_store cX3_store 3 none]
def wsL_goes_r20 : List Cond := [Cond.fieldLink RX3 11 "OrganPegs$Slots" "states" "[LOrganPegs$Organ;", Cond.methodLink RX3 22 yX3_has, Cond.methodLink RX3 26 yX1_copyFrom, Cond.methodLink RL 159 yL_tryBack, Cond.static yL_tryBack, Cond.codeWith yL_tryBack cL_tryBack 3 (some .int) [(0, 5, 6, 38), (0, 5, 10, 24)], Cond.methodLink RL 90 yX5_restore, Cond.instanceMethod yX5_restore, Cond.selects RX5 yX5_restore yX5_restore, Cond.code yX5_restore cX5_restore 2 (some .int), Cond.methodLink RX5 285 yX3_isStored, Cond.instanceMethod yX3_isStored, Cond.selects RX3 yX3_isStored yX3_isStored, Cond.code yX3_isStored cX3_isStored 2 (some .boolean), Cond.methodLink RX5 290 yX3_fetch, Cond.instanceMethod yX3_fetch, Cond.selects RX3 yX3_fetch yX3_fetch, Cond.code yX3_fetch cX3_fetch 3 none, Cond.methodLink RL 218 yL_waits, Cond.static yL_waits, Cond.code yL_waits cL_waits 7 (some .boolean), Cond.methodLink RL 221 yL_undoes, Cond.static yL_undoes, Cond.code yL_undoes cL_undoes 5 (some .boolean)]
def wsL_goes_r21 : List Cond := [Cond.methodLink RL 214 yL_thrown, Cond.static yL_thrown, Cond.code yL_thrown cL_thrown 1 (some .boolean)]
def wsL_goes : List Cond := .code yL_goes cL_goes 14 (some .boolean) :: ((wsL_goes_r1 ++ (wsL_goes_r2 ++ (wsL_goes_r3 ++ (wsL_goes_r4 ++ (wsL_goes_r5 ++ (wsL_goes_r6 ++ (wsL_goes_r7 ++ (wsL_goes_r8 ++ (wsL_goes_r9 ++ (wsL_goes_r10 ++ (wsL_goes_r11 ++ (wsL_goes_r12 ++ (wsL_goes_r13 ++ (wsL_goes_r14 ++ (wsL_goes_r15 ++ (wsL_goes_r16 ++ (wsL_goes_r17 ++ (wsL_goes_r18 ++ (wsL_goes_r19 ++ (wsL_goes_r20 ++ wsL_goes_r21)))))))))))))))))))) ++ wsX50 ++ wsX20 ++ wsX10 ++ wsX40 ++ wsX00 ++ wsX30 ++ (vx_atS RX5 47 "java/lang/IllegalArgumentException" ["java/lang/RuntimeException", "java/lang/Exception"]).filter goodWord ++ (vx_atS RX5 58 "java/lang/IllegalStateException" ["java/lang/RuntimeException", "java/lang/Exception"]).filter goodWord ++ (vx_atS RX5 141 "java/lang/IndexOutOfBoundsException" ["java/lang/RuntimeException", "java/lang/Exception"]).filter goodWord)
def wsL_least_r1 : List Cond := [Cond.methodLink RL 164 yL_call, Cond.static yL_call, Cond.initialized RL, Cond.code yL_call cL_call 5 (some .int), Cond.methodLink RL 93 yL_tryAppend, Cond.static yL_tryAppend, Cond.codeWith yL_tryAppend cL_tryAppend 3 (some .int) [(0, 5, 6, 13), (0, 5, 10, 24)], Cond.classLink RL 13 "java/lang/IllegalArgumentException", Cond.classLink RL 24 "java/lang/IllegalStateException", Cond.constant RL 15 (-9999002), Cond.constant RL 26 (-9999003), Cond.methodLink RL 20 yX5_append, Cond.instanceMethod yX5_append, Cond.selects RX5 yX5_append yX5_append, Cond.initialized RX5, Cond.code yX5_append cX5_append 2 (some .int), Cond.classLink RX5 43 "java/lang/IllegalArgumentException", Cond.initialized "java/lang/IllegalArgumentException", Cond.classLink RX5 54 "java/lang/IllegalStateException", Cond.initialized "java/lang/IllegalStateException", Cond.fieldLink RX5 10 "OrganPegs" "roll" "LOrganPegs$Roll;", Cond.methodLink RX5 50 yX2_isFull, Cond.instanceMethod yX2_isFull, Cond.selects RX2 yX2_isFull yX2_isFull]
def wsL_least_r2 : List Cond := [Cond.initialized RX2, Cond.code yX2_isFull cX2_isFull 1 (some .boolean), Cond.fieldLink RX2 15 "OrganPegs$Roll" "length" "I", Cond.methodLink RX5 59 yX2_addCharacter, Cond.instanceMethod yX2_addCharacter, Cond.selects RX2 yX2_addCharacter yX2_addCharacter, Cond.code yX2_addCharacter cX2_addCharacter 2 (some .int), Cond.fieldLink RX2 9 "OrganPegs$Roll" "text" "[C", Cond.methodLink RL 99 yL_tryLoad, Cond.static yL_tryLoad, Cond.codeWith yL_tryLoad cL_tryLoad 2 (some .int) [(0, 4, 5, 24)], Cond.methodLink RL 27 yX5_load, Cond.instanceMethod yX5_load, Cond.selects RX5 yX5_load yX5_load, Cond.code yX5_load cX5_load 3 (some .int), Cond.fieldLink RX5 19 "OrganPegs" "organ" "LOrganPegs$Organ;", Cond.fieldLink RX5 23 "OrganPegs" "untouched" "LOrganPegs$Organ;", Cond.fieldLink RX5 32 "OrganPegs" "history" "LOrganPegs$History;", Cond.fieldLink RX5 39 "OrganPegs" "slots" "LOrganPegs$Slots;", Cond.methodLink RX5 67 yX2_firstWrong, Cond.instanceMethod yX2_firstWrong, Cond.selects RX2 yX2_firstWrong yX2_firstWrong, Cond.code yX2_firstWrong cX2_firstWrong 2 (some .int), Cond.fieldLink RX2 26 "OrganPegs$Roll" "wrong" "Z"]
def wsL_least_r3 : List Cond := [Cond.fieldLink RX2 30 "OrganPegs$Roll" "position" "I", Cond.methodLink RX2 19 yX2_rewind, Cond.instanceMethod yX2_rewind, Cond.selects RX2 yX2_rewind yX2_rewind, Cond.code yX2_rewind cX2_rewind 1 none, Cond.methodLink RX2 33 yX2_here, Cond.instanceMethod yX2_here, Cond.selects RX2 yX2_here yX2_here, Cond.code yX2_here cX2_here 1 (some .char), Cond.methodLink RX2 22 yX2_readCommand, Cond.instanceMethod yX2_readCommand, Cond.selects RX2 yX2_readCommand yX2_readCommand, Cond.code yX2_readCommand cX2_readCommand 1 (some .boolean), Cond.fieldLink RX2 37 "OrganPegs$Roll" "letter" "C", Cond.methodLink RX2 41 yX2_readNumbers, Cond.instanceMethod yX2_readNumbers, Cond.selects RX2 yX2_readNumbers yX2_readNumbers, Cond.code yX2_readNumbers cX2_readNumbers 1 none, Cond.fieldLink RX2 48 "OrganPegs$Roll" "first" "I", Cond.fieldLink RX2 54 "OrganPegs$Roll" "second" "I", Cond.fieldLink RX2 57 "OrganPegs$Roll" "third" "I", Cond.methodLink RX2 44 yX2_digit, Cond.instanceMethod yX2_digit, Cond.selects RX2 yX2_digit yX2_digit]
def wsL_least_r4 : List Cond := [Cond.code yX2_digit cX2_digit 4 (some .int), Cond.methodLink RX2 51 yX2_twoDigits, Cond.instanceMethod yX2_twoDigits, Cond.selects RX2 yX2_twoDigits yX2_twoDigits, Cond.code yX2_twoDigits cX2_twoDigits 6 (some .int), Cond.methodLink RX5 72 yX1_copyFrom, Cond.instanceMethod yX1_copyFrom, Cond.selects RX1 yX1_copyFrom yX1_copyFrom, Cond.initialized RX1, Cond.code yX1_copyFrom cX1_copyFrom 2 none, Cond.fieldLink RX1 16 "OrganPegs$Organ" "pegs" "LOrganPegs$Table;", Cond.fieldLink RX1 20 "OrganPegs$Organ" "orders" "LOrganPegs$Table;", Cond.fieldLink RX1 23 "OrganPegs$Organ" "covers" "[I", Cond.fieldLink RX1 27 "OrganPegs$Organ" "pipeNotes" "[I", Cond.fieldLink RX1 30 "OrganPegs$Organ" "pipeLacks" "[I", Cond.fieldLink RX1 33 "OrganPegs$Organ" "settings" "[I", Cond.fieldLink RX1 48 "OrganPegs$Organ" "time" "I", Cond.fieldLink RX1 51 "OrganPegs$Organ" "comb" "I", Cond.fieldLink RX1 54 "OrganPegs$Organ" "turns" "I", Cond.fieldLink RX1 57 "OrganPegs$Organ" "version" "I", Cond.fieldLink RX1 60 "OrganPegs$Organ" "wind" "I", Cond.fieldLink RX1 63 "OrganPegs$Organ" "past" "J", Cond.fieldLink RX1 67 "OrganPegs$Organ" "heard" "I", Cond.fieldLink RX1 70 "OrganPegs$Organ" "notes" "I"]
def wsL_least_r5 : List Cond := [Cond.fieldLink RX1 73 "OrganPegs$Organ" "lacks" "I", Cond.fieldLink RX1 76 "OrganPegs$Organ" "voids" "I", Cond.fieldLink RX1 36 "OrganPegs$Organ" "watched" "I", Cond.methodLink RX1 40 yX4_copyFrom, Cond.instanceMethod yX4_copyFrom, Cond.selects RX4 yX4_copyFrom yX4_copyFrom, Cond.initialized RX4, Cond.code yX4_copyFrom cX4_copyFrom 2 none, Cond.fieldLink RX4 28 "OrganPegs$Table" "lines" "I", Cond.fieldLink RX4 24 "OrganPegs$Table" "cells" "[I", Cond.static yX5_copyRow, Cond.code yX5_copyRow cX5_copyRow 2 none, Cond.methodLink RX5 294 Lib.Math.min.name, Cond.static Lib.Math.min.name, Cond.initialized "java/lang/Math", Cond.code Lib.Math.min.name Lib.Math.min.code 2 (some .int), Cond.methodLink RX5 299 arraycopyName, Cond.native arraycopyName, Cond.static arraycopyName, Cond.initialized "java/lang/System", Cond.methodLink RX5 76 yX0_forget, Cond.instanceMethod yX0_forget, Cond.selects RX0 yX0_forget yX0_forget, Cond.initialized RX0]
def wsL_least_r6 : List Cond := [Cond.code yX0_forget cX0_forget 1 none, Cond.fieldLink RX0 18 "OrganPegs$History" "count" "I", Cond.methodLink RX5 79 yX3_wipe, Cond.instanceMethod yX3_wipe, Cond.selects RX3 yX3_wipe yX3_wipe, Cond.initialized RX3, Cond.code yX3_wipe cX3_wipe 2 none, Cond.fieldLink RX3 17 "OrganPegs$Slots" "stored" "[Z", Cond.methodLink RX5 81 yX2_rewind, Cond.methodLink RX5 84 yX2_readCommand, Cond.methodLink RX5 87 yX5_obeysCommand, Cond.instanceMethod yX5_obeysCommand, Cond.selects RX5 yX5_obeysCommand yX5_obeysCommand, Cond.code yX5_obeysCommand cX5_obeysCommand 1 (some .boolean), Cond.methodLink RX5 104 yX1_orderPut, Cond.instanceMethod yX1_orderPut, Cond.selects RX1 yX1_orderPut yX1_orderPut, Cond.code yX1_orderPut cX1_orderPut 4 (some .int), Cond.static yX5_isLength, Cond.code yX5_isLength cX5_isLength 1 (some .boolean), Cond.methodLink RX1 118 yX1_addOrder, Cond.instanceMethod yX1_addOrder, Cond.selects RX1 yX1_addOrder yX1_addOrder, Cond.code yX1_addOrder cX1_addOrder 6 (some .int)]
def wsL_least_r7 : List Cond := [Cond.static yX5_isPipe, Cond.code yX5_isPipe cX5_isPipe 1 (some .boolean), Cond.static yX5_isBar, Cond.code yX5_isBar cX5_isBar 1 (some .boolean), Cond.methodLink RX1 125 yX4_isFull, Cond.instanceMethod yX4_isFull, Cond.selects RX4 yX4_isFull yX4_isFull, Cond.code yX4_isFull cX4_isFull 1 (some .boolean), Cond.fieldLink RX4 15 "OrganPegs$Table" "most" "I", Cond.methodLink RX1 129 yX4_addLine, Cond.instanceMethod yX4_addLine, Cond.selects RX4 yX4_addLine yX4_addLine, Cond.code yX4_addLine cX4_addLine 1 (some .int), Cond.methodLink RX4 35 yX4_isFull, Cond.methodLink RX1 133 yX4_write, Cond.instanceMethod yX4_write, Cond.selects RX4 yX4_write yX4_write, Cond.code yX4_write cX4_write 4 none, Cond.fieldLink RX4 21 "OrganPegs$Table" "columns" "I", Cond.methodLink RX4 31 yX4_hasCell, Cond.instanceMethod yX4_hasCell, Cond.selects RX4 yX4_hasCell yX4_hasCell, Cond.code yX4_hasCell cX4_hasCell 3 (some .boolean), Cond.methodLink RX5 108 yX1_orderPull]
def wsL_least_r8 : List Cond := [Cond.instanceMethod yX1_orderPull, Cond.selects RX1 yX1_orderPull yX1_orderPull, Cond.code yX1_orderPull cX1_orderPull 3 (some .int), Cond.methodLink RX5 112 yX1_change, Cond.instanceMethod yX1_change, Cond.selects RX1 yX1_change yX1_change, Cond.code yX1_change cX1_change 4 (some .int), Cond.static yX5_isSettingValue, Cond.code yX5_isSettingValue cX5_isSettingValue 2 (some .boolean), Cond.fieldLink RX5 225 "OrganPegs" "SETTING_MOST" "[I", Cond.methodLink RX5 178 yX5_isSetting, Cond.static yX5_isSetting, Cond.code yX5_isSetting cX5_isSetting 1 (some .boolean), Cond.methodLink RX5 115 yX1_play, Cond.instanceMethod yX1_play, Cond.selects RX1 yX1_play yX1_play, Cond.code yX1_play cX1_play 4 (some .int), Cond.methodLink RX1 153 Lib.Math.min.name, Cond.static yX5_isTicks, Cond.code yX5_isTicks cX5_isTicks 1 (some .boolean), Cond.methodLink RX1 150 yX1_turnCrank, Cond.instanceMethod yX1_turnCrank, Cond.selects RX1 yX1_turnCrank yX1_turnCrank, Cond.code yX1_turnCrank cX1_turnCrank 1 none]
def wsL_least_r9 : List Cond := [Cond.methodLink RX1 158 yX1_lookAtOrders, Cond.instanceMethod yX1_lookAtOrders, Cond.selects RX1 yX1_lookAtOrders yX1_lookAtOrders, Cond.code yX1_lookAtOrders cX1_lookAtOrders 4 none, Cond.methodLink RX1 164 yX1_goesOnWaiting, Cond.instanceMethod yX1_goesOnWaiting, Cond.selects RX1 yX1_goesOnWaiting yX1_goesOnWaiting, Cond.code yX1_goesOnWaiting cX1_goesOnWaiting 4 (some .boolean), Cond.methodLink RX1 102 yX4_at, Cond.instanceMethod yX4_at, Cond.selects RX4 yX4_at yX4_at, Cond.code yX4_at cX4_at 3 (some .int), Cond.static yX5_span, Cond.code yX5_span cX5_span 4 (some .int), Cond.constant RX5 293 (16777215), Cond.methodLink RX1 98 yX1_isOpen, Cond.instanceMethod yX1_isOpen, Cond.selects RX1 yX1_isOpen yX1_isOpen, Cond.code yX1_isOpen cX1_isOpen 3 (some .boolean), Cond.methodLink RX1 167 yX1_isPut, Cond.instanceMethod yX1_isPut, Cond.selects RX1 yX1_isPut yX1_isPut, Cond.code yX1_isPut cX1_isPut 2 (some .boolean), Cond.methodLink RX1 170 yX1_placePeg]
def wsL_least_r10 : List Cond := [Cond.instanceMethod yX1_placePeg, Cond.selects RX1 yX1_placePeg yX1_placePeg, Cond.code yX1_placePeg cX1_placePeg 7 (some .boolean), Cond.methodLink RX1 179 yX1_isFree, Cond.instanceMethod yX1_isFree, Cond.selects RX1 yX1_isFree yX1_isFree, Cond.code yX1_isFree cX1_isFree 3 (some .boolean), Cond.methodLink RX1 173 yX1_takePeg, Cond.instanceMethod yX1_takePeg, Cond.selects RX1 yX1_takePeg yX1_takePeg, Cond.code yX1_takePeg cX1_takePeg 5 (some .boolean), Cond.methodLink RX1 140 yX4_removeLine, Cond.instanceMethod yX4_removeLine, Cond.selects RX4 yX4_removeLine yX4_removeLine, Cond.code yX4_removeLine cX4_removeLine 3 none, Cond.methodLink RX4 43 arraycopyName, Cond.methodLink RX4 39 yX4_has, Cond.instanceMethod yX4_has, Cond.selects RX4 yX4_has yX4_has, Cond.code yX4_has cX4_has 2 (some .boolean), Cond.methodLink RX1 176 yX1_dropOrder, Cond.instanceMethod yX1_dropOrder, Cond.selects RX1 yX1_dropOrder yX1_dropOrder, Cond.code yX1_dropOrder cX1_dropOrder 2 (some .int)]
def wsL_least_r11 : List Cond := [Cond.methodLink RX1 137 yX4_has, Cond.methodLink RX1 161 yX1_blowPipes, Cond.instanceMethod yX1_blowPipes, Cond.selects RX1 yX1_blowPipes yX1_blowPipes, Cond.code yX1_blowPipes cX1_blowPipes 3 none, Cond.methodLink RX1 82 yX1_soundedAgo, Cond.instanceMethod yX1_soundedAgo, Cond.selects RX1 yX1_soundedAgo yX1_soundedAgo, Cond.code yX1_soundedAgo cX1_soundedAgo 2 (some .int), Cond.methodLink RX5 119 yX1_dropOrder, Cond.methodLink RL 103 yL_tryAbout, Cond.static yL_tryAbout, Cond.codeWith yL_tryAbout cL_tryAbout 3 (some .int) [(0, 5, 6, 13)], Cond.methodLink RL 31 yX5_about, Cond.instanceMethod yX5_about, Cond.selects RX5 yX5_about yX5_about, Cond.code yX5_about cX5_about 2 (some .int), Cond.methodLink RX5 124 yX1_tell, Cond.instanceMethod yX1_tell, Cond.selects RX1 yX1_tell yX1_tell, Cond.code yX1_tell cX1_tell 2 (some .int), Cond.methodLink RL 106 yL_tryPeg, Cond.static yL_tryPeg, Cond.codeWith yL_tryPeg cL_tryPeg 4 (some .int) [(0, 6, 7, 38), (0, 6, 11, 13)]]
def wsL_least_r12 : List Cond := [Cond.classLink RL 38 "java/lang/IndexOutOfBoundsException", Cond.constant RL 40 (-9999001), Cond.methodLink RL 34 yX5_pegOf, Cond.instanceMethod yX5_pegOf, Cond.selects RX5 yX5_pegOf yX5_pegOf, Cond.code yX5_pegOf cX5_pegOf 3 (some .int), Cond.classLink RX5 137 "java/lang/IndexOutOfBoundsException", Cond.initialized "java/lang/IndexOutOfBoundsException", Cond.methodLink RX5 131 yX4_has, Cond.methodLink RX5 144 yX4_at, Cond.methodLink RL 110 yL_tryOrder, Cond.static yL_tryOrder, Cond.codeWith yL_tryOrder cL_tryOrder 4 (some .int) [(0, 6, 7, 38), (0, 6, 11, 13)], Cond.methodLink RL 41 yX5_orderOf, Cond.instanceMethod yX5_orderOf, Cond.selects RX5 yX5_orderOf yX5_orderOf, Cond.code yX5_orderOf cX5_orderOf 3 (some .int), Cond.methodLink RL 113 yL_tryPipe, Cond.static yL_tryPipe, Cond.codeWith yL_tryPipe cL_tryPipe 4 (some .int) [(0, 6, 7, 38), (0, 6, 11, 13)], Cond.methodLink RL 44 yX5_pipeOf, Cond.instanceMethod yX5_pipeOf, Cond.selects RX5 yX5_pipeOf yX5_pipeOf, Cond.code yX5_pipeOf cX5_pipeOf 3 (some .int)]
def wsL_least_r13 : List Cond := [Cond.methodLink RX5 154 yX5_isPipe, Cond.methodLink RX5 159 yX1_tellOfPipe, Cond.instanceMethod yX1_tellOfPipe, Cond.selects RX1 yX1_tellOfPipe yX1_tellOfPipe, Cond.code yX1_tellOfPipe cX1_tellOfPipe 3 (some .int), Cond.methodLink RX1 90 yX1_pegsOfPipe, Cond.instanceMethod yX1_pegsOfPipe, Cond.selects RX1 yX1_pegsOfPipe yX1_pegsOfPipe, Cond.code yX1_pegsOfPipe cX1_pegsOfPipe 4 (some .int), Cond.methodLink RX1 93 yJ6_bitCount_0f7a4, Cond.static yJ6_bitCount_0f7a4, Cond.initialized RJ6, Cond.code yJ6_bitCount_0f7a4 cJ6_bitCount_0f7a4 1 (some .int), Cond.constant RJ6 265 (1431655765), Cond.constant RJ6 266 (858993459), Cond.constant RJ6 267 (252645135), Cond.methodLink RL 116 yL_tryChord, Cond.static yL_tryChord, Cond.codeWith yL_tryChord cL_tryChord 3 (some .int) [(0, 5, 6, 38)], Cond.methodLink RL 47 yX5_chord, Cond.instanceMethod yX5_chord, Cond.selects RX5 yX5_chord yX5_chord, Cond.code yX5_chord cX5_chord 2 (some .int), Cond.methodLink RX5 162 yX5_isBar]
def wsL_least_r14 : List Cond := [Cond.methodLink RX5 167 yX1_openPipes, Cond.instanceMethod yX1_openPipes, Cond.selects RX1 yX1_openPipes yX1_openPipes, Cond.code yX1_openPipes cX1_openPipes 4 (some .int), Cond.methodLink RL 119 yL_tryCovered, Cond.static yL_tryCovered, Cond.codeWith yL_tryCovered cL_tryCovered 3 (some .int) [(0, 5, 6, 13)], Cond.methodLink RL 50 yX5_covered, Cond.instanceMethod yX5_covered, Cond.selects RX5 yX5_covered yX5_covered, Cond.code yX5_covered cX5_covered 2 (some .int), Cond.methodLink RX5 172 yX1_coveredBars, Cond.instanceMethod yX1_coveredBars, Cond.selects RX1 yX1_coveredBars yX1_coveredBars, Cond.code yX1_coveredBars cX1_coveredBars 3 (some .int), Cond.methodLink RX1 112 yX1_openPipes, Cond.methodLink RX5 175 yX1_sumOfLengths, Cond.instanceMethod yX1_sumOfLengths, Cond.selects RX1 yX1_sumOfLengths yX1_sumOfLengths, Cond.code yX1_sumOfLengths cX1_sumOfLengths 3 (some .int), Cond.methodLink RL 122 yL_trySetting, Cond.static yL_trySetting, Cond.codeWith yL_trySetting cL_trySetting 3 (some .int) [(0, 5, 6, 13)], Cond.methodLink RL 53 yX5_setting]
def wsL_least_r15 : List Cond := [Cond.instanceMethod yX5_setting, Cond.selects RX5 yX5_setting yX5_setting, Cond.code yX5_setting cX5_setting 2 (some .int), Cond.methodLink RX5 183 yX1_settingOf, Cond.instanceMethod yX1_settingOf, Cond.selects RX1 yX1_settingOf yX1_settingOf, Cond.code yX1_settingOf cX1_settingOf 2 (some .int), Cond.methodLink RL 125 yL_tryPut, Cond.static yL_tryPut, Cond.codeWith yL_tryPut cL_tryPut 5 (some .int) [(0, 7, 8, 38), (0, 7, 13, 13), (0, 7, 18, 24)], Cond.methodLink RL 56 yX5_put, Cond.instanceMethod yX5_put, Cond.selects RX5 yX5_put yX5_put, Cond.code yX5_put cX5_put 4 (some .int), Cond.methodLink RX5 188 yX5_isLength, Cond.methodLink RX5 193 yX4_isFull, Cond.methodLink RX5 196 yX0_remember, Cond.instanceMethod yX0_remember, Cond.selects RX0 yX0_remember yX0_remember, Cond.code yX0_remember cX0_remember 2 none, Cond.fieldLink RX0 22 "OrganPegs$History" "next" "I", Cond.methodLink RX0 33 Lib.Math.min.name, Cond.methodLink RX0 25 yX0_stateAt, Cond.instanceMethod yX0_stateAt]
def wsL_least_r16 : List Cond := [Cond.selects RX0 yX0_stateAt yX0_stateAt, Cond.code yX0_stateAt cX0_stateAt 2 (some (.object "OrganPegs$Organ")), Cond.fieldLink RX0 11 "OrganPegs$History" "states" "[LOrganPegs$Organ;", Cond.methodLink RX0 29 yX1_copyFrom, Cond.methodLink RL 129 yL_tryPull, Cond.static yL_tryPull, Cond.codeWith yL_tryPull cL_tryPull 4 (some .int) [(0, 6, 7, 38), (0, 6, 11, 24)], Cond.methodLink RL 60 yX5_pull, Cond.instanceMethod yX5_pull, Cond.selects RX5 yX5_pull yX5_pull, Cond.code yX5_pull cX5_pull 3 (some .int), Cond.methodLink RL 132 yL_tryCancel, Cond.static yL_tryCancel, Cond.codeWith yL_tryCancel cL_tryCancel 3 (some .int) [(0, 5, 6, 38)], Cond.methodLink RL 63 yX5_cancel, Cond.instanceMethod yX5_cancel, Cond.selects RX5 yX5_cancel yX5_cancel, Cond.code yX5_cancel cX5_cancel 2 (some .int), Cond.methodLink RL 135 yL_tryTicks, Cond.static yL_tryTicks, Cond.codeWith yL_tryTicks cL_tryTicks 3 (some .int) [(0, 5, 6, 13)], Cond.methodLink RL 66 yX5_ticks, Cond.instanceMethod yX5_ticks, Cond.selects RX5 yX5_ticks yX5_ticks]
def wsL_least_r17 : List Cond := [Cond.code yX5_ticks cX5_ticks 2 (some .int), Cond.methodLink RX5 199 yX5_isTicks, Cond.methodLink RL 138 yL_tryLay, Cond.static yL_tryLay, Cond.codeWith yL_tryLay cL_tryLay 4 (some .int) [(0, 6, 7, 13)], Cond.methodLink RL 69 yX5_set, Cond.instanceMethod yX5_set, Cond.selects RX5 yX5_set yX5_set, Cond.code yX5_set cX5_set 3 (some .int), Cond.methodLink RX5 204 yX5_isSettingValue, Cond.methodLink RL 141 yL_tryUndo, Cond.static yL_tryUndo, Cond.codeWith yL_tryUndo cL_tryUndo 2 (some .int) [(0, 4, 5, 24)], Cond.methodLink RL 72 yX5_undo, Cond.instanceMethod yX5_undo, Cond.selects RX5 yX5_undo yX5_undo, Cond.code yX5_undo cX5_undo 1 (some .int), Cond.methodLink RX5 210 yX0_isEmpty, Cond.instanceMethod yX0_isEmpty, Cond.selects RX0 yX0_isEmpty yX0_isEmpty, Cond.code yX0_isEmpty cX0_isEmpty 1 (some .boolean), Cond.methodLink RX5 215 yX0_bringBack, Cond.instanceMethod yX0_bringBack, Cond.selects RX0 yX0_bringBack yX0_bringBack]
def wsL_least_r18 : List Cond := [Cond.code yX0_bringBack cX0_bringBack 2 (some .int), Cond.methodLink RL 144 yL_tryDone, Cond.static yL_tryDone, Cond.codeWith yL_tryDone cL_tryDone 3 (some .int) [(0, 5, 6, 38)], Cond.methodLink RL 75 yX5_doneIn, Cond.instanceMethod yX5_doneIn, Cond.selects RX5 yX5_doneIn yX5_doneIn, Cond.code yX5_doneIn cX5_doneIn 3 (some .int), Cond.fieldLink RX5 26 "OrganPegs" "trial" "LOrganPegs$Organ;", Cond.methodLink RL 147 yL_trySounds, Cond.static yL_trySounds, Cond.codeWith yL_trySounds cL_trySounds 3 (some .int) [(0, 5, 6, 38)], Cond.methodLink RL 78 yX5_soundsIn, Cond.instanceMethod yX5_soundsIn, Cond.selects RX5 yX5_soundsIn yX5_soundsIn, Cond.code yX5_soundsIn cX5_soundsIn 3 (some .int), Cond.methodLink RX5 222 yX1_soundedAgo, Cond.methodLink RL 150 yL_tryLeast, Cond.static yL_tryLeast, Cond.codeWith yL_tryLeast cL_tryLeast 3 (some .int) [(0, 5, 6, 13)], Cond.methodLink RL 81 yX5_leastSpeed, Cond.instanceMethod yX5_leastSpeed, Cond.selects RX5 yX5_leastSpeed yX5_leastSpeed, Cond.code yX5_leastSpeed cX5_leastSpeed 3 (some .int)]
def wsL_least_r19 : List Cond := [Cond.methodLink RL 153 yL_tryRoom, Cond.static yL_tryRoom, Cond.codeWith yL_tryRoom cL_tryRoom 4 (some .int) [(0, 6, 7, 38), (0, 6, 11, 13)], Cond.methodLink RL 84 yX5_room, Cond.instanceMethod yX5_room, Cond.selects RX5 yX5_room yX5_room, Cond.code yX5_room cX5_room 4 (some .int), Cond.methodLink RX5 237 yX5_span, Cond.methodLink RX5 240 yX1_isFree, Cond.methodLink RL 156 yL_tryKeep, Cond.static yL_tryKeep, Cond.codeWith yL_tryKeep cL_tryKeep 3 (some .int) [(0, 5, 6, 38)], Cond.methodLink RL 87 yX5_save, Cond.instanceMethod yX5_save, Cond.selects RX5 yX5_save yX5_save, Cond.code yX5_save cX5_save 2 (some .int), Cond.methodLink RX5 278 yX3_has, Cond.instanceMethod yX3_has, Cond.selects RX3 yX3_has yX3_has, Cond.code yX3_has cX3_has 2 (some .boolean), Cond.methodLink RX5 281 yX3_store, Cond.instanceMethod yX3_store, Cond.selects RX3 yX3_store yX3_store, Cond.code yX3_store cX3_store 3 none]
def wsL_least_r20 : List Cond := [Cond.fieldLink RX3 11 "OrganPegs$Slots" "states" "[LOrganPegs$Organ;", Cond.methodLink RX3 22 yX3_has, Cond.methodLink RX3 26 yX1_copyFrom, Cond.methodLink RL 159 yL_tryBack, Cond.static yL_tryBack, Cond.codeWith yL_tryBack cL_tryBack 3 (some .int) [(0, 5, 6, 38), (0, 5, 10, 24)], Cond.methodLink RL 90 yX5_restore, Cond.instanceMethod yX5_restore, Cond.selects RX5 yX5_restore yX5_restore, Cond.code yX5_restore cX5_restore 2 (some .int), Cond.methodLink RX5 285 yX3_isStored, Cond.instanceMethod yX3_isStored, Cond.selects RX3 yX3_isStored yX3_isStored, Cond.code yX3_isStored cX3_isStored 2 (some .boolean), Cond.methodLink RX5 290 yX3_fetch, Cond.instanceMethod yX3_fetch, Cond.selects RX3 yX3_fetch yX3_fetch, Cond.code yX3_fetch cX3_fetch 3 none, Cond.methodLink RL 218 yL_waits, Cond.static yL_waits, Cond.code yL_waits cL_waits 7 (some .boolean), Cond.methodLink RL 221 yL_undoes, Cond.static yL_undoes, Cond.code yL_undoes cL_undoes 5 (some .boolean)]
def wsL_least_r21 : List Cond := [Cond.methodLink RL 214 yL_thrown, Cond.static yL_thrown, Cond.code yL_thrown cL_thrown 1 (some .boolean)]
def wsL_least : List Cond := .code yL_least cL_least 10 (some .boolean) :: ((wsL_least_r1 ++ (wsL_least_r2 ++ (wsL_least_r3 ++ (wsL_least_r4 ++ (wsL_least_r5 ++ (wsL_least_r6 ++ (wsL_least_r7 ++ (wsL_least_r8 ++ (wsL_least_r9 ++ (wsL_least_r10 ++ (wsL_least_r11 ++ (wsL_least_r12 ++ (wsL_least_r13 ++ (wsL_least_r14 ++ (wsL_least_r15 ++ (wsL_least_r16 ++ (wsL_least_r17 ++ (wsL_least_r18 ++ (wsL_least_r19 ++ (wsL_least_r20 ++ wsL_least_r21)))))))))))))))))))) ++ wsX50 ++ wsX20 ++ wsX10 ++ wsX40 ++ wsX00 ++ wsX30 ++ (vx_atS RX5 47 "java/lang/IllegalArgumentException" ["java/lang/RuntimeException", "java/lang/Exception"]).filter goodWord ++ (vx_atS RX5 58 "java/lang/IllegalStateException" ["java/lang/RuntimeException", "java/lang/Exception"]).filter goodWord ++ (vx_atS RX5 141 "java/lang/IndexOutOfBoundsException" ["java/lang/RuntimeException", "java/lang/Exception"]).filter goodWord)
def wsL_law0_r1 : List Cond := [Cond.classLink RL 8 RX5, Cond.instantiable RX5 6, Cond.initialized RX5, Cond.constant RL 196 (100000), Cond.methodLink RL 188 yX5_init, Cond.instanceMethod yX5_init, Cond.code yX5_init cX5_init 1 none, Cond.methodLink RX5 1 objectInit, Cond.instanceMethod objectInit, Cond.code objectInit ⟨#[0xb1]⟩ 1 none, Cond.classLink RX5 7 RX2, Cond.instantiable RX2 8, Cond.initialized RX2, Cond.fieldLink RX5 10 "OrganPegs" "roll" "LOrganPegs$Roll;", Cond.classLink RX5 16 RX1, Cond.instantiable RX1 17, Cond.initialized RX1, Cond.fieldLink RX5 19 "OrganPegs" "organ" "LOrganPegs$Organ;", Cond.fieldLink RX5 23 "OrganPegs" "untouched" "LOrganPegs$Organ;", Cond.fieldLink RX5 26 "OrganPegs" "trial" "LOrganPegs$Organ;", Cond.classLink RX5 29 RX0, Cond.instantiable RX0 3, Cond.initialized RX0, Cond.fieldLink RX5 32 "OrganPegs" "history" "LOrganPegs$History;"]
def wsL_law0_r2 : List Cond := [Cond.classLink RX5 36 RX3, Cond.instantiable RX3 2, Cond.initialized RX3, Cond.fieldLink RX5 39 "OrganPegs" "slots" "LOrganPegs$Slots;", Cond.instanceMethod yX2_init, Cond.code yX2_init cX2_init 1 none, Cond.methodLink RX2 3 objectInit, Cond.arrayClass .char, Cond.fieldLink RX2 9 "OrganPegs$Roll" "text" "[C", Cond.instanceMethod yX1_init, Cond.code yX1_init cX1_init 1 none, Cond.methodLink RX1 3 objectInit, Cond.classLink RX1 9 RX4, Cond.instantiable RX4 4, Cond.initialized RX4, Cond.fieldLink RX1 16 "OrganPegs$Organ" "pegs" "LOrganPegs$Table;", Cond.fieldLink RX1 20 "OrganPegs$Organ" "orders" "LOrganPegs$Table;", Cond.arrayClass .int, Cond.fieldLink RX1 23 "OrganPegs$Organ" "covers" "[I", Cond.fieldLink RX1 27 "OrganPegs$Organ" "pipeNotes" "[I", Cond.fieldLink RX1 30 "OrganPegs$Organ" "pipeLacks" "[I", Cond.fieldLink RX1 33 "OrganPegs$Organ" "settings" "[I", Cond.fieldLink RX1 36 "OrganPegs$Organ" "watched" "I", Cond.methodLink RX1 13 yX4_init]
def wsL_law0_r3 : List Cond := [Cond.instanceMethod yX4_init, Cond.code yX4_init cX4_init 3 none, Cond.methodLink RX4 3 objectInit, Cond.methodLink RX4 9 Lib.Math.max.name, Cond.static Lib.Math.max.name, Cond.initialized "java/lang/Math", Cond.code Lib.Math.max.name Lib.Math.max.code 2 (some .int), Cond.fieldLink RX4 15 "OrganPegs$Table" "most" "I", Cond.fieldLink RX4 21 "OrganPegs$Table" "columns" "I", Cond.fieldLink RX4 24 "OrganPegs$Table" "cells" "[I", Cond.methodLink RX5 31 yX0_init, Cond.instanceMethod yX0_init, Cond.code yX0_init cX0_init 2 none, Cond.methodLink RX0 3 objectInit, Cond.classLink RX0 9 RX1, Cond.fieldLink RX0 11 "OrganPegs$History" "states" "[LOrganPegs$Organ;", Cond.methodLink RX5 38 yX3_init, Cond.instanceMethod yX3_init, Cond.code yX3_init cX3_init 2 none, Cond.methodLink RX3 3 objectInit, Cond.classLink RX3 9 RX1, Cond.fieldLink RX3 11 "OrganPegs$Slots" "states" "[LOrganPegs$Organ;", Cond.arrayClass .boolean, Cond.fieldLink RX3 17 "OrganPegs$Slots" "stored" "[Z"]
def wsL_law0_r4 : List Cond := [Cond.methodLink RL 189 yL_cell, Cond.static yL_cell, Cond.initialized RL, Cond.code yL_cell cL_cell 2 (some .int), Cond.constant RL 162 (15520067), Cond.constant RL 163 (2147483647), Cond.methodLink RL 193 yL_act, Cond.static yL_act, Cond.code yL_act cL_act 4 (some .int), Cond.methodLink RL 164 yL_call, Cond.static yL_call, Cond.code yL_call cL_call 5 (some .int), Cond.methodLink RL 93 yL_tryAppend, Cond.static yL_tryAppend, Cond.codeWith yL_tryAppend cL_tryAppend 3 (some .int) [(0, 5, 6, 13), (0, 5, 10, 24)], Cond.classLink RL 13 "java/lang/IllegalArgumentException", Cond.classLink RL 24 "java/lang/IllegalStateException", Cond.constant RL 15 (-9999002), Cond.constant RL 26 (-9999003), Cond.methodLink RL 20 yX5_append, Cond.instanceMethod yX5_append, Cond.selects RX5 yX5_append yX5_append, Cond.code yX5_append cX5_append 2 (some .int), Cond.classLink RX5 43 "java/lang/IllegalArgumentException"]
def wsL_law0_r5 : List Cond := [Cond.initialized "java/lang/IllegalArgumentException", Cond.classLink RX5 54 "java/lang/IllegalStateException", Cond.initialized "java/lang/IllegalStateException", Cond.methodLink RX5 50 yX2_isFull, Cond.instanceMethod yX2_isFull, Cond.selects RX2 yX2_isFull yX2_isFull, Cond.code yX2_isFull cX2_isFull 1 (some .boolean), Cond.fieldLink RX2 15 "OrganPegs$Roll" "length" "I", Cond.methodLink RX5 59 yX2_addCharacter, Cond.instanceMethod yX2_addCharacter, Cond.selects RX2 yX2_addCharacter yX2_addCharacter, Cond.code yX2_addCharacter cX2_addCharacter 2 (some .int), Cond.methodLink RL 99 yL_tryLoad, Cond.static yL_tryLoad, Cond.codeWith yL_tryLoad cL_tryLoad 2 (some .int) [(0, 4, 5, 24)], Cond.methodLink RL 27 yX5_load, Cond.instanceMethod yX5_load, Cond.selects RX5 yX5_load yX5_load, Cond.code yX5_load cX5_load 3 (some .int), Cond.methodLink RX5 67 yX2_firstWrong, Cond.instanceMethod yX2_firstWrong, Cond.selects RX2 yX2_firstWrong yX2_firstWrong, Cond.code yX2_firstWrong cX2_firstWrong 2 (some .int), Cond.fieldLink RX2 26 "OrganPegs$Roll" "wrong" "Z"]
def wsL_law0_r6 : List Cond := [Cond.fieldLink RX2 30 "OrganPegs$Roll" "position" "I", Cond.methodLink RX2 19 yX2_rewind, Cond.instanceMethod yX2_rewind, Cond.selects RX2 yX2_rewind yX2_rewind, Cond.code yX2_rewind cX2_rewind 1 none, Cond.methodLink RX2 33 yX2_here, Cond.instanceMethod yX2_here, Cond.selects RX2 yX2_here yX2_here, Cond.code yX2_here cX2_here 1 (some .char), Cond.methodLink RX2 22 yX2_readCommand, Cond.instanceMethod yX2_readCommand, Cond.selects RX2 yX2_readCommand yX2_readCommand, Cond.code yX2_readCommand cX2_readCommand 1 (some .boolean), Cond.fieldLink RX2 37 "OrganPegs$Roll" "letter" "C", Cond.methodLink RX2 41 yX2_readNumbers, Cond.instanceMethod yX2_readNumbers, Cond.selects RX2 yX2_readNumbers yX2_readNumbers, Cond.code yX2_readNumbers cX2_readNumbers 1 none, Cond.fieldLink RX2 48 "OrganPegs$Roll" "first" "I", Cond.fieldLink RX2 54 "OrganPegs$Roll" "second" "I", Cond.fieldLink RX2 57 "OrganPegs$Roll" "third" "I", Cond.methodLink RX2 44 yX2_digit, Cond.instanceMethod yX2_digit, Cond.selects RX2 yX2_digit yX2_digit]
def wsL_law0_r7 : List Cond := [Cond.code yX2_digit cX2_digit 4 (some .int), Cond.methodLink RX2 51 yX2_twoDigits, Cond.instanceMethod yX2_twoDigits, Cond.selects RX2 yX2_twoDigits yX2_twoDigits, Cond.code yX2_twoDigits cX2_twoDigits 6 (some .int), Cond.methodLink RX5 72 yX1_copyFrom, Cond.instanceMethod yX1_copyFrom, Cond.selects RX1 yX1_copyFrom yX1_copyFrom, Cond.code yX1_copyFrom cX1_copyFrom 2 none, Cond.fieldLink RX1 48 "OrganPegs$Organ" "time" "I", Cond.fieldLink RX1 51 "OrganPegs$Organ" "comb" "I", Cond.fieldLink RX1 54 "OrganPegs$Organ" "turns" "I", Cond.fieldLink RX1 57 "OrganPegs$Organ" "version" "I", Cond.fieldLink RX1 60 "OrganPegs$Organ" "wind" "I", Cond.fieldLink RX1 63 "OrganPegs$Organ" "past" "J", Cond.fieldLink RX1 67 "OrganPegs$Organ" "heard" "I", Cond.fieldLink RX1 70 "OrganPegs$Organ" "notes" "I", Cond.fieldLink RX1 73 "OrganPegs$Organ" "lacks" "I", Cond.fieldLink RX1 76 "OrganPegs$Organ" "voids" "I", Cond.methodLink RX1 40 yX4_copyFrom, Cond.instanceMethod yX4_copyFrom, Cond.selects RX4 yX4_copyFrom yX4_copyFrom, Cond.code yX4_copyFrom cX4_copyFrom 2 none, Cond.fieldLink RX4 28 "OrganPegs$Table" "lines" "I"]
def wsL_law0_r8 : List Cond := [Cond.static yX5_copyRow, Cond.code yX5_copyRow cX5_copyRow 2 none, Cond.methodLink RX5 294 Lib.Math.min.name, Cond.static Lib.Math.min.name, Cond.code Lib.Math.min.name Lib.Math.min.code 2 (some .int), Cond.methodLink RX5 299 arraycopyName, Cond.native arraycopyName, Cond.static arraycopyName, Cond.initialized "java/lang/System", Cond.methodLink RX5 76 yX0_forget, Cond.instanceMethod yX0_forget, Cond.selects RX0 yX0_forget yX0_forget, Cond.code yX0_forget cX0_forget 1 none, Cond.fieldLink RX0 18 "OrganPegs$History" "count" "I", Cond.methodLink RX5 79 yX3_wipe, Cond.instanceMethod yX3_wipe, Cond.selects RX3 yX3_wipe yX3_wipe, Cond.code yX3_wipe cX3_wipe 2 none, Cond.methodLink RX5 81 yX2_rewind, Cond.methodLink RX5 84 yX2_readCommand, Cond.methodLink RX5 87 yX5_obeysCommand, Cond.instanceMethod yX5_obeysCommand, Cond.selects RX5 yX5_obeysCommand yX5_obeysCommand, Cond.code yX5_obeysCommand cX5_obeysCommand 1 (some .boolean)]
def wsL_law0_r9 : List Cond := [Cond.methodLink RX5 104 yX1_orderPut, Cond.instanceMethod yX1_orderPut, Cond.selects RX1 yX1_orderPut yX1_orderPut, Cond.code yX1_orderPut cX1_orderPut 4 (some .int), Cond.static yX5_isLength, Cond.code yX5_isLength cX5_isLength 1 (some .boolean), Cond.methodLink RX1 118 yX1_addOrder, Cond.instanceMethod yX1_addOrder, Cond.selects RX1 yX1_addOrder yX1_addOrder, Cond.code yX1_addOrder cX1_addOrder 6 (some .int), Cond.static yX5_isPipe, Cond.code yX5_isPipe cX5_isPipe 1 (some .boolean), Cond.static yX5_isBar, Cond.code yX5_isBar cX5_isBar 1 (some .boolean), Cond.methodLink RX1 125 yX4_isFull, Cond.instanceMethod yX4_isFull, Cond.selects RX4 yX4_isFull yX4_isFull, Cond.code yX4_isFull cX4_isFull 1 (some .boolean), Cond.methodLink RX1 129 yX4_addLine, Cond.instanceMethod yX4_addLine, Cond.selects RX4 yX4_addLine yX4_addLine, Cond.code yX4_addLine cX4_addLine 1 (some .int), Cond.methodLink RX4 35 yX4_isFull, Cond.methodLink RX1 133 yX4_write]
def wsL_law0_r10 : List Cond := [Cond.instanceMethod yX4_write, Cond.selects RX4 yX4_write yX4_write, Cond.code yX4_write cX4_write 4 none, Cond.methodLink RX4 31 yX4_hasCell, Cond.instanceMethod yX4_hasCell, Cond.selects RX4 yX4_hasCell yX4_hasCell, Cond.code yX4_hasCell cX4_hasCell 3 (some .boolean), Cond.methodLink RX5 108 yX1_orderPull, Cond.instanceMethod yX1_orderPull, Cond.selects RX1 yX1_orderPull yX1_orderPull, Cond.code yX1_orderPull cX1_orderPull 3 (some .int), Cond.methodLink RX5 112 yX1_change, Cond.instanceMethod yX1_change, Cond.selects RX1 yX1_change yX1_change, Cond.code yX1_change cX1_change 4 (some .int), Cond.static yX5_isSettingValue, Cond.code yX5_isSettingValue cX5_isSettingValue 2 (some .boolean), Cond.fieldLink RX5 225 "OrganPegs" "SETTING_MOST" "[I", Cond.methodLink RX5 178 yX5_isSetting, Cond.static yX5_isSetting, Cond.code yX5_isSetting cX5_isSetting 1 (some .boolean), Cond.methodLink RX5 115 yX1_play, Cond.instanceMethod yX1_play, Cond.selects RX1 yX1_play yX1_play]
def wsL_law0_r11 : List Cond := [Cond.code yX1_play cX1_play 4 (some .int), Cond.methodLink RX1 153 Lib.Math.min.name, Cond.static yX5_isTicks, Cond.code yX5_isTicks cX5_isTicks 1 (some .boolean), Cond.methodLink RX1 150 yX1_turnCrank, Cond.instanceMethod yX1_turnCrank, Cond.selects RX1 yX1_turnCrank yX1_turnCrank, Cond.code yX1_turnCrank cX1_turnCrank 1 none, Cond.methodLink RX1 158 yX1_lookAtOrders, Cond.instanceMethod yX1_lookAtOrders, Cond.selects RX1 yX1_lookAtOrders yX1_lookAtOrders, Cond.code yX1_lookAtOrders cX1_lookAtOrders 4 none, Cond.methodLink RX1 164 yX1_goesOnWaiting, Cond.instanceMethod yX1_goesOnWaiting, Cond.selects RX1 yX1_goesOnWaiting yX1_goesOnWaiting, Cond.code yX1_goesOnWaiting cX1_goesOnWaiting 4 (some .boolean), Cond.methodLink RX1 102 yX4_at, Cond.instanceMethod yX4_at, Cond.selects RX4 yX4_at yX4_at, Cond.code yX4_at cX4_at 3 (some .int), Cond.static yX5_span, Cond.code yX5_span cX5_span 4 (some .int), Cond.constant RX5 293 (16777215), Cond.methodLink RX1 98 yX1_isOpen]
def wsL_law0_r12 : List Cond := [Cond.instanceMethod yX1_isOpen, Cond.selects RX1 yX1_isOpen yX1_isOpen, Cond.code yX1_isOpen cX1_isOpen 3 (some .boolean), Cond.methodLink RX1 167 yX1_isPut, Cond.instanceMethod yX1_isPut, Cond.selects RX1 yX1_isPut yX1_isPut, Cond.code yX1_isPut cX1_isPut 2 (some .boolean), Cond.methodLink RX1 170 yX1_placePeg, Cond.instanceMethod yX1_placePeg, Cond.selects RX1 yX1_placePeg yX1_placePeg, Cond.code yX1_placePeg cX1_placePeg 7 (some .boolean), Cond.methodLink RX1 179 yX1_isFree, Cond.instanceMethod yX1_isFree, Cond.selects RX1 yX1_isFree yX1_isFree, Cond.code yX1_isFree cX1_isFree 3 (some .boolean), Cond.methodLink RX1 173 yX1_takePeg, Cond.instanceMethod yX1_takePeg, Cond.selects RX1 yX1_takePeg yX1_takePeg, Cond.code yX1_takePeg cX1_takePeg 5 (some .boolean), Cond.methodLink RX1 140 yX4_removeLine, Cond.instanceMethod yX4_removeLine, Cond.selects RX4 yX4_removeLine yX4_removeLine, Cond.code yX4_removeLine cX4_removeLine 3 none, Cond.methodLink RX4 43 arraycopyName]
def wsL_law0_r13 : List Cond := [Cond.methodLink RX4 39 yX4_has, Cond.instanceMethod yX4_has, Cond.selects RX4 yX4_has yX4_has, Cond.code yX4_has cX4_has 2 (some .boolean), Cond.methodLink RX1 176 yX1_dropOrder, Cond.instanceMethod yX1_dropOrder, Cond.selects RX1 yX1_dropOrder yX1_dropOrder, Cond.code yX1_dropOrder cX1_dropOrder 2 (some .int), Cond.methodLink RX1 137 yX4_has, Cond.methodLink RX1 161 yX1_blowPipes, Cond.instanceMethod yX1_blowPipes, Cond.selects RX1 yX1_blowPipes yX1_blowPipes, Cond.code yX1_blowPipes cX1_blowPipes 3 none, Cond.methodLink RX1 82 yX1_soundedAgo, Cond.instanceMethod yX1_soundedAgo, Cond.selects RX1 yX1_soundedAgo yX1_soundedAgo, Cond.code yX1_soundedAgo cX1_soundedAgo 2 (some .int), Cond.methodLink RX5 119 yX1_dropOrder, Cond.methodLink RL 103 yL_tryAbout, Cond.static yL_tryAbout, Cond.codeWith yL_tryAbout cL_tryAbout 3 (some .int) [(0, 5, 6, 13)], Cond.methodLink RL 31 yX5_about, Cond.instanceMethod yX5_about, Cond.selects RX5 yX5_about yX5_about]
def wsL_law0_r14 : List Cond := [Cond.code yX5_about cX5_about 2 (some .int), Cond.methodLink RX5 124 yX1_tell, Cond.instanceMethod yX1_tell, Cond.selects RX1 yX1_tell yX1_tell, Cond.code yX1_tell cX1_tell 2 (some .int), Cond.methodLink RL 106 yL_tryPeg, Cond.static yL_tryPeg, Cond.codeWith yL_tryPeg cL_tryPeg 4 (some .int) [(0, 6, 7, 38), (0, 6, 11, 13)], Cond.classLink RL 38 "java/lang/IndexOutOfBoundsException", Cond.constant RL 40 (-9999001), Cond.methodLink RL 34 yX5_pegOf, Cond.instanceMethod yX5_pegOf, Cond.selects RX5 yX5_pegOf yX5_pegOf, Cond.code yX5_pegOf cX5_pegOf 3 (some .int), Cond.classLink RX5 137 "java/lang/IndexOutOfBoundsException", Cond.initialized "java/lang/IndexOutOfBoundsException", Cond.methodLink RX5 131 yX4_has, Cond.methodLink RX5 144 yX4_at, Cond.methodLink RL 110 yL_tryOrder, Cond.static yL_tryOrder, Cond.codeWith yL_tryOrder cL_tryOrder 4 (some .int) [(0, 6, 7, 38), (0, 6, 11, 13)], Cond.methodLink RL 41 yX5_orderOf, Cond.instanceMethod yX5_orderOf, Cond.selects RX5 yX5_orderOf yX5_orderOf]
def wsL_law0_r15 : List Cond := [Cond.code yX5_orderOf cX5_orderOf 3 (some .int), Cond.methodLink RL 113 yL_tryPipe, Cond.static yL_tryPipe, Cond.codeWith yL_tryPipe cL_tryPipe 4 (some .int) [(0, 6, 7, 38), (0, 6, 11, 13)], Cond.methodLink RL 44 yX5_pipeOf, Cond.instanceMethod yX5_pipeOf, Cond.selects RX5 yX5_pipeOf yX5_pipeOf, Cond.code yX5_pipeOf cX5_pipeOf 3 (some .int), Cond.methodLink RX5 154 yX5_isPipe, Cond.methodLink RX5 159 yX1_tellOfPipe, Cond.instanceMethod yX1_tellOfPipe, Cond.selects RX1 yX1_tellOfPipe yX1_tellOfPipe, Cond.code yX1_tellOfPipe cX1_tellOfPipe 3 (some .int), Cond.methodLink RX1 90 yX1_pegsOfPipe, Cond.instanceMethod yX1_pegsOfPipe, Cond.selects RX1 yX1_pegsOfPipe yX1_pegsOfPipe, Cond.code yX1_pegsOfPipe cX1_pegsOfPipe 4 (some .int), Cond.methodLink RX1 93 yJ6_bitCount_0f7a4, Cond.static yJ6_bitCount_0f7a4, Cond.initialized RJ6, Cond.code yJ6_bitCount_0f7a4 cJ6_bitCount_0f7a4 1 (some .int), Cond.constant RJ6 265 (1431655765), Cond.constant RJ6 266 (858993459), Cond.constant RJ6 267 (252645135)]
def wsL_law0_r16 : List Cond := [Cond.methodLink RL 116 yL_tryChord, Cond.static yL_tryChord, Cond.codeWith yL_tryChord cL_tryChord 3 (some .int) [(0, 5, 6, 38)], Cond.methodLink RL 47 yX5_chord, Cond.instanceMethod yX5_chord, Cond.selects RX5 yX5_chord yX5_chord, Cond.code yX5_chord cX5_chord 2 (some .int), Cond.methodLink RX5 162 yX5_isBar, Cond.methodLink RX5 167 yX1_openPipes, Cond.instanceMethod yX1_openPipes, Cond.selects RX1 yX1_openPipes yX1_openPipes, Cond.code yX1_openPipes cX1_openPipes 4 (some .int), Cond.methodLink RL 119 yL_tryCovered, Cond.static yL_tryCovered, Cond.codeWith yL_tryCovered cL_tryCovered 3 (some .int) [(0, 5, 6, 13)], Cond.methodLink RL 50 yX5_covered, Cond.instanceMethod yX5_covered, Cond.selects RX5 yX5_covered yX5_covered, Cond.code yX5_covered cX5_covered 2 (some .int), Cond.methodLink RX5 172 yX1_coveredBars, Cond.instanceMethod yX1_coveredBars, Cond.selects RX1 yX1_coveredBars yX1_coveredBars, Cond.code yX1_coveredBars cX1_coveredBars 3 (some .int), Cond.methodLink RX1 112 yX1_openPipes]
def wsL_law0_r17 : List Cond := [Cond.methodLink RX5 175 yX1_sumOfLengths, Cond.instanceMethod yX1_sumOfLengths, Cond.selects RX1 yX1_sumOfLengths yX1_sumOfLengths, Cond.code yX1_sumOfLengths cX1_sumOfLengths 3 (some .int), Cond.methodLink RL 122 yL_trySetting, Cond.static yL_trySetting, Cond.codeWith yL_trySetting cL_trySetting 3 (some .int) [(0, 5, 6, 13)], Cond.methodLink RL 53 yX5_setting, Cond.instanceMethod yX5_setting, Cond.selects RX5 yX5_setting yX5_setting, Cond.code yX5_setting cX5_setting 2 (some .int), Cond.methodLink RX5 183 yX1_settingOf, Cond.instanceMethod yX1_settingOf, Cond.selects RX1 yX1_settingOf yX1_settingOf, Cond.code yX1_settingOf cX1_settingOf 2 (some .int), Cond.methodLink RL 125 yL_tryPut, Cond.static yL_tryPut, Cond.codeWith yL_tryPut cL_tryPut 5 (some .int) [(0, 7, 8, 38), (0, 7, 13, 13), (0, 7, 18, 24)], Cond.methodLink RL 56 yX5_put, Cond.instanceMethod yX5_put, Cond.selects RX5 yX5_put yX5_put, Cond.code yX5_put cX5_put 4 (some .int), Cond.methodLink RX5 188 yX5_isLength, Cond.methodLink RX5 193 yX4_isFull]
def wsL_law0_r18 : List Cond := [Cond.methodLink RX5 196 yX0_remember, Cond.instanceMethod yX0_remember, Cond.selects RX0 yX0_remember yX0_remember, Cond.code yX0_remember cX0_remember 2 none, Cond.fieldLink RX0 22 "OrganPegs$History" "next" "I", Cond.methodLink RX0 33 Lib.Math.min.name, Cond.methodLink RX0 25 yX0_stateAt, Cond.instanceMethod yX0_stateAt, Cond.selects RX0 yX0_stateAt yX0_stateAt, Cond.code yX0_stateAt cX0_stateAt 2 (some (.object "OrganPegs$Organ")), Cond.methodLink RX0 29 yX1_copyFrom, Cond.methodLink RL 129 yL_tryPull, Cond.static yL_tryPull, Cond.codeWith yL_tryPull cL_tryPull 4 (some .int) [(0, 6, 7, 38), (0, 6, 11, 24)], Cond.methodLink RL 60 yX5_pull, Cond.instanceMethod yX5_pull, Cond.selects RX5 yX5_pull yX5_pull, Cond.code yX5_pull cX5_pull 3 (some .int), Cond.methodLink RL 132 yL_tryCancel, Cond.static yL_tryCancel, Cond.codeWith yL_tryCancel cL_tryCancel 3 (some .int) [(0, 5, 6, 38)], Cond.methodLink RL 63 yX5_cancel, Cond.instanceMethod yX5_cancel, Cond.selects RX5 yX5_cancel yX5_cancel]
def wsL_law0_r19 : List Cond := [Cond.code yX5_cancel cX5_cancel 2 (some .int), Cond.methodLink RL 135 yL_tryTicks, Cond.static yL_tryTicks, Cond.codeWith yL_tryTicks cL_tryTicks 3 (some .int) [(0, 5, 6, 13)], Cond.methodLink RL 66 yX5_ticks, Cond.instanceMethod yX5_ticks, Cond.selects RX5 yX5_ticks yX5_ticks, Cond.code yX5_ticks cX5_ticks 2 (some .int), Cond.methodLink RX5 199 yX5_isTicks, Cond.methodLink RL 138 yL_tryLay, Cond.static yL_tryLay, Cond.codeWith yL_tryLay cL_tryLay 4 (some .int) [(0, 6, 7, 13)], Cond.methodLink RL 69 yX5_set, Cond.instanceMethod yX5_set, Cond.selects RX5 yX5_set yX5_set, Cond.code yX5_set cX5_set 3 (some .int), Cond.methodLink RX5 204 yX5_isSettingValue, Cond.methodLink RL 141 yL_tryUndo, Cond.static yL_tryUndo, Cond.codeWith yL_tryUndo cL_tryUndo 2 (some .int) [(0, 4, 5, 24)], Cond.methodLink RL 72 yX5_undo, Cond.instanceMethod yX5_undo, Cond.selects RX5 yX5_undo yX5_undo, Cond.code yX5_undo cX5_undo 1 (some .int)]
def wsL_law0_r20 : List Cond := [Cond.methodLink RX5 210 yX0_isEmpty, Cond.instanceMethod yX0_isEmpty, Cond.selects RX0 yX0_isEmpty yX0_isEmpty, Cond.code yX0_isEmpty cX0_isEmpty 1 (some .boolean), Cond.methodLink RX5 215 yX0_bringBack, Cond.instanceMethod yX0_bringBack, Cond.selects RX0 yX0_bringBack yX0_bringBack, Cond.code yX0_bringBack cX0_bringBack 2 (some .int), Cond.methodLink RL 144 yL_tryDone, Cond.static yL_tryDone, Cond.codeWith yL_tryDone cL_tryDone 3 (some .int) [(0, 5, 6, 38)], Cond.methodLink RL 75 yX5_doneIn, Cond.instanceMethod yX5_doneIn, Cond.selects RX5 yX5_doneIn yX5_doneIn, Cond.code yX5_doneIn cX5_doneIn 3 (some .int), Cond.methodLink RL 147 yL_trySounds, Cond.static yL_trySounds, Cond.codeWith yL_trySounds cL_trySounds 3 (some .int) [(0, 5, 6, 38)], Cond.methodLink RL 78 yX5_soundsIn, Cond.instanceMethod yX5_soundsIn, Cond.selects RX5 yX5_soundsIn yX5_soundsIn, Cond.code yX5_soundsIn cX5_soundsIn 3 (some .int), Cond.methodLink RX5 222 yX1_soundedAgo, Cond.methodLink RL 150 yL_tryLeast]
def wsL_law0_r21 : List Cond := [Cond.static yL_tryLeast, Cond.codeWith yL_tryLeast cL_tryLeast 3 (some .int) [(0, 5, 6, 13)], Cond.methodLink RL 81 yX5_leastSpeed, Cond.instanceMethod yX5_leastSpeed, Cond.selects RX5 yX5_leastSpeed yX5_leastSpeed, Cond.code yX5_leastSpeed cX5_leastSpeed 3 (some .int), Cond.methodLink RL 153 yL_tryRoom, Cond.static yL_tryRoom, Cond.codeWith yL_tryRoom cL_tryRoom 4 (some .int) [(0, 6, 7, 38), (0, 6, 11, 13)], Cond.methodLink RL 84 yX5_room, Cond.instanceMethod yX5_room, Cond.selects RX5 yX5_room yX5_room, Cond.code yX5_room cX5_room 4 (some .int), Cond.methodLink RX5 237 yX5_span, Cond.methodLink RX5 240 yX1_isFree, Cond.methodLink RL 156 yL_tryKeep, Cond.static yL_tryKeep, Cond.codeWith yL_tryKeep cL_tryKeep 3 (some .int) [(0, 5, 6, 38)], Cond.methodLink RL 87 yX5_save, Cond.instanceMethod yX5_save, Cond.selects RX5 yX5_save yX5_save, Cond.code yX5_save cX5_save 2 (some .int), Cond.methodLink RX5 278 yX3_has, Cond.instanceMethod yX3_has]
def wsL_law0_r22 : List Cond := [Cond.selects RX3 yX3_has yX3_has, Cond.code yX3_has cX3_has 2 (some .boolean), Cond.methodLink RX5 281 yX3_store, Cond.instanceMethod yX3_store, Cond.selects RX3 yX3_store yX3_store, Cond.code yX3_store cX3_store 3 none, Cond.methodLink RX3 22 yX3_has, Cond.methodLink RX3 26 yX1_copyFrom, Cond.methodLink RL 159 yL_tryBack, Cond.static yL_tryBack, Cond.codeWith yL_tryBack cL_tryBack 3 (some .int) [(0, 5, 6, 38), (0, 5, 10, 24)], Cond.methodLink RL 90 yX5_restore, Cond.instanceMethod yX5_restore, Cond.selects RX5 yX5_restore yX5_restore, Cond.code yX5_restore cX5_restore 2 (some .int), Cond.methodLink RX5 285 yX3_isStored, Cond.instanceMethod yX3_isStored, Cond.selects RX3 yX3_isStored yX3_isStored, Cond.code yX3_isStored cX3_isStored 2 (some .boolean), Cond.methodLink RX5 290 yX3_fetch, Cond.instanceMethod yX3_fetch, Cond.selects RX3 yX3_fetch yX3_fetch, Cond.code yX3_fetch cX3_fetch 3 none, Cond.methodLink RL 197 yL_refuses]
def wsL_law0_r23 : List Cond := [Cond.static yL_refuses, Cond.code yL_refuses cL_refuses 8 (some .boolean), Cond.constantLong RL 172 (100000), Cond.methodLink RL 168 yL_doScript, Cond.static yL_doScript, Cond.codeWith yL_doScript cL_doScript 5 (some .int) [(0, 6, 7, 13)], Cond.methodLink RL 7 yX5_runScript, Cond.instanceMethod yX5_runScript, Cond.selects RX5 yX5_runScript yX5_runScript, Cond.code yX5_runScript cX5_runScript 6 (some .int), Cond.constantLong RX5 251 (100000), Cond.methodLink RX5 245 yX5_withoutLastGroups, Cond.static yX5_withoutLastGroups, Cond.code yX5_withoutLastGroups cX5_withoutLastGroups 6 (some .long), Cond.methodLink RX5 253 yX5_obeysGroup, Cond.instanceMethod yX5_obeysGroup, Cond.selects RX5 yX5_obeysGroup yX5_obeysGroup, Cond.code yX5_obeysGroup cX5_obeysGroup 8 (some .boolean), Cond.methodLink RX5 256 yX1_isOpen, Cond.methodLink RL 174 yL_doSimulate, Cond.static yL_doSimulate, Cond.codeWith yL_doSimulate cL_doSimulate 5 (some .int) [(0, 6, 7, 13)], Cond.methodLink RL 16 yX5_simulate, Cond.instanceMethod yX5_simulate]
def wsL_law0_r24 : List Cond := [Cond.selects RX5 yX5_simulate yX5_simulate, Cond.code yX5_simulate cX5_simulate 8 (some .int), Cond.constantLong RX5 267 (6364136223846793005), Cond.constantLong RX5 269 (1442695040888963407), Cond.methodLink RX5 271 yX5_simulateTurn, Cond.instanceMethod yX5_simulateTurn, Cond.selects RX5 yX5_simulateTurn yX5_simulateTurn, Cond.code yX5_simulateTurn cX5_simulateTurn 3 none, Cond.methodLink RL 201 yL_alike, Cond.static yL_alike, Cond.code yL_alike cL_alike 5 (some .boolean), Cond.methodLink RL 178 yX5_fullest, Cond.instanceMethod yX5_fullest, Cond.selects RX5 yX5_fullest yX5_fullest, Cond.code yX5_fullest cX5_fullest 3 (some .int), Cond.methodLink RX5 232 yJ6_bitCount_0f7a4, Cond.methodLink RL 205 yL_holds, Cond.static yL_holds, Cond.code yL_holds cL_holds 19 (some .boolean), Cond.methodLink RL 181 yL_bits, Cond.static yL_bits, Cond.code yL_bits cL_bits 3 (some .int), Cond.methodLink RL 184 yL_isFree, Cond.static yL_isFree]
def wsL_law0_r25 : List Cond := [Cond.code yL_isFree cL_isFree 6 (some .boolean), Cond.methodLink RL 208 yL_goes, Cond.static yL_goes, Cond.code yL_goes cL_goes 14 (some .boolean), Cond.methodLink RL 218 yL_waits, Cond.static yL_waits, Cond.code yL_waits cL_waits 7 (some .boolean), Cond.methodLink RL 221 yL_undoes, Cond.static yL_undoes, Cond.code yL_undoes cL_undoes 5 (some .boolean), Cond.methodLink RL 214 yL_thrown, Cond.static yL_thrown, Cond.code yL_thrown cL_thrown 1 (some .boolean), Cond.methodLink RL 211 yL_least, Cond.static yL_least, Cond.code yL_least cL_least 10 (some .boolean)]
def wsL_law0 : List Cond := (wsL_law0_r1 ++ (wsL_law0_r2 ++ (wsL_law0_r3 ++ (wsL_law0_r4 ++ (wsL_law0_r5 ++ (wsL_law0_r6 ++ (wsL_law0_r7 ++ (wsL_law0_r8 ++ (wsL_law0_r9 ++ (wsL_law0_r10 ++ (wsL_law0_r11 ++ (wsL_law0_r12 ++ (wsL_law0_r13 ++ (wsL_law0_r14 ++ (wsL_law0_r15 ++ (wsL_law0_r16 ++ (wsL_law0_r17 ++ (wsL_law0_r18 ++ (wsL_law0_r19 ++ (wsL_law0_r20 ++ (wsL_law0_r21 ++ (wsL_law0_r22 ++ (wsL_law0_r23 ++ (wsL_law0_r24 ++ wsL_law0_r25)))))))))))))))))))))))) ++ wsX50 ++ wsX20 ++ wsX10 ++ wsX00 ++ wsX30 ++ wsX40 ++ ([] : List Cond)
def wsL_law : List Cond := wsL_law0 ++ (vx_atS RX5 47 "java/lang/IllegalArgumentException" ["java/lang/RuntimeException", "java/lang/Exception"]).filter goodWord ++ (vx_atS RX5 58 "java/lang/IllegalStateException" ["java/lang/RuntimeException", "java/lang/Exception"]).filter goodWord ++ (vx_atS RX5 141 "java/lang/IndexOutOfBoundsException" ["java/lang/RuntimeException", "java/lang/Exception"]).filter goodWord
set_option maxRecDepth 20000 in
theorem ggX0_init_X1_init : GoodIn wsX0_init wsX1_init := goodIn_r _ [9, 10, 2, 3, 11, 12, 13, 14, 15, 16, 17, 18, 19, 20, 21, 22, 23, 24, 25, 26, 27, 28, 29, 30, 31, 32, 53, 54, 55, 56, 36, 37, 38, 39, 40, 41, 42, 43, 44, 45, 46, 47, 48, 49, 50, 51, 52] (by decide +kernel) (by decide +kernel)
set_option maxRecDepth 20000 in
theorem gX0_init_X1_init_n17 : GoodIn wsX0_init (wsX1_init) := ggX0_init_X1_init
theorem dX0_init_0 : decode cX0_init 0 = .ok (.aload_n 0, 1) := by decide +kernel
theorem dX0_init_1 : decode cX0_init 1 = .ok (.invokespecial 3, 3) := by decide +kernel
theorem dX0_init_4 : decode cX0_init 4 = .ok (.aload_n 0, 1) := by decide +kernel
theorem dX0_init_5 : decode cX0_init 5 = .ok (.bipush 14, 2) := by decide +kernel
theorem dX0_init_7 : decode cX0_init 7 = .ok (.anewarray 9, 3) := by decide +kernel
theorem dX0_init_10 : decode cX0_init 10 = .ok (.putfield 11, 3) := by decide +kernel
theorem dX0_init_13 : decode cX0_init 13 = .ok (.iconst 0, 1) := by decide +kernel
theorem dX0_init_14 : decode cX0_init 14 = .ok (.istore_n 1, 1) := by decide +kernel
theorem dX0_init_15 : decode cX0_init 15 = .ok (.iload_n 1, 1) := by decide +kernel
theorem dX0_init_16 : decode cX0_init 16 = .ok (.bipush 14, 2) := by decide +kernel
theorem dX0_init_18 : decode cX0_init 18 = .ok (.if_icmp .ge 22, 3) := by decide +kernel
theorem dX0_init_21 : decode cX0_init 21 = .ok (.aload_n 0, 1) := by decide +kernel
theorem dX0_init_22 : decode cX0_init 22 = .ok (.getfield 11, 3) := by decide +kernel
theorem dX0_init_25 : decode cX0_init 25 = .ok (.iload_n 1, 1) := by decide +kernel
theorem dX0_init_26 : decode cX0_init 26 = .ok (.new 9, 3) := by decide +kernel
theorem dX0_init_29 : decode cX0_init 29 = .ok (.dup, 1) := by decide +kernel
theorem dX0_init_30 : decode cX0_init 30 = .ok (.invokespecial 17, 3) := by decide +kernel
theorem dX0_init_33 : decode cX0_init 33 = .ok (.aastore, 1) := by decide +kernel
theorem dX0_init_34 : decode cX0_init 34 = .ok (.iinc 1 1, 3) := by decide +kernel
theorem dX0_init_37 : decode cX0_init 37 = .ok (.goto (-22), 3) := by decide +kernel
theorem dX0_init_40 : decode cX0_init 40 = .ok (.return_, 1) := by decide +kernel
theorem dX0_isEmpty_0 : decode cX0_isEmpty 0 = .ok (.aload_n 0, 1) := by decide +kernel
theorem dX0_isEmpty_1 : decode cX0_isEmpty 1 = .ok (.getfield 18, 3) := by decide +kernel
theorem dX0_isEmpty_4 : decode cX0_isEmpty 4 = .ok (.ifCond .ne 7, 3) := by decide +kernel
theorem dX0_isEmpty_7 : decode cX0_isEmpty 7 = .ok (.iconst 1, 1) := by decide +kernel
theorem dX0_isEmpty_8 : decode cX0_isEmpty 8 = .ok (.goto 4, 3) := by decide +kernel
theorem dX0_isEmpty_11 : decode cX0_isEmpty 11 = .ok (.iconst 0, 1) := by decide +kernel
theorem dX0_isEmpty_12 : decode cX0_isEmpty 12 = .ok (.ireturn, 1) := by decide +kernel
theorem dX0_stateAt_0 : decode cX0_stateAt 0 = .ok (.aload_n 0, 1) := by decide +kernel
theorem dX0_stateAt_1 : decode cX0_stateAt 1 = .ok (.getfield 11, 3) := by decide +kernel
theorem dX0_stateAt_4 : decode cX0_stateAt 4 = .ok (.iload_n 1, 1) := by decide +kernel
theorem dX0_stateAt_5 : decode cX0_stateAt 5 = .ok (.ifCond .lt 13, 3) := by decide +kernel
theorem dX0_stateAt_8 : decode cX0_stateAt 8 = .ok (.iload_n 1, 1) := by decide +kernel
theorem dX0_stateAt_9 : decode cX0_stateAt 9 = .ok (.bipush 14, 2) := by decide +kernel
theorem dX0_stateAt_11 : decode cX0_stateAt 11 = .ok (.if_icmp .ge 7, 3) := by decide +kernel
theorem dX0_stateAt_14 : decode cX0_stateAt 14 = .ok (.iload_n 1, 1) := by decide +kernel
theorem dX0_stateAt_15 : decode cX0_stateAt 15 = .ok (.goto 4, 3) := by decide +kernel
theorem dX0_stateAt_18 : decode cX0_stateAt 18 = .ok (.iconst 0, 1) := by decide +kernel
theorem dX0_stateAt_19 : decode cX0_stateAt 19 = .ok (.aaload, 1) := by decide +kernel
theorem dX0_stateAt_20 : decode cX0_stateAt 20 = .ok (.areturn, 1) := by decide +kernel
set_option maxRecDepth 20000 in
theorem ggX0_remember_X0_stateAt : GoodIn wsX0_remember wsX0_stateAt := goodIn_r _ [11, 12, 50, 51, 52] (by decide +kernel) (by decide +kernel)
set_option maxRecDepth 20000 in
theorem gX0_remember_X0_stateAt : GoodIn wsX0_remember (wsV RX0 25 RX0 yX0_stateAt wsX0_stateAt) := goodIn_app (goodIn_of _ (by decide +kernel)) ggX0_remember_X0_stateAt
set_option maxRecDepth 20000 in
theorem ggX0_remember_X1_copyFrom : GoodIn wsX0_remember wsX1_copyFrom := goodIn_r _ [17, 18, 19, 20, 21, 22, 23, 24, 25, 26, 27, 28, 29, 30, 31, 32, 33, 34, 35, 36, 37, 38, 39, 40, 41, 42, 43, 44, 45, 4, 5, 6, 46, 47, 48, 49, 53, 54, 55, 56, 57, 58, 59, 60, 61, 62, 63, 64, 65, 66, 67, 68, 69, 70, 71, 72, 73] (by decide +kernel) (by decide +kernel)
set_option maxRecDepth 20000 in
theorem gX0_remember_X1_copyFrom : GoodIn wsX0_remember (wsV RX0 29 RX1 yX1_copyFrom wsX1_copyFrom) := goodIn_app (goodIn_of _ (by decide +kernel)) ggX0_remember_X1_copyFrom
theorem dX0_remember_0 : decode cX0_remember 0 = .ok (.aload_n 0, 1) := by decide +kernel
theorem dX0_remember_1 : decode cX0_remember 1 = .ok (.aload_n 0, 1) := by decide +kernel
theorem dX0_remember_2 : decode cX0_remember 2 = .ok (.getfield 22, 3) := by decide +kernel
theorem dX0_remember_5 : decode cX0_remember 5 = .ok (.invokevirtual 25, 3) := by decide +kernel
theorem dX0_remember_8 : decode cX0_remember 8 = .ok (.aload_n 1, 1) := by decide +kernel
theorem dX0_remember_9 : decode cX0_remember 9 = .ok (.invokevirtual 29, 3) := by decide +kernel
theorem dX0_remember_12 : decode cX0_remember 12 = .ok (.aload_n 0, 1) := by decide +kernel
theorem dX0_remember_13 : decode cX0_remember 13 = .ok (.aload_n 0, 1) := by decide +kernel
theorem dX0_remember_14 : decode cX0_remember 14 = .ok (.getfield 22, 3) := by decide +kernel
theorem dX0_remember_17 : decode cX0_remember 17 = .ok (.iconst 1, 1) := by decide +kernel
theorem dX0_remember_18 : decode cX0_remember 18 = .ok (.iadd, 1) := by decide +kernel
theorem dX0_remember_19 : decode cX0_remember 19 = .ok (.bipush 14, 2) := by decide +kernel
theorem dX0_remember_21 : decode cX0_remember 21 = .ok (.if_icmp .ge 12, 3) := by decide +kernel
theorem dX0_remember_24 : decode cX0_remember 24 = .ok (.aload_n 0, 1) := by decide +kernel
theorem dX0_remember_25 : decode cX0_remember 25 = .ok (.getfield 22, 3) := by decide +kernel
theorem dX0_remember_28 : decode cX0_remember 28 = .ok (.iconst 1, 1) := by decide +kernel
theorem dX0_remember_29 : decode cX0_remember 29 = .ok (.iadd, 1) := by decide +kernel
theorem dX0_remember_30 : decode cX0_remember 30 = .ok (.goto 4, 3) := by decide +kernel
theorem dX0_remember_33 : decode cX0_remember 33 = .ok (.iconst 0, 1) := by decide +kernel
theorem dX0_remember_34 : decode cX0_remember 34 = .ok (.putfield 22, 3) := by decide +kernel
theorem dX0_remember_37 : decode cX0_remember 37 = .ok (.aload_n 0, 1) := by decide +kernel
theorem dX0_remember_38 : decode cX0_remember 38 = .ok (.aload_n 0, 1) := by decide +kernel
theorem dX0_remember_39 : decode cX0_remember 39 = .ok (.getfield 18, 3) := by decide +kernel
theorem dX0_remember_42 : decode cX0_remember 42 = .ok (.iconst 1, 1) := by decide +kernel
theorem dX0_remember_43 : decode cX0_remember 43 = .ok (.iadd, 1) := by decide +kernel
theorem dX0_remember_44 : decode cX0_remember 44 = .ok (.bipush 14, 2) := by decide +kernel
theorem dX0_remember_46 : decode cX0_remember 46 = .ok (.invokestatic 33, 3) := by decide +kernel
theorem dX0_remember_49 : decode cX0_remember 49 = .ok (.putfield 18, 3) := by decide +kernel
theorem dX0_remember_52 : decode cX0_remember 52 = .ok (.return_, 1) := by decide +kernel
set_option maxRecDepth 20000 in
theorem ggX0_bringBack_X0_stateAt : GoodIn wsX0_bringBack wsX0_stateAt := goodIn_r _ [7, 8, 49, 50, 51] (by decide +kernel) (by decide +kernel)
set_option maxRecDepth 20000 in
theorem gX0_bringBack_X0_stateAt : GoodIn wsX0_bringBack (wsV RX0 25 RX0 yX0_stateAt wsX0_stateAt) := goodIn_app (goodIn_of _ (by decide +kernel)) ggX0_bringBack_X0_stateAt
set_option maxRecDepth 20000 in
theorem ggX0_bringBack_X1_copyFrom : GoodIn wsX0_bringBack wsX1_copyFrom := goodIn_r _ [13, 14, 15, 16, 17, 18, 19, 20, 21, 22, 23, 24, 25, 26, 27, 28, 29, 30, 31, 32, 33, 34, 35, 36, 37, 38, 39, 40, 41, 42, 43, 44, 45, 46, 47, 48, 52, 53, 54, 55, 56, 57, 58, 59, 60, 61, 62, 63, 64, 65, 66, 67, 68, 69, 70, 71, 72] (by decide +kernel) (by decide +kernel)
set_option maxRecDepth 20000 in
theorem gX0_bringBack_X1_copyFrom : GoodIn wsX0_bringBack (wsV RX0 29 RX1 yX1_copyFrom wsX1_copyFrom) := goodIn_app (goodIn_of _ (by decide +kernel)) ggX0_bringBack_X1_copyFrom
theorem dX0_bringBack_0 : decode cX0_bringBack 0 = .ok (.aload_n 0, 1) := by decide +kernel
theorem dX0_bringBack_1 : decode cX0_bringBack 1 = .ok (.aload_n 0, 1) := by decide +kernel
theorem dX0_bringBack_2 : decode cX0_bringBack 2 = .ok (.getfield 22, 3) := by decide +kernel
theorem dX0_bringBack_5 : decode cX0_bringBack 5 = .ok (.ifCond .le 12, 3) := by decide +kernel
theorem dX0_bringBack_8 : decode cX0_bringBack 8 = .ok (.aload_n 0, 1) := by decide +kernel
theorem dX0_bringBack_9 : decode cX0_bringBack 9 = .ok (.getfield 22, 3) := by decide +kernel
theorem dX0_bringBack_12 : decode cX0_bringBack 12 = .ok (.iconst 1, 1) := by decide +kernel
theorem dX0_bringBack_13 : decode cX0_bringBack 13 = .ok (.isub, 1) := by decide +kernel
theorem dX0_bringBack_14 : decode cX0_bringBack 14 = .ok (.goto 5, 3) := by decide +kernel
theorem dX0_bringBack_17 : decode cX0_bringBack 17 = .ok (.bipush 13, 2) := by decide +kernel
theorem dX0_bringBack_19 : decode cX0_bringBack 19 = .ok (.putfield 22, 3) := by decide +kernel
theorem dX0_bringBack_22 : decode cX0_bringBack 22 = .ok (.aload_n 1, 1) := by decide +kernel
theorem dX0_bringBack_23 : decode cX0_bringBack 23 = .ok (.aload_n 0, 1) := by decide +kernel
theorem dX0_bringBack_24 : decode cX0_bringBack 24 = .ok (.aload_n 0, 1) := by decide +kernel
theorem dX0_bringBack_25 : decode cX0_bringBack 25 = .ok (.getfield 22, 3) := by decide +kernel
theorem dX0_bringBack_28 : decode cX0_bringBack 28 = .ok (.invokevirtual 25, 3) := by decide +kernel
theorem dX0_bringBack_31 : decode cX0_bringBack 31 = .ok (.invokevirtual 29, 3) := by decide +kernel
theorem dX0_bringBack_34 : decode cX0_bringBack 34 = .ok (.aload_n 0, 1) := by decide +kernel
theorem dX0_bringBack_35 : decode cX0_bringBack 35 = .ok (.dup, 1) := by decide +kernel
theorem dX0_bringBack_36 : decode cX0_bringBack 36 = .ok (.getfield 18, 3) := by decide +kernel
theorem dX0_bringBack_39 : decode cX0_bringBack 39 = .ok (.iconst 1, 1) := by decide +kernel
theorem dX0_bringBack_40 : decode cX0_bringBack 40 = .ok (.isub, 1) := by decide +kernel
theorem dX0_bringBack_41 : decode cX0_bringBack 41 = .ok (.putfield 18, 3) := by decide +kernel
theorem dX0_bringBack_44 : decode cX0_bringBack 44 = .ok (.aload_n 0, 1) := by decide +kernel
theorem dX0_bringBack_45 : decode cX0_bringBack 45 = .ok (.getfield 18, 3) := by decide +kernel
theorem dX0_bringBack_48 : decode cX0_bringBack 48 = .ok (.ireturn, 1) := by decide +kernel
theorem dX0_forget_0 : decode cX0_forget 0 = .ok (.aload_n 0, 1) := by decide +kernel
theorem dX0_forget_1 : decode cX0_forget 1 = .ok (.iconst 0, 1) := by decide +kernel
theorem dX0_forget_2 : decode cX0_forget 2 = .ok (.putfield 18, 3) := by decide +kernel
theorem dX0_forget_5 : decode cX0_forget 5 = .ok (.return_, 1) := by decide +kernel
set_option maxRecDepth 20000 in
theorem ggX1_init_X4_init : GoodIn wsX1_init wsX4_init := goodIn_r _ [17, 18, 2, 3, 19, 20, 21, 22, 23, 24, 9, 25, 26, 27, 28, 29] (by decide +kernel) (by decide +kernel)
set_option maxRecDepth 20000 in
theorem gX1_init_X4_init : GoodIn wsX1_init (wsX4_init) := ggX1_init_X4_init
theorem dX1_init_0 : decode cX1_init 0 = .ok (.aload_n 0, 1) := by decide +kernel
theorem dX1_init_1 : decode cX1_init 1 = .ok (.invokespecial 3, 3) := by decide +kernel
theorem dX1_init_4 : decode cX1_init 4 = .ok (.aload_n 0, 1) := by decide +kernel
theorem dX1_init_5 : decode cX1_init 5 = .ok (.new 9, 3) := by decide +kernel
theorem dX1_init_8 : decode cX1_init 8 = .ok (.dup, 1) := by decide +kernel
theorem dX1_init_9 : decode cX1_init 9 = .ok (.bipush 30, 2) := by decide +kernel
theorem dX1_init_11 : decode cX1_init 11 = .ok (.iconst 4, 1) := by decide +kernel
theorem dX1_init_12 : decode cX1_init 12 = .ok (.invokespecial 13, 3) := by decide +kernel
theorem dX1_init_15 : decode cX1_init 15 = .ok (.putfield 16, 3) := by decide +kernel
theorem dX1_init_18 : decode cX1_init 18 = .ok (.aload_n 0, 1) := by decide +kernel
theorem dX1_init_19 : decode cX1_init 19 = .ok (.new 9, 3) := by decide +kernel
theorem dX1_init_22 : decode cX1_init 22 = .ok (.dup, 1) := by decide +kernel
theorem dX1_init_23 : decode cX1_init 23 = .ok (.bipush 12, 2) := by decide +kernel
theorem dX1_init_25 : decode cX1_init 25 = .ok (.iconst 5, 1) := by decide +kernel
theorem dX1_init_26 : decode cX1_init 26 = .ok (.invokespecial 13, 3) := by decide +kernel
theorem dX1_init_29 : decode cX1_init 29 = .ok (.putfield 20, 3) := by decide +kernel
theorem dX1_init_32 : decode cX1_init 32 = .ok (.aload_n 0, 1) := by decide +kernel
theorem dX1_init_33 : decode cX1_init 33 = .ok (.bipush 6, 2) := by decide +kernel
theorem dX1_init_35 : decode cX1_init 35 = .ok (.newarray .int, 2) := by decide +kernel
theorem dX1_init_37 : decode cX1_init 37 = .ok (.putfield 23, 3) := by decide +kernel
theorem dX1_init_40 : decode cX1_init 40 = .ok (.aload_n 0, 1) := by decide +kernel
theorem dX1_init_41 : decode cX1_init 41 = .ok (.bipush 6, 2) := by decide +kernel
theorem dX1_init_43 : decode cX1_init 43 = .ok (.newarray .int, 2) := by decide +kernel
theorem dX1_init_45 : decode cX1_init 45 = .ok (.putfield 27, 3) := by decide +kernel
theorem dX1_init_48 : decode cX1_init 48 = .ok (.aload_n 0, 1) := by decide +kernel
theorem dX1_init_49 : decode cX1_init 49 = .ok (.bipush 6, 2) := by decide +kernel
theorem dX1_init_51 : decode cX1_init 51 = .ok (.newarray .int, 2) := by decide +kernel
theorem dX1_init_53 : decode cX1_init 53 = .ok (.putfield 30, 3) := by decide +kernel
theorem dX1_init_56 : decode cX1_init 56 = .ok (.aload_n 0, 1) := by decide +kernel
theorem dX1_init_57 : decode cX1_init 57 = .ok (.iconst 3, 1) := by decide +kernel
theorem dX1_init_58 : decode cX1_init 58 = .ok (.newarray .int, 2) := by decide +kernel
theorem dX1_init_60 : decode cX1_init 60 = .ok (.dup, 1) := by decide +kernel
theorem dX1_init_61 : decode cX1_init 61 = .ok (.iconst 0, 1) := by decide +kernel
theorem dX1_init_62 : decode cX1_init 62 = .ok (.iconst 1, 1) := by decide +kernel
theorem dX1_init_63 : decode cX1_init 63 = .ok (.iastore, 1) := by decide +kernel
theorem dX1_init_64 : decode cX1_init 64 = .ok (.dup, 1) := by decide +kernel
theorem dX1_init_65 : decode cX1_init 65 = .ok (.iconst 1, 1) := by decide +kernel
theorem dX1_init_66 : decode cX1_init 66 = .ok (.iconst 0, 1) := by decide +kernel
theorem dX1_init_67 : decode cX1_init 67 = .ok (.iastore, 1) := by decide +kernel
theorem dX1_init_68 : decode cX1_init 68 = .ok (.dup, 1) := by decide +kernel
theorem dX1_init_69 : decode cX1_init 69 = .ok (.iconst 2, 1) := by decide +kernel
theorem dX1_init_70 : decode cX1_init 70 = .ok (.bipush 20, 2) := by decide +kernel
theorem dX1_init_72 : decode cX1_init 72 = .ok (.iastore, 1) := by decide +kernel
theorem dX1_init_73 : decode cX1_init 73 = .ok (.putfield 33, 3) := by decide +kernel
theorem dX1_init_76 : decode cX1_init 76 = .ok (.aload_n 0, 1) := by decide +kernel
theorem dX1_init_77 : decode cX1_init 77 = .ok (.iconst (-1), 1) := by decide +kernel
theorem dX1_init_78 : decode cX1_init 78 = .ok (.putfield 36, 3) := by decide +kernel
theorem dX1_init_81 : decode cX1_init 81 = .ok (.return_, 1) := by decide +kernel
set_option maxRecDepth 20000 in
theorem ggX1_copyFrom_X4_copyFrom : GoodIn wsX1_copyFrom wsX4_copyFrom := goodIn_r _ [22, 23, 24, 25, 26, 27, 28, 29, 30, 31, 32, 33, 34, 35, 53, 54, 55, 56] (by decide +kernel) (by decide +kernel)
set_option maxRecDepth 20000 in
theorem gX1_copyFrom_X4_copyFrom : GoodIn wsX1_copyFrom (wsV RX1 40 RX4 yX4_copyFrom wsX4_copyFrom) := goodIn_app (goodIn_of _ (by decide +kernel)) ggX1_copyFrom_X4_copyFrom
set_option maxRecDepth 20000 in
theorem ggX1_copyFrom_X5_copyRow : GoodIn wsX1_copyFrom wsX5_copyRow := goodIn_r _ [27, 28, 29, 30, 31, 32, 33, 34, 35] (by decide +kernel) (by decide +kernel)
set_option maxRecDepth 20000 in
theorem gX1_copyFrom_X5_copyRow_n44 : GoodIn wsX1_copyFrom (wsX5_copyRow) := ggX1_copyFrom_X5_copyRow
theorem dX1_copyFrom_0 : decode cX1_copyFrom 0 = .ok (.aload_n 0, 1) := by decide +kernel
theorem dX1_copyFrom_1 : decode cX1_copyFrom 1 = .ok (.getfield 16, 3) := by decide +kernel
theorem dX1_copyFrom_4 : decode cX1_copyFrom 4 = .ok (.aload_n 1, 1) := by decide +kernel
theorem dX1_copyFrom_5 : decode cX1_copyFrom 5 = .ok (.getfield 16, 3) := by decide +kernel
theorem dX1_copyFrom_8 : decode cX1_copyFrom 8 = .ok (.invokevirtual 40, 3) := by decide +kernel
theorem dX1_copyFrom_11 : decode cX1_copyFrom 11 = .ok (.aload_n 0, 1) := by decide +kernel
theorem dX1_copyFrom_12 : decode cX1_copyFrom 12 = .ok (.getfield 20, 3) := by decide +kernel
theorem dX1_copyFrom_15 : decode cX1_copyFrom 15 = .ok (.aload_n 1, 1) := by decide +kernel
theorem dX1_copyFrom_16 : decode cX1_copyFrom 16 = .ok (.getfield 20, 3) := by decide +kernel
theorem dX1_copyFrom_19 : decode cX1_copyFrom 19 = .ok (.invokevirtual 40, 3) := by decide +kernel
theorem dX1_copyFrom_22 : decode cX1_copyFrom 22 = .ok (.aload_n 1, 1) := by decide +kernel
theorem dX1_copyFrom_23 : decode cX1_copyFrom 23 = .ok (.getfield 23, 3) := by decide +kernel
theorem dX1_copyFrom_26 : decode cX1_copyFrom 26 = .ok (.aload_n 0, 1) := by decide +kernel
theorem dX1_copyFrom_27 : decode cX1_copyFrom 27 = .ok (.getfield 23, 3) := by decide +kernel
theorem dX1_copyFrom_30 : decode cX1_copyFrom 30 = .ok (.invokestatic 44, 3) := by decide +kernel
theorem dX1_copyFrom_33 : decode cX1_copyFrom 33 = .ok (.aload_n 1, 1) := by decide +kernel
theorem dX1_copyFrom_34 : decode cX1_copyFrom 34 = .ok (.getfield 27, 3) := by decide +kernel
theorem dX1_copyFrom_37 : decode cX1_copyFrom 37 = .ok (.aload_n 0, 1) := by decide +kernel
theorem dX1_copyFrom_38 : decode cX1_copyFrom 38 = .ok (.getfield 27, 3) := by decide +kernel
theorem dX1_copyFrom_41 : decode cX1_copyFrom 41 = .ok (.invokestatic 44, 3) := by decide +kernel
theorem dX1_copyFrom_44 : decode cX1_copyFrom 44 = .ok (.aload_n 1, 1) := by decide +kernel
theorem dX1_copyFrom_45 : decode cX1_copyFrom 45 = .ok (.getfield 30, 3) := by decide +kernel
theorem dX1_copyFrom_48 : decode cX1_copyFrom 48 = .ok (.aload_n 0, 1) := by decide +kernel
theorem dX1_copyFrom_49 : decode cX1_copyFrom 49 = .ok (.getfield 30, 3) := by decide +kernel
theorem dX1_copyFrom_52 : decode cX1_copyFrom 52 = .ok (.invokestatic 44, 3) := by decide +kernel
theorem dX1_copyFrom_55 : decode cX1_copyFrom 55 = .ok (.aload_n 1, 1) := by decide +kernel
theorem dX1_copyFrom_56 : decode cX1_copyFrom 56 = .ok (.getfield 33, 3) := by decide +kernel
theorem dX1_copyFrom_59 : decode cX1_copyFrom 59 = .ok (.aload_n 0, 1) := by decide +kernel
theorem dX1_copyFrom_60 : decode cX1_copyFrom 60 = .ok (.getfield 33, 3) := by decide +kernel
theorem dX1_copyFrom_63 : decode cX1_copyFrom 63 = .ok (.invokestatic 44, 3) := by decide +kernel
theorem dX1_copyFrom_66 : decode cX1_copyFrom 66 = .ok (.aload_n 0, 1) := by decide +kernel
theorem dX1_copyFrom_67 : decode cX1_copyFrom 67 = .ok (.aload_n 1, 1) := by decide +kernel
theorem dX1_copyFrom_68 : decode cX1_copyFrom 68 = .ok (.getfield 48, 3) := by decide +kernel
theorem dX1_copyFrom_71 : decode cX1_copyFrom 71 = .ok (.putfield 48, 3) := by decide +kernel
theorem dX1_copyFrom_74 : decode cX1_copyFrom 74 = .ok (.aload_n 0, 1) := by decide +kernel
theorem dX1_copyFrom_75 : decode cX1_copyFrom 75 = .ok (.aload_n 1, 1) := by decide +kernel
theorem dX1_copyFrom_76 : decode cX1_copyFrom 76 = .ok (.getfield 51, 3) := by decide +kernel
theorem dX1_copyFrom_79 : decode cX1_copyFrom 79 = .ok (.putfield 51, 3) := by decide +kernel
theorem dX1_copyFrom_82 : decode cX1_copyFrom 82 = .ok (.aload_n 0, 1) := by decide +kernel
theorem dX1_copyFrom_83 : decode cX1_copyFrom 83 = .ok (.aload_n 1, 1) := by decide +kernel
theorem dX1_copyFrom_84 : decode cX1_copyFrom 84 = .ok (.getfield 54, 3) := by decide +kernel
theorem dX1_copyFrom_87 : decode cX1_copyFrom 87 = .ok (.putfield 54, 3) := by decide +kernel
theorem dX1_copyFrom_90 : decode cX1_copyFrom 90 = .ok (.aload_n 0, 1) := by decide +kernel
theorem dX1_copyFrom_91 : decode cX1_copyFrom 91 = .ok (.aload_n 1, 1) := by decide +kernel
theorem dX1_copyFrom_92 : decode cX1_copyFrom 92 = .ok (.getfield 57, 3) := by decide +kernel
theorem dX1_copyFrom_95 : decode cX1_copyFrom 95 = .ok (.putfield 57, 3) := by decide +kernel
theorem dX1_copyFrom_98 : decode cX1_copyFrom 98 = .ok (.aload_n 0, 1) := by decide +kernel
theorem dX1_copyFrom_99 : decode cX1_copyFrom 99 = .ok (.aload_n 1, 1) := by decide +kernel
theorem dX1_copyFrom_100 : decode cX1_copyFrom 100 = .ok (.getfield 60, 3) := by decide +kernel
theorem dX1_copyFrom_103 : decode cX1_copyFrom 103 = .ok (.putfield 60, 3) := by decide +kernel
theorem dX1_copyFrom_106 : decode cX1_copyFrom 106 = .ok (.aload_n 0, 1) := by decide +kernel
theorem dX1_copyFrom_107 : decode cX1_copyFrom 107 = .ok (.aload_n 1, 1) := by decide +kernel
theorem dX1_copyFrom_108 : decode cX1_copyFrom 108 = .ok (.getfield 63, 3) := by decide +kernel
theorem dX1_copyFrom_111 : decode cX1_copyFrom 111 = .ok (.putfield 63, 3) := by decide +kernel
theorem dX1_copyFrom_114 : decode cX1_copyFrom 114 = .ok (.aload_n 0, 1) := by decide +kernel
theorem dX1_copyFrom_115 : decode cX1_copyFrom 115 = .ok (.aload_n 1, 1) := by decide +kernel
theorem dX1_copyFrom_116 : decode cX1_copyFrom 116 = .ok (.getfield 67, 3) := by decide +kernel
theorem dX1_copyFrom_119 : decode cX1_copyFrom 119 = .ok (.putfield 67, 3) := by decide +kernel
theorem dX1_copyFrom_122 : decode cX1_copyFrom 122 = .ok (.aload_n 0, 1) := by decide +kernel
theorem dX1_copyFrom_123 : decode cX1_copyFrom 123 = .ok (.aload_n 1, 1) := by decide +kernel
theorem dX1_copyFrom_124 : decode cX1_copyFrom 124 = .ok (.getfield 70, 3) := by decide +kernel
theorem dX1_copyFrom_127 : decode cX1_copyFrom 127 = .ok (.putfield 70, 3) := by decide +kernel
theorem dX1_copyFrom_130 : decode cX1_copyFrom 130 = .ok (.aload_n 0, 1) := by decide +kernel
theorem dX1_copyFrom_131 : decode cX1_copyFrom 131 = .ok (.aload_n 1, 1) := by decide +kernel
theorem dX1_copyFrom_132 : decode cX1_copyFrom 132 = .ok (.getfield 73, 3) := by decide +kernel
theorem dX1_copyFrom_135 : decode cX1_copyFrom 135 = .ok (.putfield 73, 3) := by decide +kernel
theorem dX1_copyFrom_138 : decode cX1_copyFrom 138 = .ok (.aload_n 0, 1) := by decide +kernel
theorem dX1_copyFrom_139 : decode cX1_copyFrom 139 = .ok (.aload_n 1, 1) := by decide +kernel
theorem dX1_copyFrom_140 : decode cX1_copyFrom 140 = .ok (.getfield 76, 3) := by decide +kernel
theorem dX1_copyFrom_143 : decode cX1_copyFrom 143 = .ok (.putfield 76, 3) := by decide +kernel
theorem dX1_copyFrom_146 : decode cX1_copyFrom 146 = .ok (.aload_n 0, 1) := by decide +kernel
theorem dX1_copyFrom_147 : decode cX1_copyFrom 147 = .ok (.aload_n 1, 1) := by decide +kernel
theorem dX1_copyFrom_148 : decode cX1_copyFrom 148 = .ok (.getfield 36, 3) := by decide +kernel
theorem dX1_copyFrom_151 : decode cX1_copyFrom 151 = .ok (.putfield 36, 3) := by decide +kernel
theorem dX1_copyFrom_154 : decode cX1_copyFrom 154 = .ok (.return_, 1) := by decide +kernel
set_option maxRecDepth 20000 in
theorem ggX1_tell_X1_soundedAgo : GoodIn wsX1_tell wsX1_soundedAgo := goodIn_r _ [16, 17, 18, 19, 20, 21, 22, 23, 24, 25, 26, 27, 28, 29, 30, 31, 32, 33, 34] (by decide +kernel) (by decide +kernel)
set_option maxRecDepth 20000 in
theorem gX1_tell_X1_soundedAgo : GoodIn wsX1_tell (wsV RX1 82 RX1 yX1_soundedAgo wsX1_soundedAgo) := goodIn_app (goodIn_of _ (by decide +kernel)) ggX1_tell_X1_soundedAgo
theorem dX1_tell_0 : decode cX1_tell 0 = .ok (.iload_n 1, 1) := by decide +kernel
theorem dX1_tell_1 : decode cX1_tell 1 = .ok (.tableswitch 121 0 10 #[59, 67, 75, 80, 85, 90, 95, 100, 106, 111, 116], 59) := by decide +kernel
theorem dX1_tell_60 : decode cX1_tell 60 = .ok (.aload_n 0, 1) := by decide +kernel
theorem dX1_tell_61 : decode cX1_tell 61 = .ok (.getfield 16, 3) := by decide +kernel
theorem dX1_tell_64 : decode cX1_tell 64 = .ok (.getfield 79, 3) := by decide +kernel
theorem dX1_tell_67 : decode cX1_tell 67 = .ok (.ireturn, 1) := by decide +kernel
theorem dX1_tell_68 : decode cX1_tell 68 = .ok (.aload_n 0, 1) := by decide +kernel
theorem dX1_tell_69 : decode cX1_tell 69 = .ok (.getfield 20, 3) := by decide +kernel
theorem dX1_tell_72 : decode cX1_tell 72 = .ok (.getfield 79, 3) := by decide +kernel
theorem dX1_tell_75 : decode cX1_tell 75 = .ok (.ireturn, 1) := by decide +kernel
theorem dX1_tell_76 : decode cX1_tell 76 = .ok (.aload_n 0, 1) := by decide +kernel
theorem dX1_tell_77 : decode cX1_tell 77 = .ok (.getfield 48, 3) := by decide +kernel
theorem dX1_tell_80 : decode cX1_tell 80 = .ok (.ireturn, 1) := by decide +kernel
theorem dX1_tell_81 : decode cX1_tell 81 = .ok (.aload_n 0, 1) := by decide +kernel
theorem dX1_tell_82 : decode cX1_tell 82 = .ok (.getfield 51, 3) := by decide +kernel
theorem dX1_tell_85 : decode cX1_tell 85 = .ok (.ireturn, 1) := by decide +kernel
theorem dX1_tell_86 : decode cX1_tell 86 = .ok (.aload_n 0, 1) := by decide +kernel
theorem dX1_tell_87 : decode cX1_tell 87 = .ok (.getfield 54, 3) := by decide +kernel
theorem dX1_tell_90 : decode cX1_tell 90 = .ok (.ireturn, 1) := by decide +kernel
theorem dX1_tell_91 : decode cX1_tell 91 = .ok (.aload_n 0, 1) := by decide +kernel
theorem dX1_tell_92 : decode cX1_tell 92 = .ok (.getfield 57, 3) := by decide +kernel
theorem dX1_tell_95 : decode cX1_tell 95 = .ok (.ireturn, 1) := by decide +kernel
theorem dX1_tell_96 : decode cX1_tell 96 = .ok (.aload_n 0, 1) := by decide +kernel
theorem dX1_tell_97 : decode cX1_tell 97 = .ok (.getfield 60, 3) := by decide +kernel
theorem dX1_tell_100 : decode cX1_tell 100 = .ok (.ireturn, 1) := by decide +kernel
theorem dX1_tell_101 : decode cX1_tell 101 = .ok (.aload_n 0, 1) := by decide +kernel
theorem dX1_tell_102 : decode cX1_tell 102 = .ok (.iconst 0, 1) := by decide +kernel
theorem dX1_tell_103 : decode cX1_tell 103 = .ok (.invokevirtual 82, 3) := by decide +kernel
theorem dX1_tell_106 : decode cX1_tell 106 = .ok (.ireturn, 1) := by decide +kernel
theorem dX1_tell_107 : decode cX1_tell 107 = .ok (.aload_n 0, 1) := by decide +kernel
theorem dX1_tell_108 : decode cX1_tell 108 = .ok (.getfield 67, 3) := by decide +kernel
theorem dX1_tell_111 : decode cX1_tell 111 = .ok (.ireturn, 1) := by decide +kernel
theorem dX1_tell_112 : decode cX1_tell 112 = .ok (.aload_n 0, 1) := by decide +kernel
theorem dX1_tell_113 : decode cX1_tell 113 = .ok (.getfield 70, 3) := by decide +kernel
theorem dX1_tell_116 : decode cX1_tell 116 = .ok (.ireturn, 1) := by decide +kernel
theorem dX1_tell_117 : decode cX1_tell 117 = .ok (.aload_n 0, 1) := by decide +kernel
theorem dX1_tell_118 : decode cX1_tell 118 = .ok (.getfield 73, 3) := by decide +kernel
theorem dX1_tell_121 : decode cX1_tell 121 = .ok (.ireturn, 1) := by decide +kernel
theorem dX1_tell_122 : decode cX1_tell 122 = .ok (.aload_n 0, 1) := by decide +kernel
theorem dX1_tell_123 : decode cX1_tell 123 = .ok (.getfield 76, 3) := by decide +kernel
theorem dX1_tell_126 : decode cX1_tell 126 = .ok (.ireturn, 1) := by decide +kernel
set_option maxRecDepth 20000 in
theorem ggX1_tellOfPipe_X5_isPipe : GoodIn wsX1_tellOfPipe wsX5_isPipe := goodIn_r _ [7] (by decide +kernel) (by decide +kernel)
set_option maxRecDepth 20000 in
theorem gX1_tellOfPipe_X5_isPipe_n86 : GoodIn wsX1_tellOfPipe (wsX5_isPipe) := ggX1_tellOfPipe_X5_isPipe
set_option maxRecDepth 20000 in
theorem ggX1_tellOfPipe_X1_pegsOfPipe : GoodIn wsX1_tellOfPipe wsX1_pegsOfPipe := goodIn_r _ [12, 13, 14, 15, 16, 17, 18, 19, 20, 21, 22, 23, 24, 25, 40, 41, 42, 43, 44, 45, 46, 47, 48, 49, 50, 51, 52, 53, 54, 55, 56, 57, 58, 59, 60] (by decide +kernel) (by decide +kernel)
set_option maxRecDepth 20000 in
theorem gX1_tellOfPipe_X1_pegsOfPipe : GoodIn wsX1_tellOfPipe (wsV RX1 90 RX1 yX1_pegsOfPipe wsX1_pegsOfPipe) := goodIn_app (goodIn_of _ (by decide +kernel)) ggX1_tellOfPipe_X1_pegsOfPipe
set_option maxRecDepth 20000 in
theorem ggX1_tellOfPipe_J6_bitCount_0f7a4 : GoodIn wsX1_tellOfPipe wsJ6_bitCount_0f7a4 := goodIn_r _ [29, 30, 31, 32] (by decide +kernel) (by decide +kernel)
set_option maxRecDepth 20000 in
theorem gX1_tellOfPipe_J6_bitCount_0f7a4 : GoodIn wsX1_tellOfPipe (va_wsS RX1 93 yJ6_bitCount_0f7a4 wsJ6_bitCount_0f7a4) := goodIn_app (goodIn_of _ (by decide +kernel)) ggX1_tellOfPipe_J6_bitCount_0f7a4
set_option maxRecDepth 20000 in
theorem ggX1_tellOfPipe_X1_isOpen : GoodIn wsX1_tellOfPipe wsX1_isOpen := goodIn_r _ [36, 1, 5, 6, 7, 37, 38, 39, 40, 41, 42, 43, 44, 45, 46, 47, 48, 49, 50, 51, 52, 53, 54, 55, 56] (by decide +kernel) (by decide +kernel)
set_option maxRecDepth 20000 in
theorem gX1_tellOfPipe_X1_isOpen : GoodIn wsX1_tellOfPipe (wsV RX1 98 RX1 yX1_isOpen wsX1_isOpen) := goodIn_app (goodIn_of _ (by decide +kernel)) ggX1_tellOfPipe_X1_isOpen
theorem dX1_tellOfPipe_0 : decode cX1_tellOfPipe 0 = .ok (.iload_n 1, 1) := by decide +kernel
theorem dX1_tellOfPipe_1 : decode cX1_tellOfPipe 1 = .ok (.invokestatic 86, 3) := by decide +kernel
theorem dX1_tellOfPipe_4 : decode cX1_tellOfPipe 4 = .ok (.ifCond .ne 5, 3) := by decide +kernel
theorem dX1_tellOfPipe_7 : decode cX1_tellOfPipe 7 = .ok (.iconst 0, 1) := by decide +kernel
theorem dX1_tellOfPipe_8 : decode cX1_tellOfPipe 8 = .ok (.ireturn, 1) := by decide +kernel
theorem dX1_tellOfPipe_9 : decode cX1_tellOfPipe 9 = .ok (.iload_n 2, 1) := by decide +kernel
theorem dX1_tellOfPipe_10 : decode cX1_tellOfPipe 10 = .ok (.tableswitch 71 0 3 #[30, 36, 46, 64], 30) := by decide +kernel
theorem dX1_tellOfPipe_40 : decode cX1_tellOfPipe 40 = .ok (.aload_n 0, 1) := by decide +kernel
theorem dX1_tellOfPipe_41 : decode cX1_tellOfPipe 41 = .ok (.iload_n 1, 1) := by decide +kernel
theorem dX1_tellOfPipe_42 : decode cX1_tellOfPipe 42 = .ok (.invokevirtual 90, 3) := by decide +kernel
theorem dX1_tellOfPipe_45 : decode cX1_tellOfPipe 45 = .ok (.ireturn, 1) := by decide +kernel
theorem dX1_tellOfPipe_46 : decode cX1_tellOfPipe 46 = .ok (.aload_n 0, 1) := by decide +kernel
theorem dX1_tellOfPipe_47 : decode cX1_tellOfPipe 47 = .ok (.getfield 23, 3) := by decide +kernel
theorem dX1_tellOfPipe_50 : decode cX1_tellOfPipe 50 = .ok (.iload_n 1, 1) := by decide +kernel
theorem dX1_tellOfPipe_51 : decode cX1_tellOfPipe 51 = .ok (.iaload, 1) := by decide +kernel
theorem dX1_tellOfPipe_52 : decode cX1_tellOfPipe 52 = .ok (.invokestatic 93, 3) := by decide +kernel
theorem dX1_tellOfPipe_55 : decode cX1_tellOfPipe 55 = .ok (.ireturn, 1) := by decide +kernel
theorem dX1_tellOfPipe_56 : decode cX1_tellOfPipe 56 = .ok (.aload_n 0, 1) := by decide +kernel
theorem dX1_tellOfPipe_57 : decode cX1_tellOfPipe 57 = .ok (.iload_n 1, 1) := by decide +kernel
theorem dX1_tellOfPipe_58 : decode cX1_tellOfPipe 58 = .ok (.aload_n 0, 1) := by decide +kernel
theorem dX1_tellOfPipe_59 : decode cX1_tellOfPipe 59 = .ok (.getfield 51, 3) := by decide +kernel
theorem dX1_tellOfPipe_62 : decode cX1_tellOfPipe 62 = .ok (.invokevirtual 98, 3) := by decide +kernel
theorem dX1_tellOfPipe_65 : decode cX1_tellOfPipe 65 = .ok (.ifCond .eq 7, 3) := by decide +kernel
theorem dX1_tellOfPipe_68 : decode cX1_tellOfPipe 68 = .ok (.iconst 1, 1) := by decide +kernel
theorem dX1_tellOfPipe_69 : decode cX1_tellOfPipe 69 = .ok (.goto 4, 3) := by decide +kernel
theorem dX1_tellOfPipe_72 : decode cX1_tellOfPipe 72 = .ok (.iconst 0, 1) := by decide +kernel
theorem dX1_tellOfPipe_73 : decode cX1_tellOfPipe 73 = .ok (.ireturn, 1) := by decide +kernel
theorem dX1_tellOfPipe_74 : decode cX1_tellOfPipe 74 = .ok (.aload_n 0, 1) := by decide +kernel
theorem dX1_tellOfPipe_75 : decode cX1_tellOfPipe 75 = .ok (.getfield 27, 3) := by decide +kernel
theorem dX1_tellOfPipe_78 : decode cX1_tellOfPipe 78 = .ok (.iload_n 1, 1) := by decide +kernel
theorem dX1_tellOfPipe_79 : decode cX1_tellOfPipe 79 = .ok (.iaload, 1) := by decide +kernel
theorem dX1_tellOfPipe_80 : decode cX1_tellOfPipe 80 = .ok (.ireturn, 1) := by decide +kernel
theorem dX1_tellOfPipe_81 : decode cX1_tellOfPipe 81 = .ok (.aload_n 0, 1) := by decide +kernel
theorem dX1_tellOfPipe_82 : decode cX1_tellOfPipe 82 = .ok (.getfield 30, 3) := by decide +kernel
theorem dX1_tellOfPipe_85 : decode cX1_tellOfPipe 85 = .ok (.iload_n 1, 1) := by decide +kernel
theorem dX1_tellOfPipe_86 : decode cX1_tellOfPipe 86 = .ok (.iaload, 1) := by decide +kernel
theorem dX1_tellOfPipe_87 : decode cX1_tellOfPipe 87 = .ok (.ireturn, 1) := by decide +kernel
set_option maxRecDepth 20000 in
theorem ggX1_pegsOfPipe_X4_at : GoodIn wsX1_pegsOfPipe wsX4_at := goodIn_r _ [6, 7, 8, 9, 10, 11, 5, 12, 13, 31, 32, 33, 34] (by decide +kernel) (by decide +kernel)
set_option maxRecDepth 20000 in
theorem gX1_pegsOfPipe_X4_at : GoodIn wsX1_pegsOfPipe (wsV RX1 102 RX4 yX4_at wsX4_at) := goodIn_app (goodIn_of _ (by decide +kernel)) ggX1_pegsOfPipe_X4_at
theorem dX1_pegsOfPipe_0 : decode cX1_pegsOfPipe 0 = .ok (.iconst 0, 1) := by decide +kernel
theorem dX1_pegsOfPipe_1 : decode cX1_pegsOfPipe 1 = .ok (.istore_n 2, 1) := by decide +kernel
theorem dX1_pegsOfPipe_2 : decode cX1_pegsOfPipe 2 = .ok (.iconst 0, 1) := by decide +kernel
theorem dX1_pegsOfPipe_3 : decode cX1_pegsOfPipe 3 = .ok (.istore_n 3, 1) := by decide +kernel
theorem dX1_pegsOfPipe_4 : decode cX1_pegsOfPipe 4 = .ok (.iload_n 3, 1) := by decide +kernel
theorem dX1_pegsOfPipe_5 : decode cX1_pegsOfPipe 5 = .ok (.aload_n 0, 1) := by decide +kernel
theorem dX1_pegsOfPipe_6 : decode cX1_pegsOfPipe 6 = .ok (.getfield 16, 3) := by decide +kernel
theorem dX1_pegsOfPipe_9 : decode cX1_pegsOfPipe 9 = .ok (.getfield 79, 3) := by decide +kernel
theorem dX1_pegsOfPipe_12 : decode cX1_pegsOfPipe 12 = .ok (.if_icmp .ge 25, 3) := by decide +kernel
theorem dX1_pegsOfPipe_15 : decode cX1_pegsOfPipe 15 = .ok (.aload_n 0, 1) := by decide +kernel
theorem dX1_pegsOfPipe_16 : decode cX1_pegsOfPipe 16 = .ok (.getfield 16, 3) := by decide +kernel
theorem dX1_pegsOfPipe_19 : decode cX1_pegsOfPipe 19 = .ok (.iload_n 3, 1) := by decide +kernel
theorem dX1_pegsOfPipe_20 : decode cX1_pegsOfPipe 20 = .ok (.iconst 0, 1) := by decide +kernel
theorem dX1_pegsOfPipe_21 : decode cX1_pegsOfPipe 21 = .ok (.invokevirtual 102, 3) := by decide +kernel
theorem dX1_pegsOfPipe_24 : decode cX1_pegsOfPipe 24 = .ok (.iload_n 1, 1) := by decide +kernel
theorem dX1_pegsOfPipe_25 : decode cX1_pegsOfPipe 25 = .ok (.if_icmp .ne 6, 3) := by decide +kernel
theorem dX1_pegsOfPipe_28 : decode cX1_pegsOfPipe 28 = .ok (.iinc 2 1, 3) := by decide +kernel
theorem dX1_pegsOfPipe_31 : decode cX1_pegsOfPipe 31 = .ok (.iinc 3 1, 3) := by decide +kernel
theorem dX1_pegsOfPipe_34 : decode cX1_pegsOfPipe 34 = .ok (.goto (-30), 3) := by decide +kernel
theorem dX1_pegsOfPipe_37 : decode cX1_pegsOfPipe 37 = .ok (.iload_n 2, 1) := by decide +kernel
theorem dX1_pegsOfPipe_38 : decode cX1_pegsOfPipe 38 = .ok (.ireturn, 1) := by decide +kernel
set_option maxRecDepth 20000 in
theorem ggX1_settingOf_X5_isSetting : GoodIn wsX1_settingOf wsX5_isSetting := goodIn_r _ [4, 5] (by decide +kernel) (by decide +kernel)
set_option maxRecDepth 20000 in
theorem gX1_settingOf_X5_isSetting_n106 : GoodIn wsX1_settingOf (wsX5_isSetting) := ggX1_settingOf_X5_isSetting
theorem dX1_settingOf_0 : decode cX1_settingOf 0 = .ok (.iload_n 1, 1) := by decide +kernel
theorem dX1_settingOf_1 : decode cX1_settingOf 1 = .ok (.invokestatic 106, 3) := by decide +kernel
theorem dX1_settingOf_4 : decode cX1_settingOf 4 = .ok (.ifCond .eq 12, 3) := by decide +kernel
theorem dX1_settingOf_7 : decode cX1_settingOf 7 = .ok (.aload_n 0, 1) := by decide +kernel
theorem dX1_settingOf_8 : decode cX1_settingOf 8 = .ok (.getfield 33, 3) := by decide +kernel
theorem dX1_settingOf_11 : decode cX1_settingOf 11 = .ok (.iload_n 1, 1) := by decide +kernel
theorem dX1_settingOf_12 : decode cX1_settingOf 12 = .ok (.iaload, 1) := by decide +kernel
theorem dX1_settingOf_13 : decode cX1_settingOf 13 = .ok (.goto 4, 3) := by decide +kernel
theorem dX1_settingOf_16 : decode cX1_settingOf 16 = .ok (.iconst 0, 1) := by decide +kernel
theorem dX1_settingOf_17 : decode cX1_settingOf 17 = .ok (.ireturn, 1) := by decide +kernel
theorem dX1_soundedAgo_0 : decode cX1_soundedAgo 0 = .ok (.aload_n 0, 1) := by decide +kernel
theorem dX1_soundedAgo_1 : decode cX1_soundedAgo 1 = .ok (.getfield 63, 3) := by decide +kernel
theorem dX1_soundedAgo_4 : decode cX1_soundedAgo 4 = .ok (.bipush 6, 2) := by decide +kernel
theorem dX1_soundedAgo_6 : decode cX1_soundedAgo 6 = .ok (.iload_n 1, 1) := by decide +kernel
theorem dX1_soundedAgo_7 : decode cX1_soundedAgo 7 = .ok (.imul, 1) := by decide +kernel
theorem dX1_soundedAgo_8 : decode cX1_soundedAgo 8 = .ok (.lushr, 1) := by decide +kernel
theorem dX1_soundedAgo_9 : decode cX1_soundedAgo 9 = .ok (.l2i, 1) := by decide +kernel
theorem dX1_soundedAgo_10 : decode cX1_soundedAgo 10 = .ok (.bipush 63, 2) := by decide +kernel
theorem dX1_soundedAgo_12 : decode cX1_soundedAgo 12 = .ok (.iand, 1) := by decide +kernel
theorem dX1_soundedAgo_13 : decode cX1_soundedAgo 13 = .ok (.ireturn, 1) := by decide +kernel
set_option maxRecDepth 20000 in
theorem ggX1_isOpen_X5_isPipe : GoodIn wsX1_isOpen wsX5_isPipe := goodIn_r _ [4] (by decide +kernel) (by decide +kernel)
set_option maxRecDepth 20000 in
theorem gX1_isOpen_X5_isPipe_n86 : GoodIn wsX1_isOpen (wsX5_isPipe) := ggX1_isOpen_X5_isPipe
set_option maxRecDepth 20000 in
theorem ggX1_isOpen_X5_span : GoodIn wsX1_isOpen wsX5_span := goodIn_r _ [6, 7] (by decide +kernel) (by decide +kernel)
set_option maxRecDepth 20000 in
theorem gX1_isOpen_X5_span_n109 : GoodIn wsX1_isOpen (wsX5_span) := ggX1_isOpen_X5_span
theorem dX1_isOpen_0 : decode cX1_isOpen 0 = .ok (.iload_n 1, 1) := by decide +kernel
theorem dX1_isOpen_1 : decode cX1_isOpen 1 = .ok (.invokestatic 86, 3) := by decide +kernel
theorem dX1_isOpen_4 : decode cX1_isOpen 4 = .ok (.ifCond .eq 22, 3) := by decide +kernel
theorem dX1_isOpen_7 : decode cX1_isOpen 7 = .ok (.aload_n 0, 1) := by decide +kernel
theorem dX1_isOpen_8 : decode cX1_isOpen 8 = .ok (.getfield 23, 3) := by decide +kernel
theorem dX1_isOpen_11 : decode cX1_isOpen 11 = .ok (.iload_n 1, 1) := by decide +kernel
theorem dX1_isOpen_12 : decode cX1_isOpen 12 = .ok (.iaload, 1) := by decide +kernel
theorem dX1_isOpen_13 : decode cX1_isOpen 13 = .ok (.iload_n 2, 1) := by decide +kernel
theorem dX1_isOpen_14 : decode cX1_isOpen 14 = .ok (.iconst 1, 1) := by decide +kernel
theorem dX1_isOpen_15 : decode cX1_isOpen 15 = .ok (.invokestatic 109, 3) := by decide +kernel
theorem dX1_isOpen_18 : decode cX1_isOpen 18 = .ok (.iand, 1) := by decide +kernel
theorem dX1_isOpen_19 : decode cX1_isOpen 19 = .ok (.ifCond .eq 7, 3) := by decide +kernel
theorem dX1_isOpen_22 : decode cX1_isOpen 22 = .ok (.iconst 1, 1) := by decide +kernel
theorem dX1_isOpen_23 : decode cX1_isOpen 23 = .ok (.goto 4, 3) := by decide +kernel
theorem dX1_isOpen_26 : decode cX1_isOpen 26 = .ok (.iconst 0, 1) := by decide +kernel
theorem dX1_isOpen_27 : decode cX1_isOpen 27 = .ok (.ireturn, 1) := by decide +kernel
set_option maxRecDepth 20000 in
theorem ggX1_isFree_X5_isPipe : GoodIn wsX1_isFree wsX5_isPipe := goodIn_r _ [4] (by decide +kernel) (by decide +kernel)
set_option maxRecDepth 20000 in
theorem gX1_isFree_X5_isPipe_n86 : GoodIn wsX1_isFree (wsX5_isPipe) := ggX1_isFree_X5_isPipe
theorem dX1_isFree_0 : decode cX1_isFree 0 = .ok (.iload_n 1, 1) := by decide +kernel
theorem dX1_isFree_1 : decode cX1_isFree 1 = .ok (.invokestatic 86, 3) := by decide +kernel
theorem dX1_isFree_4 : decode cX1_isFree 4 = .ok (.ifCond .eq 14, 3) := by decide +kernel
theorem dX1_isFree_7 : decode cX1_isFree 7 = .ok (.aload_n 0, 1) := by decide +kernel
theorem dX1_isFree_8 : decode cX1_isFree 8 = .ok (.getfield 23, 3) := by decide +kernel
theorem dX1_isFree_11 : decode cX1_isFree 11 = .ok (.iload_n 1, 1) := by decide +kernel
theorem dX1_isFree_12 : decode cX1_isFree 12 = .ok (.iaload, 1) := by decide +kernel
theorem dX1_isFree_13 : decode cX1_isFree 13 = .ok (.iload_n 2, 1) := by decide +kernel
theorem dX1_isFree_14 : decode cX1_isFree 14 = .ok (.iand, 1) := by decide +kernel
theorem dX1_isFree_15 : decode cX1_isFree 15 = .ok (.ifCond .ne 7, 3) := by decide +kernel
theorem dX1_isFree_18 : decode cX1_isFree 18 = .ok (.iconst 1, 1) := by decide +kernel
theorem dX1_isFree_19 : decode cX1_isFree 19 = .ok (.goto 4, 3) := by decide +kernel
theorem dX1_isFree_22 : decode cX1_isFree 22 = .ok (.iconst 0, 1) := by decide +kernel
theorem dX1_isFree_23 : decode cX1_isFree 23 = .ok (.ireturn, 1) := by decide +kernel
set_option maxRecDepth 20000 in
theorem ggX1_openPipes_X1_isOpen : GoodIn wsX1_openPipes wsX1_isOpen := goodIn_r _ [5, 6, 7, 8, 9, 10, 11, 12, 13, 14, 15, 16, 17, 18, 19, 20, 21, 22, 23, 24, 25, 26, 27, 28, 29] (by decide +kernel) (by decide +kernel)
set_option maxRecDepth 20000 in
theorem gX1_openPipes_X1_isOpen : GoodIn wsX1_openPipes (wsV RX1 98 RX1 yX1_isOpen wsX1_isOpen) := goodIn_app (goodIn_of _ (by decide +kernel)) ggX1_openPipes_X1_isOpen
theorem dX1_openPipes_0 : decode cX1_openPipes 0 = .ok (.iconst 0, 1) := by decide +kernel
theorem dX1_openPipes_1 : decode cX1_openPipes 1 = .ok (.istore_n 2, 1) := by decide +kernel
theorem dX1_openPipes_2 : decode cX1_openPipes 2 = .ok (.iconst 0, 1) := by decide +kernel
theorem dX1_openPipes_3 : decode cX1_openPipes 3 = .ok (.istore_n 3, 1) := by decide +kernel
theorem dX1_openPipes_4 : decode cX1_openPipes 4 = .ok (.iload_n 3, 1) := by decide +kernel
theorem dX1_openPipes_5 : decode cX1_openPipes 5 = .ok (.bipush 6, 2) := by decide +kernel
theorem dX1_openPipes_7 : decode cX1_openPipes 7 = .ok (.if_icmp .ge 24, 3) := by decide +kernel
theorem dX1_openPipes_10 : decode cX1_openPipes 10 = .ok (.aload_n 0, 1) := by decide +kernel
theorem dX1_openPipes_11 : decode cX1_openPipes 11 = .ok (.iload_n 3, 1) := by decide +kernel
theorem dX1_openPipes_12 : decode cX1_openPipes 12 = .ok (.iload_n 1, 1) := by decide +kernel
theorem dX1_openPipes_13 : decode cX1_openPipes 13 = .ok (.invokevirtual 98, 3) := by decide +kernel
theorem dX1_openPipes_16 : decode cX1_openPipes 16 = .ok (.ifCond .eq 9, 3) := by decide +kernel
theorem dX1_openPipes_19 : decode cX1_openPipes 19 = .ok (.iload_n 2, 1) := by decide +kernel
theorem dX1_openPipes_20 : decode cX1_openPipes 20 = .ok (.iconst 1, 1) := by decide +kernel
theorem dX1_openPipes_21 : decode cX1_openPipes 21 = .ok (.iload_n 3, 1) := by decide +kernel
theorem dX1_openPipes_22 : decode cX1_openPipes 22 = .ok (.ishl, 1) := by decide +kernel
theorem dX1_openPipes_23 : decode cX1_openPipes 23 = .ok (.ior, 1) := by decide +kernel
theorem dX1_openPipes_24 : decode cX1_openPipes 24 = .ok (.istore_n 2, 1) := by decide +kernel
theorem dX1_openPipes_25 : decode cX1_openPipes 25 = .ok (.iinc 3 1, 3) := by decide +kernel
theorem dX1_openPipes_28 : decode cX1_openPipes 28 = .ok (.goto (-24), 3) := by decide +kernel
theorem dX1_openPipes_31 : decode cX1_openPipes 31 = .ok (.iload_n 2, 1) := by decide +kernel
theorem dX1_openPipes_32 : decode cX1_openPipes 32 = .ok (.ireturn, 1) := by decide +kernel
set_option maxRecDepth 20000 in
theorem ggX1_coveredBars_X1_openPipes : GoodIn wsX1_coveredBars wsX1_openPipes := goodIn_r _ [5, 6, 7, 8, 4, 9, 10, 11, 12, 13, 14, 15, 16, 24, 25, 26, 27, 28, 29, 30, 31, 32, 33, 34, 35, 36, 37, 38, 39, 40] (by decide +kernel) (by decide +kernel)
set_option maxRecDepth 20000 in
theorem gX1_coveredBars_X1_openPipes : GoodIn wsX1_coveredBars (wsV RX1 112 RX1 yX1_openPipes wsX1_openPipes) := goodIn_app (goodIn_of _ (by decide +kernel)) ggX1_coveredBars_X1_openPipes
set_option maxRecDepth 20000 in
theorem ggX1_coveredBars_J6_bitCount_0f7a4 : GoodIn wsX1_coveredBars wsJ6_bitCount_0f7a4 := goodIn_r _ [20, 21, 22, 23] (by decide +kernel) (by decide +kernel)
set_option maxRecDepth 20000 in
theorem gX1_coveredBars_J6_bitCount_0f7a4 : GoodIn wsX1_coveredBars (va_wsS RX1 93 yJ6_bitCount_0f7a4 wsJ6_bitCount_0f7a4) := goodIn_app (goodIn_of _ (by decide +kernel)) ggX1_coveredBars_J6_bitCount_0f7a4
theorem dX1_coveredBars_0 : decode cX1_coveredBars 0 = .ok (.iconst 0, 1) := by decide +kernel
theorem dX1_coveredBars_1 : decode cX1_coveredBars 1 = .ok (.istore_n 1, 1) := by decide +kernel
theorem dX1_coveredBars_2 : decode cX1_coveredBars 2 = .ok (.iconst 0, 1) := by decide +kernel
theorem dX1_coveredBars_3 : decode cX1_coveredBars 3 = .ok (.istore_n 2, 1) := by decide +kernel
theorem dX1_coveredBars_4 : decode cX1_coveredBars 4 = .ok (.iload_n 2, 1) := by decide +kernel
theorem dX1_coveredBars_5 : decode cX1_coveredBars 5 = .ok (.bipush 24, 2) := by decide +kernel
theorem dX1_coveredBars_7 : decode cX1_coveredBars 7 = .ok (.if_icmp .ge 20, 3) := by decide +kernel
theorem dX1_coveredBars_10 : decode cX1_coveredBars 10 = .ok (.iload_n 1, 1) := by decide +kernel
theorem dX1_coveredBars_11 : decode cX1_coveredBars 11 = .ok (.aload_n 0, 1) := by decide +kernel
theorem dX1_coveredBars_12 : decode cX1_coveredBars 12 = .ok (.iload_n 2, 1) := by decide +kernel
theorem dX1_coveredBars_13 : decode cX1_coveredBars 13 = .ok (.invokevirtual 112, 3) := by decide +kernel
theorem dX1_coveredBars_16 : decode cX1_coveredBars 16 = .ok (.invokestatic 93, 3) := by decide +kernel
theorem dX1_coveredBars_19 : decode cX1_coveredBars 19 = .ok (.iadd, 1) := by decide +kernel
theorem dX1_coveredBars_20 : decode cX1_coveredBars 20 = .ok (.istore_n 1, 1) := by decide +kernel
theorem dX1_coveredBars_21 : decode cX1_coveredBars 21 = .ok (.iinc 2 1, 3) := by decide +kernel
theorem dX1_coveredBars_24 : decode cX1_coveredBars 24 = .ok (.goto (-20), 3) := by decide +kernel
theorem dX1_coveredBars_27 : decode cX1_coveredBars 27 = .ok (.iload_n 1, 1) := by decide +kernel
theorem dX1_coveredBars_28 : decode cX1_coveredBars 28 = .ok (.ireturn, 1) := by decide +kernel
set_option maxRecDepth 20000 in
theorem ggX1_sumOfLengths_X4_at : GoodIn wsX1_sumOfLengths wsX4_at := goodIn_r _ [6, 7, 8, 9, 10, 11, 5, 12, 13, 31, 32, 33, 34] (by decide +kernel) (by decide +kernel)
set_option maxRecDepth 20000 in
theorem gX1_sumOfLengths_X4_at : GoodIn wsX1_sumOfLengths (wsV RX1 102 RX4 yX4_at wsX4_at) := goodIn_app (goodIn_of _ (by decide +kernel)) ggX1_sumOfLengths_X4_at
theorem dX1_sumOfLengths_0 : decode cX1_sumOfLengths 0 = .ok (.iconst 0, 1) := by decide +kernel
theorem dX1_sumOfLengths_1 : decode cX1_sumOfLengths 1 = .ok (.istore_n 1, 1) := by decide +kernel
theorem dX1_sumOfLengths_2 : decode cX1_sumOfLengths 2 = .ok (.iconst 0, 1) := by decide +kernel
theorem dX1_sumOfLengths_3 : decode cX1_sumOfLengths 3 = .ok (.istore_n 2, 1) := by decide +kernel
theorem dX1_sumOfLengths_4 : decode cX1_sumOfLengths 4 = .ok (.iload_n 2, 1) := by decide +kernel
theorem dX1_sumOfLengths_5 : decode cX1_sumOfLengths 5 = .ok (.aload_n 0, 1) := by decide +kernel
theorem dX1_sumOfLengths_6 : decode cX1_sumOfLengths 6 = .ok (.getfield 16, 3) := by decide +kernel
theorem dX1_sumOfLengths_9 : decode cX1_sumOfLengths 9 = .ok (.getfield 79, 3) := by decide +kernel
theorem dX1_sumOfLengths_12 : decode cX1_sumOfLengths 12 = .ok (.if_icmp .ge 21, 3) := by decide +kernel
theorem dX1_sumOfLengths_15 : decode cX1_sumOfLengths 15 = .ok (.iload_n 1, 1) := by decide +kernel
theorem dX1_sumOfLengths_16 : decode cX1_sumOfLengths 16 = .ok (.aload_n 0, 1) := by decide +kernel
theorem dX1_sumOfLengths_17 : decode cX1_sumOfLengths 17 = .ok (.getfield 16, 3) := by decide +kernel
theorem dX1_sumOfLengths_20 : decode cX1_sumOfLengths 20 = .ok (.iload_n 2, 1) := by decide +kernel
theorem dX1_sumOfLengths_21 : decode cX1_sumOfLengths 21 = .ok (.iconst 2, 1) := by decide +kernel
theorem dX1_sumOfLengths_22 : decode cX1_sumOfLengths 22 = .ok (.invokevirtual 102, 3) := by decide +kernel
theorem dX1_sumOfLengths_25 : decode cX1_sumOfLengths 25 = .ok (.iadd, 1) := by decide +kernel
theorem dX1_sumOfLengths_26 : decode cX1_sumOfLengths 26 = .ok (.istore_n 1, 1) := by decide +kernel
theorem dX1_sumOfLengths_27 : decode cX1_sumOfLengths 27 = .ok (.iinc 2 1, 3) := by decide +kernel
theorem dX1_sumOfLengths_30 : decode cX1_sumOfLengths 30 = .ok (.goto (-26), 3) := by decide +kernel
theorem dX1_sumOfLengths_33 : decode cX1_sumOfLengths 33 = .ok (.iload_n 1, 1) := by decide +kernel
theorem dX1_sumOfLengths_34 : decode cX1_sumOfLengths 34 = .ok (.ireturn, 1) := by decide +kernel
set_option maxRecDepth 20000 in
theorem ggX1_orderPut_X5_isLength : GoodIn wsX1_orderPut wsX5_isLength := goodIn_r _ [3] (by decide +kernel) (by decide +kernel)
set_option maxRecDepth 20000 in
theorem gX1_orderPut_X5_isLength_n115 : GoodIn wsX1_orderPut (wsX5_isLength) := ggX1_orderPut_X5_isLength
set_option maxRecDepth 20000 in
theorem ggX1_orderPut_X1_addOrder : GoodIn wsX1_orderPut wsX1_addOrder := goodIn_r _ [8, 9, 10, 2, 11, 12, 13, 14, 15, 16, 17, 18, 19, 20, 21, 22, 23, 24, 25, 26, 27, 28, 29, 30, 31, 32, 33, 34, 35, 36, 37, 38, 39, 40, 41, 42, 43, 44, 45, 46, 47, 48, 49, 50, 51, 52, 53, 54, 55, 56] (by decide +kernel) (by decide +kernel)
set_option maxRecDepth 20000 in
theorem gX1_orderPut_X1_addOrder : GoodIn wsX1_orderPut (wsV RX1 118 RX1 yX1_addOrder wsX1_addOrder) := goodIn_app (goodIn_of _ (by decide +kernel)) ggX1_orderPut_X1_addOrder
theorem dX1_orderPut_0 : decode cX1_orderPut 0 = .ok (.iload_n 3, 1) := by decide +kernel
theorem dX1_orderPut_1 : decode cX1_orderPut 1 = .ok (.invokestatic 115, 3) := by decide +kernel
theorem dX1_orderPut_4 : decode cX1_orderPut 4 = .ok (.ifCond .eq 14, 3) := by decide +kernel
theorem dX1_orderPut_7 : decode cX1_orderPut 7 = .ok (.aload_n 0, 1) := by decide +kernel
theorem dX1_orderPut_8 : decode cX1_orderPut 8 = .ok (.iconst 1, 1) := by decide +kernel
theorem dX1_orderPut_9 : decode cX1_orderPut 9 = .ok (.iload_n 1, 1) := by decide +kernel
theorem dX1_orderPut_10 : decode cX1_orderPut 10 = .ok (.iload_n 2, 1) := by decide +kernel
theorem dX1_orderPut_11 : decode cX1_orderPut 11 = .ok (.iload_n 3, 1) := by decide +kernel
theorem dX1_orderPut_12 : decode cX1_orderPut 12 = .ok (.invokevirtual 118, 3) := by decide +kernel
theorem dX1_orderPut_15 : decode cX1_orderPut 15 = .ok (.goto 4, 3) := by decide +kernel
theorem dX1_orderPut_18 : decode cX1_orderPut 18 = .ok (.iconst (-1), 1) := by decide +kernel
theorem dX1_orderPut_19 : decode cX1_orderPut 19 = .ok (.ireturn, 1) := by decide +kernel
set_option maxRecDepth 20000 in
theorem ggX1_orderPull_X1_addOrder : GoodIn wsX1_orderPull wsX1_addOrder := goodIn_r _ [5, 6, 7, 8, 9, 10, 11, 12, 13, 14, 15, 16, 17, 18, 19, 20, 21, 22, 23, 24, 25, 26, 27, 28, 29, 30, 31, 32, 33, 34, 35, 36, 37, 38, 39, 40, 41, 42, 43, 44, 45, 46, 47, 48, 49, 50, 51, 52, 53, 54] (by decide +kernel) (by decide +kernel)
set_option maxRecDepth 20000 in
theorem gX1_orderPull_X1_addOrder : GoodIn wsX1_orderPull (wsV RX1 118 RX1 yX1_addOrder wsX1_addOrder) := goodIn_app (goodIn_of _ (by decide +kernel)) ggX1_orderPull_X1_addOrder
theorem dX1_orderPull_0 : decode cX1_orderPull 0 = .ok (.aload_n 0, 1) := by decide +kernel
theorem dX1_orderPull_1 : decode cX1_orderPull 1 = .ok (.iconst 0, 1) := by decide +kernel
theorem dX1_orderPull_2 : decode cX1_orderPull 2 = .ok (.iload_n 1, 1) := by decide +kernel
theorem dX1_orderPull_3 : decode cX1_orderPull 3 = .ok (.iload_n 2, 1) := by decide +kernel
theorem dX1_orderPull_4 : decode cX1_orderPull 4 = .ok (.iconst 0, 1) := by decide +kernel
theorem dX1_orderPull_5 : decode cX1_orderPull 5 = .ok (.invokevirtual 118, 3) := by decide +kernel
theorem dX1_orderPull_8 : decode cX1_orderPull 8 = .ok (.ireturn, 1) := by decide +kernel
set_option maxRecDepth 20000 in
theorem ggX1_addOrder_X5_isPipe : GoodIn wsX1_addOrder wsX5_isPipe := goodIn_r _ [4] (by decide +kernel) (by decide +kernel)
set_option maxRecDepth 20000 in
theorem gX1_addOrder_X5_isPipe_n86 : GoodIn wsX1_addOrder (wsX5_isPipe) := ggX1_addOrder_X5_isPipe
set_option maxRecDepth 20000 in
theorem ggX1_addOrder_X5_isBar : GoodIn wsX1_addOrder wsX5_isBar := goodIn_r _ [6] (by decide +kernel) (by decide +kernel)
set_option maxRecDepth 20000 in
theorem gX1_addOrder_X5_isBar_n122 : GoodIn wsX1_addOrder (wsX5_isBar) := ggX1_addOrder_X5_isBar
set_option maxRecDepth 20000 in
theorem ggX1_addOrder_X4_isFull : GoodIn wsX1_addOrder wsX4_isFull := goodIn_r _ [11, 12, 13, 46, 47, 48, 49] (by decide +kernel) (by decide +kernel)
set_option maxRecDepth 20000 in
theorem gX1_addOrder_X4_isFull : GoodIn wsX1_addOrder (wsV RX1 125 RX4 yX4_isFull wsX4_isFull) := goodIn_app (goodIn_of _ (by decide +kernel)) ggX1_addOrder_X4_isFull
set_option maxRecDepth 20000 in
theorem ggX1_addOrder_X4_addLine : GoodIn wsX1_addOrder wsX4_addLine := goodIn_r _ [17, 12, 18, 8, 9, 10, 11, 13, 46, 47, 48, 49] (by decide +kernel) (by decide +kernel)
set_option maxRecDepth 20000 in
theorem gX1_addOrder_X4_addLine : GoodIn wsX1_addOrder (wsV RX1 129 RX4 yX4_addLine wsX4_addLine) := goodIn_app (goodIn_of _ (by decide +kernel)) ggX1_addOrder_X4_addLine
set_option maxRecDepth 20000 in
theorem ggX1_addOrder_X4_write : GoodIn wsX1_addOrder wsX4_write := goodIn_r _ [22, 23, 24, 25, 26, 27, 10, 28, 13, 46, 47, 48, 49] (by decide +kernel) (by decide +kernel)
set_option maxRecDepth 20000 in
theorem gX1_addOrder_X4_write : GoodIn wsX1_addOrder (wsV RX1 133 RX4 yX4_write wsX4_write) := goodIn_app (goodIn_of _ (by decide +kernel)) ggX1_addOrder_X4_write
theorem dX1_addOrder_0 : decode cX1_addOrder 0 = .ok (.iload_n 2, 1) := by decide +kernel
theorem dX1_addOrder_1 : decode cX1_addOrder 1 = .ok (.invokestatic 86, 3) := by decide +kernel
theorem dX1_addOrder_4 : decode cX1_addOrder 4 = .ok (.ifCond .eq 20, 3) := by decide +kernel
theorem dX1_addOrder_7 : decode cX1_addOrder 7 = .ok (.iload_n 3, 1) := by decide +kernel
theorem dX1_addOrder_8 : decode cX1_addOrder 8 = .ok (.invokestatic 122, 3) := by decide +kernel
theorem dX1_addOrder_11 : decode cX1_addOrder 11 = .ok (.ifCond .eq 13, 3) := by decide +kernel
theorem dX1_addOrder_14 : decode cX1_addOrder 14 = .ok (.aload_n 0, 1) := by decide +kernel
theorem dX1_addOrder_15 : decode cX1_addOrder 15 = .ok (.getfield 20, 3) := by decide +kernel
theorem dX1_addOrder_18 : decode cX1_addOrder 18 = .ok (.invokevirtual 125, 3) := by decide +kernel
theorem dX1_addOrder_21 : decode cX1_addOrder 21 = .ok (.ifCond .eq 5, 3) := by decide +kernel
theorem dX1_addOrder_24 : decode cX1_addOrder 24 = .ok (.iconst (-1), 1) := by decide +kernel
theorem dX1_addOrder_25 : decode cX1_addOrder 25 = .ok (.ireturn, 1) := by decide +kernel
theorem dX1_addOrder_26 : decode cX1_addOrder 26 = .ok (.aload_n 0, 1) := by decide +kernel
theorem dX1_addOrder_27 : decode cX1_addOrder 27 = .ok (.getfield 20, 3) := by decide +kernel
theorem dX1_addOrder_30 : decode cX1_addOrder 30 = .ok (.invokevirtual 129, 3) := by decide +kernel
theorem dX1_addOrder_33 : decode cX1_addOrder 33 = .ok (.istore 5, 2) := by decide +kernel
theorem dX1_addOrder_35 : decode cX1_addOrder 35 = .ok (.aload_n 0, 1) := by decide +kernel
theorem dX1_addOrder_36 : decode cX1_addOrder 36 = .ok (.getfield 20, 3) := by decide +kernel
theorem dX1_addOrder_39 : decode cX1_addOrder 39 = .ok (.iload 5, 2) := by decide +kernel
theorem dX1_addOrder_41 : decode cX1_addOrder 41 = .ok (.iconst 0, 1) := by decide +kernel
theorem dX1_addOrder_42 : decode cX1_addOrder 42 = .ok (.iload_n 1, 1) := by decide +kernel
theorem dX1_addOrder_43 : decode cX1_addOrder 43 = .ok (.invokevirtual 133, 3) := by decide +kernel
theorem dX1_addOrder_46 : decode cX1_addOrder 46 = .ok (.aload_n 0, 1) := by decide +kernel
theorem dX1_addOrder_47 : decode cX1_addOrder 47 = .ok (.getfield 20, 3) := by decide +kernel
theorem dX1_addOrder_50 : decode cX1_addOrder 50 = .ok (.iload 5, 2) := by decide +kernel
theorem dX1_addOrder_52 : decode cX1_addOrder 52 = .ok (.iconst 1, 1) := by decide +kernel
theorem dX1_addOrder_53 : decode cX1_addOrder 53 = .ok (.iload_n 2, 1) := by decide +kernel
theorem dX1_addOrder_54 : decode cX1_addOrder 54 = .ok (.invokevirtual 133, 3) := by decide +kernel
theorem dX1_addOrder_57 : decode cX1_addOrder 57 = .ok (.aload_n 0, 1) := by decide +kernel
theorem dX1_addOrder_58 : decode cX1_addOrder 58 = .ok (.getfield 20, 3) := by decide +kernel
theorem dX1_addOrder_61 : decode cX1_addOrder 61 = .ok (.iload 5, 2) := by decide +kernel
theorem dX1_addOrder_63 : decode cX1_addOrder 63 = .ok (.iconst 2, 1) := by decide +kernel
theorem dX1_addOrder_64 : decode cX1_addOrder 64 = .ok (.iload_n 3, 1) := by decide +kernel
theorem dX1_addOrder_65 : decode cX1_addOrder 65 = .ok (.invokevirtual 133, 3) := by decide +kernel
theorem dX1_addOrder_68 : decode cX1_addOrder 68 = .ok (.aload_n 0, 1) := by decide +kernel
theorem dX1_addOrder_69 : decode cX1_addOrder 69 = .ok (.getfield 20, 3) := by decide +kernel
theorem dX1_addOrder_72 : decode cX1_addOrder 72 = .ok (.iload 5, 2) := by decide +kernel
theorem dX1_addOrder_74 : decode cX1_addOrder 74 = .ok (.iconst 3, 1) := by decide +kernel
theorem dX1_addOrder_75 : decode cX1_addOrder 75 = .ok (.iload 4, 2) := by decide +kernel
theorem dX1_addOrder_77 : decode cX1_addOrder 77 = .ok (.invokevirtual 133, 3) := by decide +kernel
theorem dX1_addOrder_80 : decode cX1_addOrder 80 = .ok (.aload_n 0, 1) := by decide +kernel
theorem dX1_addOrder_81 : decode cX1_addOrder 81 = .ok (.getfield 20, 3) := by decide +kernel
theorem dX1_addOrder_84 : decode cX1_addOrder 84 = .ok (.iload 5, 2) := by decide +kernel
theorem dX1_addOrder_86 : decode cX1_addOrder 86 = .ok (.iconst 4, 1) := by decide +kernel
theorem dX1_addOrder_87 : decode cX1_addOrder 87 = .ok (.iconst 0, 1) := by decide +kernel
theorem dX1_addOrder_88 : decode cX1_addOrder 88 = .ok (.invokevirtual 133, 3) := by decide +kernel
theorem dX1_addOrder_91 : decode cX1_addOrder 91 = .ok (.iload 5, 2) := by decide +kernel
theorem dX1_addOrder_93 : decode cX1_addOrder 93 = .ok (.ireturn, 1) := by decide +kernel
set_option maxRecDepth 20000 in
theorem ggX1_dropOrder_X4_has : GoodIn wsX1_dropOrder wsX4_has := goodIn_r _ [7, 8, 37, 38, 39, 40] (by decide +kernel) (by decide +kernel)
set_option maxRecDepth 20000 in
theorem gX1_dropOrder_X4_has : GoodIn wsX1_dropOrder (wsV RX1 137 RX4 yX4_has wsX4_has) := goodIn_app (goodIn_of _ (by decide +kernel)) ggX1_dropOrder_X4_has
set_option maxRecDepth 20000 in
theorem ggX1_dropOrder_X4_removeLine : GoodIn wsX1_dropOrder wsX4_removeLine := goodIn_r _ [12, 8, 13, 14, 15, 16, 17, 18, 19, 4, 5, 6, 7, 37, 38, 39, 40] (by decide +kernel) (by decide +kernel)
set_option maxRecDepth 20000 in
theorem gX1_dropOrder_X4_removeLine : GoodIn wsX1_dropOrder (wsV RX1 140 RX4 yX4_removeLine wsX4_removeLine) := goodIn_app (goodIn_of _ (by decide +kernel)) ggX1_dropOrder_X4_removeLine
theorem dX1_dropOrder_0 : decode cX1_dropOrder 0 = .ok (.aload_n 0, 1) := by decide +kernel
theorem dX1_dropOrder_1 : decode cX1_dropOrder 1 = .ok (.getfield 20, 3) := by decide +kernel
theorem dX1_dropOrder_4 : decode cX1_dropOrder 4 = .ok (.iload_n 1, 1) := by decide +kernel
theorem dX1_dropOrder_5 : decode cX1_dropOrder 5 = .ok (.invokevirtual 137, 3) := by decide +kernel
theorem dX1_dropOrder_8 : decode cX1_dropOrder 8 = .ok (.ifCond .ne 5, 3) := by decide +kernel
theorem dX1_dropOrder_11 : decode cX1_dropOrder 11 = .ok (.iconst (-1), 1) := by decide +kernel
theorem dX1_dropOrder_12 : decode cX1_dropOrder 12 = .ok (.ireturn, 1) := by decide +kernel
theorem dX1_dropOrder_13 : decode cX1_dropOrder 13 = .ok (.aload_n 0, 1) := by decide +kernel
theorem dX1_dropOrder_14 : decode cX1_dropOrder 14 = .ok (.getfield 20, 3) := by decide +kernel
theorem dX1_dropOrder_17 : decode cX1_dropOrder 17 = .ok (.iload_n 1, 1) := by decide +kernel
theorem dX1_dropOrder_18 : decode cX1_dropOrder 18 = .ok (.invokevirtual 140, 3) := by decide +kernel
theorem dX1_dropOrder_21 : decode cX1_dropOrder 21 = .ok (.iload_n 1, 1) := by decide +kernel
theorem dX1_dropOrder_22 : decode cX1_dropOrder 22 = .ok (.aload_n 0, 1) := by decide +kernel
theorem dX1_dropOrder_23 : decode cX1_dropOrder 23 = .ok (.getfield 36, 3) := by decide +kernel
theorem dX1_dropOrder_26 : decode cX1_dropOrder 26 = .ok (.if_icmp .ne 11, 3) := by decide +kernel
theorem dX1_dropOrder_29 : decode cX1_dropOrder 29 = .ok (.aload_n 0, 1) := by decide +kernel
theorem dX1_dropOrder_30 : decode cX1_dropOrder 30 = .ok (.iconst (-1), 1) := by decide +kernel
theorem dX1_dropOrder_31 : decode cX1_dropOrder 31 = .ok (.putfield 36, 3) := by decide +kernel
theorem dX1_dropOrder_34 : decode cX1_dropOrder 34 = .ok (.goto 21, 3) := by decide +kernel
theorem dX1_dropOrder_37 : decode cX1_dropOrder 37 = .ok (.iload_n 1, 1) := by decide +kernel
theorem dX1_dropOrder_38 : decode cX1_dropOrder 38 = .ok (.aload_n 0, 1) := by decide +kernel
theorem dX1_dropOrder_39 : decode cX1_dropOrder 39 = .ok (.getfield 36, 3) := by decide +kernel
theorem dX1_dropOrder_42 : decode cX1_dropOrder 42 = .ok (.if_icmp .ge 13, 3) := by decide +kernel
theorem dX1_dropOrder_45 : decode cX1_dropOrder 45 = .ok (.aload_n 0, 1) := by decide +kernel
theorem dX1_dropOrder_46 : decode cX1_dropOrder 46 = .ok (.dup, 1) := by decide +kernel
theorem dX1_dropOrder_47 : decode cX1_dropOrder 47 = .ok (.getfield 36, 3) := by decide +kernel
theorem dX1_dropOrder_50 : decode cX1_dropOrder 50 = .ok (.iconst 1, 1) := by decide +kernel
theorem dX1_dropOrder_51 : decode cX1_dropOrder 51 = .ok (.isub, 1) := by decide +kernel
theorem dX1_dropOrder_52 : decode cX1_dropOrder 52 = .ok (.putfield 36, 3) := by decide +kernel
theorem dX1_dropOrder_55 : decode cX1_dropOrder 55 = .ok (.aload_n 0, 1) := by decide +kernel
theorem dX1_dropOrder_56 : decode cX1_dropOrder 56 = .ok (.getfield 20, 3) := by decide +kernel
theorem dX1_dropOrder_59 : decode cX1_dropOrder 59 = .ok (.getfield 79, 3) := by decide +kernel
theorem dX1_dropOrder_62 : decode cX1_dropOrder 62 = .ok (.ireturn, 1) := by decide +kernel
set_option maxRecDepth 20000 in
theorem ggX1_change_X5_isSettingValue : GoodIn wsX1_change wsX5_isSettingValue := goodIn_r _ [4, 5, 6, 7, 3, 8] (by decide +kernel) (by decide +kernel)
set_option maxRecDepth 20000 in
theorem gX1_change_X5_isSettingValue_n144 : GoodIn wsX1_change (wsX5_isSettingValue) := ggX1_change_X5_isSettingValue
theorem dX1_change_0 : decode cX1_change 0 = .ok (.iload_n 1, 1) := by decide +kernel
theorem dX1_change_1 : decode cX1_change 1 = .ok (.iload_n 2, 1) := by decide +kernel
theorem dX1_change_2 : decode cX1_change 2 = .ok (.invokestatic 144, 3) := by decide +kernel
theorem dX1_change_5 : decode cX1_change 5 = .ok (.ifCond .ne 5, 3) := by decide +kernel
theorem dX1_change_8 : decode cX1_change 8 = .ok (.iconst (-1), 1) := by decide +kernel
theorem dX1_change_9 : decode cX1_change 9 = .ok (.ireturn, 1) := by decide +kernel
theorem dX1_change_10 : decode cX1_change 10 = .ok (.aload_n 0, 1) := by decide +kernel
theorem dX1_change_11 : decode cX1_change 11 = .ok (.getfield 33, 3) := by decide +kernel
theorem dX1_change_14 : decode cX1_change 14 = .ok (.iload_n 1, 1) := by decide +kernel
theorem dX1_change_15 : decode cX1_change 15 = .ok (.iaload, 1) := by decide +kernel
theorem dX1_change_16 : decode cX1_change 16 = .ok (.istore_n 3, 1) := by decide +kernel
theorem dX1_change_17 : decode cX1_change 17 = .ok (.aload_n 0, 1) := by decide +kernel
theorem dX1_change_18 : decode cX1_change 18 = .ok (.getfield 33, 3) := by decide +kernel
theorem dX1_change_21 : decode cX1_change 21 = .ok (.iload_n 1, 1) := by decide +kernel
theorem dX1_change_22 : decode cX1_change 22 = .ok (.iload_n 2, 1) := by decide +kernel
theorem dX1_change_23 : decode cX1_change 23 = .ok (.iastore, 1) := by decide +kernel
theorem dX1_change_24 : decode cX1_change 24 = .ok (.iload_n 3, 1) := by decide +kernel
theorem dX1_change_25 : decode cX1_change 25 = .ok (.ireturn, 1) := by decide +kernel
set_option maxRecDepth 20000 in
theorem ggX1_play_X5_isTicks : GoodIn wsX1_play wsX5_isTicks := goodIn_r _ [11] (by decide +kernel) (by decide +kernel)
set_option maxRecDepth 20000 in
theorem gX1_play_X5_isTicks_n147 : GoodIn wsX1_play (wsX5_isTicks) := ggX1_play_X5_isTicks
set_option maxRecDepth 20000 in
theorem ggX1_play_X1_turnCrank : GoodIn wsX1_play wsX1_turnCrank := goodIn_r _ [16, 17, 4, 18, 114, 115, 116, 117, 118, 119, 120, 121, 122, 123, 124, 125, 126, 127, 128, 129, 130] (by decide +kernel) (by decide +kernel)
set_option maxRecDepth 20000 in
theorem gX1_play_X1_turnCrank : GoodIn wsX1_play (wsV RX1 150 RX1 yX1_turnCrank wsX1_turnCrank) := goodIn_app (goodIn_of _ (by decide +kernel)) ggX1_play_X1_turnCrank
set_option maxRecDepth 20000 in
theorem ggX1_play_X1_lookAtOrders : GoodIn wsX1_play wsX1_lookAtOrders := goodIn_r _ [22, 23, 24, 25, 26, 27, 28, 15, 29, 17, 30, 31, 32, 33, 34, 35, 36, 37, 38, 39, 40, 41, 42, 10, 43, 44, 45, 46, 47, 48, 49, 50, 51, 52, 53, 54, 55, 56, 57, 58, 59, 60, 61, 62, 63, 64, 65, 66, 67, 68, 69, 70, 71, 72, 73, 74, 75, 76, 77, 78, 79, 80, 81, 82, 83, 84, 85, 86, 87, 88, 89, 90, 91, 92, 93, 94, 95, 96, 97, 98, 99, 100, 114, 115, 116, 117, 118, 119, 120, 121, 122, 123, 124, 125, 126, 127, 128, 129, 130, 131, 132, 133, 134] (by decide +kernel) (by decide +kernel)
set_option maxRecDepth 20000 in
theorem gX1_play_X1_lookAtOrders : GoodIn wsX1_play (wsV RX1 158 RX1 yX1_lookAtOrders wsX1_lookAtOrders) := goodIn_app (goodIn_of _ (by decide +kernel)) ggX1_play_X1_lookAtOrders
set_option maxRecDepth 20000 in
theorem ggX1_play_X1_blowPipes : GoodIn wsX1_play wsX1_blowPipes := goodIn_r _ [104, 17, 3, 1, 105, 106, 107, 108, 4, 109, 45, 46, 47, 15, 48, 49, 50, 10, 51, 42, 43, 44, 110, 111, 112, 113, 114, 115, 116, 117, 118, 119, 120, 121, 122, 123, 124, 125, 126, 127, 128, 129, 130] (by decide +kernel) (by decide +kernel)
set_option maxRecDepth 20000 in
theorem gX1_play_X1_blowPipes : GoodIn wsX1_play (wsV RX1 161 RX1 yX1_blowPipes wsX1_blowPipes) := goodIn_app (goodIn_of _ (by decide +kernel)) ggX1_play_X1_blowPipes
theorem dX1_play_0 : decode cX1_play 0 = .ok (.iload_n 1, 1) := by decide +kernel
theorem dX1_play_1 : decode cX1_play 1 = .ok (.invokestatic 147, 3) := by decide +kernel
theorem dX1_play_4 : decode cX1_play 4 = .ok (.ifCond .ne 5, 3) := by decide +kernel
theorem dX1_play_7 : decode cX1_play 7 = .ok (.iconst (-1), 1) := by decide +kernel
theorem dX1_play_8 : decode cX1_play 8 = .ok (.ireturn, 1) := by decide +kernel
theorem dX1_play_9 : decode cX1_play 9 = .ok (.aload_n 0, 1) := by decide +kernel
theorem dX1_play_10 : decode cX1_play 10 = .ok (.getfield 70, 3) := by decide +kernel
theorem dX1_play_13 : decode cX1_play 13 = .ok (.istore_n 2, 1) := by decide +kernel
theorem dX1_play_14 : decode cX1_play 14 = .ok (.iconst 0, 1) := by decide +kernel
theorem dX1_play_15 : decode cX1_play 15 = .ok (.istore_n 3, 1) := by decide +kernel
theorem dX1_play_16 : decode cX1_play 16 = .ok (.iload_n 3, 1) := by decide +kernel
theorem dX1_play_17 : decode cX1_play 17 = .ok (.iload_n 1, 1) := by decide +kernel
theorem dX1_play_18 : decode cX1_play 18 = .ok (.if_icmp .ge 57, 3) := by decide +kernel
theorem dX1_play_21 : decode cX1_play 21 = .ok (.aload_n 0, 1) := by decide +kernel
theorem dX1_play_22 : decode cX1_play 22 = .ok (.dup, 1) := by decide +kernel
theorem dX1_play_23 : decode cX1_play 23 = .ok (.getfield 48, 3) := by decide +kernel
theorem dX1_play_26 : decode cX1_play 26 = .ok (.iconst 1, 1) := by decide +kernel
theorem dX1_play_27 : decode cX1_play 27 = .ok (.iadd, 1) := by decide +kernel
theorem dX1_play_28 : decode cX1_play 28 = .ok (.putfield 48, 3) := by decide +kernel
theorem dX1_play_31 : decode cX1_play 31 = .ok (.aload_n 0, 1) := by decide +kernel
theorem dX1_play_32 : decode cX1_play 32 = .ok (.invokevirtual 150, 3) := by decide +kernel
theorem dX1_play_35 : decode cX1_play 35 = .ok (.aload_n 0, 1) := by decide +kernel
theorem dX1_play_36 : decode cX1_play 36 = .ok (.aload_n 0, 1) := by decide +kernel
theorem dX1_play_37 : decode cX1_play 37 = .ok (.getfield 60, 3) := by decide +kernel
theorem dX1_play_40 : decode cX1_play 40 = .ok (.iconst 2, 1) := by decide +kernel
theorem dX1_play_41 : decode cX1_play 41 = .ok (.aload_n 0, 1) := by decide +kernel
theorem dX1_play_42 : decode cX1_play 42 = .ok (.getfield 33, 3) := by decide +kernel
theorem dX1_play_45 : decode cX1_play 45 = .ok (.iconst 0, 1) := by decide +kernel
theorem dX1_play_46 : decode cX1_play 46 = .ok (.iaload, 1) := by decide +kernel
theorem dX1_play_47 : decode cX1_play 47 = .ok (.imul, 1) := by decide +kernel
theorem dX1_play_48 : decode cX1_play 48 = .ok (.iadd, 1) := by decide +kernel
theorem dX1_play_49 : decode cX1_play 49 = .ok (.aload_n 0, 1) := by decide +kernel
theorem dX1_play_50 : decode cX1_play 50 = .ok (.getfield 33, 3) := by decide +kernel
theorem dX1_play_53 : decode cX1_play 53 = .ok (.iconst 2, 1) := by decide +kernel
theorem dX1_play_54 : decode cX1_play 54 = .ok (.iaload, 1) := by decide +kernel
theorem dX1_play_55 : decode cX1_play 55 = .ok (.invokestatic 153, 3) := by decide +kernel
theorem dX1_play_58 : decode cX1_play 58 = .ok (.putfield 60, 3) := by decide +kernel
theorem dX1_play_61 : decode cX1_play 61 = .ok (.aload_n 0, 1) := by decide +kernel
theorem dX1_play_62 : decode cX1_play 62 = .ok (.invokevirtual 158, 3) := by decide +kernel
theorem dX1_play_65 : decode cX1_play 65 = .ok (.aload_n 0, 1) := by decide +kernel
theorem dX1_play_66 : decode cX1_play 66 = .ok (.invokevirtual 161, 3) := by decide +kernel
theorem dX1_play_69 : decode cX1_play 69 = .ok (.iinc 3 1, 3) := by decide +kernel
theorem dX1_play_72 : decode cX1_play 72 = .ok (.goto (-56), 3) := by decide +kernel
theorem dX1_play_75 : decode cX1_play 75 = .ok (.aload_n 0, 1) := by decide +kernel
theorem dX1_play_76 : decode cX1_play 76 = .ok (.getfield 70, 3) := by decide +kernel
theorem dX1_play_79 : decode cX1_play 79 = .ok (.iload_n 2, 1) := by decide +kernel
theorem dX1_play_80 : decode cX1_play 80 = .ok (.isub, 1) := by decide +kernel
theorem dX1_play_81 : decode cX1_play 81 = .ok (.ireturn, 1) := by decide +kernel
theorem dX1_turnCrank_0 : decode cX1_turnCrank 0 = .ok (.aload_n 0, 1) := by decide +kernel
theorem dX1_turnCrank_1 : decode cX1_turnCrank 1 = .ok (.dup, 1) := by decide +kernel
theorem dX1_turnCrank_2 : decode cX1_turnCrank 2 = .ok (.getfield 51, 3) := by decide +kernel
theorem dX1_turnCrank_5 : decode cX1_turnCrank 5 = .ok (.aload_n 0, 1) := by decide +kernel
theorem dX1_turnCrank_6 : decode cX1_turnCrank 6 = .ok (.getfield 33, 3) := by decide +kernel
theorem dX1_turnCrank_9 : decode cX1_turnCrank 9 = .ok (.iconst 0, 1) := by decide +kernel
theorem dX1_turnCrank_10 : decode cX1_turnCrank 10 = .ok (.iaload, 1) := by decide +kernel
theorem dX1_turnCrank_11 : decode cX1_turnCrank 11 = .ok (.iadd, 1) := by decide +kernel
theorem dX1_turnCrank_12 : decode cX1_turnCrank 12 = .ok (.putfield 51, 3) := by decide +kernel
theorem dX1_turnCrank_15 : decode cX1_turnCrank 15 = .ok (.aload_n 0, 1) := by decide +kernel
theorem dX1_turnCrank_16 : decode cX1_turnCrank 16 = .ok (.getfield 51, 3) := by decide +kernel
theorem dX1_turnCrank_19 : decode cX1_turnCrank 19 = .ok (.bipush 24, 2) := by decide +kernel
theorem dX1_turnCrank_21 : decode cX1_turnCrank 21 = .ok (.if_icmp .lt 24, 3) := by decide +kernel
theorem dX1_turnCrank_24 : decode cX1_turnCrank 24 = .ok (.aload_n 0, 1) := by decide +kernel
theorem dX1_turnCrank_25 : decode cX1_turnCrank 25 = .ok (.dup, 1) := by decide +kernel
theorem dX1_turnCrank_26 : decode cX1_turnCrank 26 = .ok (.getfield 51, 3) := by decide +kernel
theorem dX1_turnCrank_29 : decode cX1_turnCrank 29 = .ok (.bipush 24, 2) := by decide +kernel
theorem dX1_turnCrank_31 : decode cX1_turnCrank 31 = .ok (.isub, 1) := by decide +kernel
theorem dX1_turnCrank_32 : decode cX1_turnCrank 32 = .ok (.putfield 51, 3) := by decide +kernel
theorem dX1_turnCrank_35 : decode cX1_turnCrank 35 = .ok (.aload_n 0, 1) := by decide +kernel
theorem dX1_turnCrank_36 : decode cX1_turnCrank 36 = .ok (.dup, 1) := by decide +kernel
theorem dX1_turnCrank_37 : decode cX1_turnCrank 37 = .ok (.getfield 54, 3) := by decide +kernel
theorem dX1_turnCrank_40 : decode cX1_turnCrank 40 = .ok (.iconst 1, 1) := by decide +kernel
theorem dX1_turnCrank_41 : decode cX1_turnCrank 41 = .ok (.iadd, 1) := by decide +kernel
theorem dX1_turnCrank_42 : decode cX1_turnCrank 42 = .ok (.putfield 54, 3) := by decide +kernel
theorem dX1_turnCrank_45 : decode cX1_turnCrank 45 = .ok (.return_, 1) := by decide +kernel
set_option maxRecDepth 20000 in
theorem ggX1_lookAtOrders_X1_goesOnWaiting : GoodIn wsX1_lookAtOrders wsX1_goesOnWaiting := goodIn_r _ [8, 1, 9, 10, 11, 12, 13, 14, 15, 16, 17, 18, 19, 20, 21, 22, 23, 24, 25, 26, 27, 28, 7, 29, 30, 31, 32, 82, 83, 84, 85, 86, 87, 88, 89, 90, 91, 92, 93, 94, 95, 96, 97, 98, 99, 100, 101, 102] (by decide +kernel) (by decide +kernel)
set_option maxRecDepth 20000 in
theorem gX1_lookAtOrders_X1_goesOnWaiting : GoodIn wsX1_lookAtOrders (wsV RX1 164 RX1 yX1_goesOnWaiting wsX1_goesOnWaiting) := goodIn_app (goodIn_of _ (by decide +kernel)) ggX1_lookAtOrders_X1_goesOnWaiting
set_option maxRecDepth 20000 in
theorem ggX1_lookAtOrders_X4_at : GoodIn wsX1_lookAtOrders wsX4_at := goodIn_r _ [14, 15, 16, 17, 18, 19, 13, 20, 21, 99, 100, 101, 102] (by decide +kernel) (by decide +kernel)
set_option maxRecDepth 20000 in
theorem gX1_lookAtOrders_X4_at : GoodIn wsX1_lookAtOrders (wsV RX1 102 RX4 yX4_at wsX4_at) := goodIn_app (goodIn_of _ (by decide +kernel)) ggX1_lookAtOrders_X4_at
set_option maxRecDepth 20000 in
theorem ggX1_lookAtOrders_X4_write : GoodIn wsX1_lookAtOrders wsX4_write := goodIn_r _ [36, 15, 16, 17, 18, 19, 13, 20, 21, 99, 100, 101, 102] (by decide +kernel) (by decide +kernel)
set_option maxRecDepth 20000 in
theorem gX1_lookAtOrders_X4_write : GoodIn wsX1_lookAtOrders (wsV RX1 133 RX4 yX4_write wsX4_write) := goodIn_app (goodIn_of _ (by decide +kernel)) ggX1_lookAtOrders_X4_write
set_option maxRecDepth 20000 in
theorem ggX1_lookAtOrders_X1_isPut : GoodIn wsX1_lookAtOrders wsX1_isPut := goodIn_r _ [40, 1, 10, 11, 12, 13, 14, 15, 16, 17, 18, 19, 20, 21, 82, 83, 84, 85, 86, 87, 88, 89, 90, 91, 92, 93, 94, 95, 96, 97, 98, 99, 100, 101, 102] (by decide +kernel) (by decide +kernel)
set_option maxRecDepth 20000 in
theorem gX1_lookAtOrders_X1_isPut : GoodIn wsX1_lookAtOrders (wsV RX1 167 RX1 yX1_isPut wsX1_isPut) := goodIn_app (goodIn_of _ (by decide +kernel)) ggX1_lookAtOrders_X1_isPut
set_option maxRecDepth 20000 in
theorem ggX1_lookAtOrders_X1_placePeg : GoodIn wsX1_lookAtOrders wsX1_placePeg := goodIn_r _ [44, 1, 45, 30, 2, 10, 11, 12, 13, 14, 15, 16, 17, 18, 19, 20, 21, 22, 23, 24, 25, 31, 32, 46, 47, 48, 7, 49, 50, 51, 52, 53, 54, 55, 56, 57, 58, 59, 33, 34, 35, 36, 82, 83, 84, 85, 86, 87, 88, 89, 90, 91, 92, 93, 94, 95, 96, 97, 98, 99, 100, 101, 102] (by decide +kernel) (by decide +kernel)
set_option maxRecDepth 20000 in
theorem gX1_lookAtOrders_X1_placePeg : GoodIn wsX1_lookAtOrders (wsV RX1 170 RX1 yX1_placePeg wsX1_placePeg) := goodIn_app (goodIn_of _ (by decide +kernel)) ggX1_lookAtOrders_X1_placePeg
set_option maxRecDepth 20000 in
theorem ggX1_lookAtOrders_X1_takePeg : GoodIn wsX1_lookAtOrders wsX1_takePeg := goodIn_r _ [63, 1, 45, 30, 10, 11, 12, 13, 14, 15, 16, 17, 18, 19, 20, 21, 31, 23, 32, 22, 24, 25, 64, 65, 66, 67, 54, 68, 69, 70, 71, 72, 73, 74, 75, 82, 83, 84, 85, 86, 87, 88, 89, 90, 91, 92, 93, 94, 95, 96, 97, 98, 99, 100, 101, 102] (by decide +kernel) (by decide +kernel)
set_option maxRecDepth 20000 in
theorem gX1_lookAtOrders_X1_takePeg : GoodIn wsX1_lookAtOrders (wsV RX1 173 RX1 yX1_takePeg wsX1_takePeg) := goodIn_app (goodIn_of _ (by decide +kernel)) ggX1_lookAtOrders_X1_takePeg
set_option maxRecDepth 20000 in
theorem ggX1_lookAtOrders_X1_dropOrder : GoodIn wsX1_lookAtOrders wsX1_dropOrder := goodIn_r _ [79, 1, 80, 81, 73, 74, 13, 75, 54, 64, 65, 66, 67, 16, 15, 68, 69, 70, 71, 72, 82, 83, 84, 85, 86, 87, 88, 89, 90, 91, 92, 93, 94, 95, 96, 97, 98, 99, 100, 101, 102] (by decide +kernel) (by decide +kernel)
set_option maxRecDepth 20000 in
theorem gX1_lookAtOrders_X1_dropOrder : GoodIn wsX1_lookAtOrders (wsV RX1 176 RX1 yX1_dropOrder wsX1_dropOrder) := goodIn_app (goodIn_of _ (by decide +kernel)) ggX1_lookAtOrders_X1_dropOrder
theorem dX1_lookAtOrders_0 : decode cX1_lookAtOrders 0 = .ok (.iconst 0, 1) := by decide +kernel
theorem dX1_lookAtOrders_1 : decode cX1_lookAtOrders 1 = .ok (.istore_n 1, 1) := by decide +kernel
theorem dX1_lookAtOrders_2 : decode cX1_lookAtOrders 2 = .ok (.aload_n 0, 1) := by decide +kernel
theorem dX1_lookAtOrders_3 : decode cX1_lookAtOrders 3 = .ok (.getfield 20, 3) := by decide +kernel
theorem dX1_lookAtOrders_6 : decode cX1_lookAtOrders 6 = .ok (.getfield 79, 3) := by decide +kernel
theorem dX1_lookAtOrders_9 : decode cX1_lookAtOrders 9 = .ok (.istore_n 2, 1) := by decide +kernel
theorem dX1_lookAtOrders_10 : decode cX1_lookAtOrders 10 = .ok (.iload_n 2, 1) := by decide +kernel
theorem dX1_lookAtOrders_11 : decode cX1_lookAtOrders 11 = .ok (.ifCond .le 98, 3) := by decide +kernel
theorem dX1_lookAtOrders_14 : decode cX1_lookAtOrders 14 = .ok (.aload_n 0, 1) := by decide +kernel
theorem dX1_lookAtOrders_15 : decode cX1_lookAtOrders 15 = .ok (.iload_n 1, 1) := by decide +kernel
theorem dX1_lookAtOrders_16 : decode cX1_lookAtOrders 16 = .ok (.invokevirtual 164, 3) := by decide +kernel
theorem dX1_lookAtOrders_19 : decode cX1_lookAtOrders 19 = .ok (.ifCond .eq 29, 3) := by decide +kernel
theorem dX1_lookAtOrders_22 : decode cX1_lookAtOrders 22 = .ok (.aload_n 0, 1) := by decide +kernel
theorem dX1_lookAtOrders_23 : decode cX1_lookAtOrders 23 = .ok (.getfield 20, 3) := by decide +kernel
theorem dX1_lookAtOrders_26 : decode cX1_lookAtOrders 26 = .ok (.iload_n 1, 1) := by decide +kernel
theorem dX1_lookAtOrders_27 : decode cX1_lookAtOrders 27 = .ok (.iconst 4, 1) := by decide +kernel
theorem dX1_lookAtOrders_28 : decode cX1_lookAtOrders 28 = .ok (.aload_n 0, 1) := by decide +kernel
theorem dX1_lookAtOrders_29 : decode cX1_lookAtOrders 29 = .ok (.getfield 20, 3) := by decide +kernel
theorem dX1_lookAtOrders_32 : decode cX1_lookAtOrders 32 = .ok (.iload_n 1, 1) := by decide +kernel
theorem dX1_lookAtOrders_33 : decode cX1_lookAtOrders 33 = .ok (.iconst 4, 1) := by decide +kernel
theorem dX1_lookAtOrders_34 : decode cX1_lookAtOrders 34 = .ok (.invokevirtual 102, 3) := by decide +kernel
theorem dX1_lookAtOrders_37 : decode cX1_lookAtOrders 37 = .ok (.iconst 1, 1) := by decide +kernel
theorem dX1_lookAtOrders_38 : decode cX1_lookAtOrders 38 = .ok (.iadd, 1) := by decide +kernel
theorem dX1_lookAtOrders_39 : decode cX1_lookAtOrders 39 = .ok (.invokevirtual 133, 3) := by decide +kernel
theorem dX1_lookAtOrders_42 : decode cX1_lookAtOrders 42 = .ok (.iinc 1 1, 3) := by decide +kernel
theorem dX1_lookAtOrders_45 : decode cX1_lookAtOrders 45 = .ok (.goto 58, 3) := by decide +kernel
theorem dX1_lookAtOrders_48 : decode cX1_lookAtOrders 48 = .ok (.aload_n 0, 1) := by decide +kernel
theorem dX1_lookAtOrders_49 : decode cX1_lookAtOrders 49 = .ok (.iload_n 1, 1) := by decide +kernel
theorem dX1_lookAtOrders_50 : decode cX1_lookAtOrders 50 = .ok (.invokevirtual 167, 3) := by decide +kernel
theorem dX1_lookAtOrders_53 : decode cX1_lookAtOrders 53 = .ok (.ifCond .eq 11, 3) := by decide +kernel
theorem dX1_lookAtOrders_56 : decode cX1_lookAtOrders 56 = .ok (.aload_n 0, 1) := by decide +kernel
theorem dX1_lookAtOrders_57 : decode cX1_lookAtOrders 57 = .ok (.iload_n 1, 1) := by decide +kernel
theorem dX1_lookAtOrders_58 : decode cX1_lookAtOrders 58 = .ok (.invokevirtual 170, 3) := by decide +kernel
theorem dX1_lookAtOrders_61 : decode cX1_lookAtOrders 61 = .ok (.goto 8, 3) := by decide +kernel
theorem dX1_lookAtOrders_64 : decode cX1_lookAtOrders 64 = .ok (.aload_n 0, 1) := by decide +kernel
theorem dX1_lookAtOrders_65 : decode cX1_lookAtOrders 65 = .ok (.iload_n 1, 1) := by decide +kernel
theorem dX1_lookAtOrders_66 : decode cX1_lookAtOrders 66 = .ok (.invokevirtual 173, 3) := by decide +kernel
theorem dX1_lookAtOrders_69 : decode cX1_lookAtOrders 69 = .ok (.istore_n 3, 1) := by decide +kernel
theorem dX1_lookAtOrders_70 : decode cX1_lookAtOrders 70 = .ok (.iload_n 3, 1) := by decide +kernel
theorem dX1_lookAtOrders_71 : decode cX1_lookAtOrders 71 = .ok (.ifCond .eq 16, 3) := by decide +kernel
theorem dX1_lookAtOrders_74 : decode cX1_lookAtOrders 74 = .ok (.aload_n 0, 1) := by decide +kernel
theorem dX1_lookAtOrders_75 : decode cX1_lookAtOrders 75 = .ok (.dup, 1) := by decide +kernel
theorem dX1_lookAtOrders_76 : decode cX1_lookAtOrders 76 = .ok (.getfield 57, 3) := by decide +kernel
theorem dX1_lookAtOrders_79 : decode cX1_lookAtOrders 79 = .ok (.iconst 1, 1) := by decide +kernel
theorem dX1_lookAtOrders_80 : decode cX1_lookAtOrders 80 = .ok (.iadd, 1) := by decide +kernel
theorem dX1_lookAtOrders_81 : decode cX1_lookAtOrders 81 = .ok (.putfield 57, 3) := by decide +kernel
theorem dX1_lookAtOrders_84 : decode cX1_lookAtOrders 84 = .ok (.goto 13, 3) := by decide +kernel
theorem dX1_lookAtOrders_87 : decode cX1_lookAtOrders 87 = .ok (.aload_n 0, 1) := by decide +kernel
theorem dX1_lookAtOrders_88 : decode cX1_lookAtOrders 88 = .ok (.dup, 1) := by decide +kernel
theorem dX1_lookAtOrders_89 : decode cX1_lookAtOrders 89 = .ok (.getfield 76, 3) := by decide +kernel
theorem dX1_lookAtOrders_92 : decode cX1_lookAtOrders 92 = .ok (.iconst 1, 1) := by decide +kernel
theorem dX1_lookAtOrders_93 : decode cX1_lookAtOrders 93 = .ok (.iadd, 1) := by decide +kernel
theorem dX1_lookAtOrders_94 : decode cX1_lookAtOrders 94 = .ok (.putfield 76, 3) := by decide +kernel
theorem dX1_lookAtOrders_97 : decode cX1_lookAtOrders 97 = .ok (.aload_n 0, 1) := by decide +kernel
theorem dX1_lookAtOrders_98 : decode cX1_lookAtOrders 98 = .ok (.iload_n 1, 1) := by decide +kernel
theorem dX1_lookAtOrders_99 : decode cX1_lookAtOrders 99 = .ok (.invokevirtual 176, 3) := by decide +kernel
theorem dX1_lookAtOrders_102 : decode cX1_lookAtOrders 102 = .ok (.pop, 1) := by decide +kernel
theorem dX1_lookAtOrders_103 : decode cX1_lookAtOrders 103 = .ok (.iinc 2 (-1), 3) := by decide +kernel
theorem dX1_lookAtOrders_106 : decode cX1_lookAtOrders 106 = .ok (.goto (-96), 3) := by decide +kernel
theorem dX1_lookAtOrders_109 : decode cX1_lookAtOrders 109 = .ok (.return_, 1) := by decide +kernel
set_option maxRecDepth 20000 in
theorem ggX1_isPut_X4_at : GoodIn wsX1_isPut wsX4_at := goodIn_r _ [6, 7, 8, 9, 10, 11, 5, 12, 13, 31, 32, 33, 34] (by decide +kernel) (by decide +kernel)
set_option maxRecDepth 20000 in
theorem gX1_isPut_X4_at : GoodIn wsX1_isPut (wsV RX1 102 RX4 yX4_at wsX4_at) := goodIn_app (goodIn_of _ (by decide +kernel)) ggX1_isPut_X4_at
theorem dX1_isPut_0 : decode cX1_isPut 0 = .ok (.aload_n 0, 1) := by decide +kernel
theorem dX1_isPut_1 : decode cX1_isPut 1 = .ok (.getfield 20, 3) := by decide +kernel
theorem dX1_isPut_4 : decode cX1_isPut 4 = .ok (.iload_n 1, 1) := by decide +kernel
theorem dX1_isPut_5 : decode cX1_isPut 5 = .ok (.iconst 0, 1) := by decide +kernel
theorem dX1_isPut_6 : decode cX1_isPut 6 = .ok (.invokevirtual 102, 3) := by decide +kernel
theorem dX1_isPut_9 : decode cX1_isPut 9 = .ok (.iconst 1, 1) := by decide +kernel
theorem dX1_isPut_10 : decode cX1_isPut 10 = .ok (.if_icmp .ne 7, 3) := by decide +kernel
theorem dX1_isPut_13 : decode cX1_isPut 13 = .ok (.iconst 1, 1) := by decide +kernel
theorem dX1_isPut_14 : decode cX1_isPut 14 = .ok (.goto 4, 3) := by decide +kernel
theorem dX1_isPut_17 : decode cX1_isPut 17 = .ok (.iconst 0, 1) := by decide +kernel
theorem dX1_isPut_18 : decode cX1_isPut 18 = .ok (.ireturn, 1) := by decide +kernel
set_option maxRecDepth 20000 in
theorem ggX1_goesOnWaiting_X4_at : GoodIn wsX1_goesOnWaiting wsX4_at := goodIn_r _ [7, 8, 9, 10, 11, 12, 6, 13, 14, 44, 45, 46, 47] (by decide +kernel) (by decide +kernel)
set_option maxRecDepth 20000 in
theorem gX1_goesOnWaiting_X4_at : GoodIn wsX1_goesOnWaiting (wsV RX1 102 RX4 yX4_at wsX4_at) := goodIn_app (goodIn_of _ (by decide +kernel)) ggX1_goesOnWaiting_X4_at
set_option maxRecDepth 20000 in
theorem ggX1_goesOnWaiting_X5_span : GoodIn wsX1_goesOnWaiting wsX5_span := goodIn_r _ [17, 18] (by decide +kernel) (by decide +kernel)
set_option maxRecDepth 20000 in
theorem gX1_goesOnWaiting_X5_span_n109 : GoodIn wsX1_goesOnWaiting (wsX5_span) := ggX1_goesOnWaiting_X5_span
set_option maxRecDepth 20000 in
theorem ggX1_goesOnWaiting_X1_isOpen : GoodIn wsX1_goesOnWaiting wsX1_isOpen := goodIn_r _ [23, 24, 25, 16, 26, 15, 17, 18, 27, 28, 29, 30, 31, 32, 33, 34, 35, 36, 37, 38, 39, 40, 41, 42, 43] (by decide +kernel) (by decide +kernel)
set_option maxRecDepth 20000 in
theorem gX1_goesOnWaiting_X1_isOpen : GoodIn wsX1_goesOnWaiting (wsV RX1 98 RX1 yX1_isOpen wsX1_isOpen) := goodIn_app (goodIn_of _ (by decide +kernel)) ggX1_goesOnWaiting_X1_isOpen
theorem dX1_goesOnWaiting_0 : decode cX1_goesOnWaiting 0 = .ok (.aload_n 0, 1) := by decide +kernel
theorem dX1_goesOnWaiting_1 : decode cX1_goesOnWaiting 1 = .ok (.getfield 20, 3) := by decide +kernel
theorem dX1_goesOnWaiting_4 : decode cX1_goesOnWaiting 4 = .ok (.iload_n 1, 1) := by decide +kernel
theorem dX1_goesOnWaiting_5 : decode cX1_goesOnWaiting 5 = .ok (.iconst 2, 1) := by decide +kernel
theorem dX1_goesOnWaiting_6 : decode cX1_goesOnWaiting 6 = .ok (.invokevirtual 102, 3) := by decide +kernel
theorem dX1_goesOnWaiting_9 : decode cX1_goesOnWaiting 9 = .ok (.aload_n 0, 1) := by decide +kernel
theorem dX1_goesOnWaiting_10 : decode cX1_goesOnWaiting 10 = .ok (.getfield 20, 3) := by decide +kernel
theorem dX1_goesOnWaiting_13 : decode cX1_goesOnWaiting 13 = .ok (.iload_n 1, 1) := by decide +kernel
theorem dX1_goesOnWaiting_14 : decode cX1_goesOnWaiting 14 = .ok (.iconst 3, 1) := by decide +kernel
theorem dX1_goesOnWaiting_15 : decode cX1_goesOnWaiting 15 = .ok (.invokevirtual 102, 3) := by decide +kernel
theorem dX1_goesOnWaiting_18 : decode cX1_goesOnWaiting 18 = .ok (.invokestatic 109, 3) := by decide +kernel
theorem dX1_goesOnWaiting_21 : decode cX1_goesOnWaiting 21 = .ok (.istore_n 2, 1) := by decide +kernel
theorem dX1_goesOnWaiting_22 : decode cX1_goesOnWaiting 22 = .ok (.iload_n 2, 1) := by decide +kernel
theorem dX1_goesOnWaiting_23 : decode cX1_goesOnWaiting 23 = .ok (.aload_n 0, 1) := by decide +kernel
theorem dX1_goesOnWaiting_24 : decode cX1_goesOnWaiting 24 = .ok (.getfield 51, 3) := by decide +kernel
theorem dX1_goesOnWaiting_27 : decode cX1_goesOnWaiting 27 = .ok (.iconst 1, 1) := by decide +kernel
theorem dX1_goesOnWaiting_28 : decode cX1_goesOnWaiting 28 = .ok (.invokestatic 109, 3) := by decide +kernel
theorem dX1_goesOnWaiting_31 : decode cX1_goesOnWaiting 31 = .ok (.iand, 1) := by decide +kernel
theorem dX1_goesOnWaiting_32 : decode cX1_goesOnWaiting 32 = .ok (.ifCond .eq 7, 3) := by decide +kernel
theorem dX1_goesOnWaiting_35 : decode cX1_goesOnWaiting 35 = .ok (.iconst 1, 1) := by decide +kernel
theorem dX1_goesOnWaiting_36 : decode cX1_goesOnWaiting 36 = .ok (.goto 4, 3) := by decide +kernel
theorem dX1_goesOnWaiting_39 : decode cX1_goesOnWaiting 39 = .ok (.iconst 0, 1) := by decide +kernel
theorem dX1_goesOnWaiting_40 : decode cX1_goesOnWaiting 40 = .ok (.istore_n 3, 1) := by decide +kernel
theorem dX1_goesOnWaiting_41 : decode cX1_goesOnWaiting 41 = .ok (.iload_n 3, 1) := by decide +kernel
theorem dX1_goesOnWaiting_42 : decode cX1_goesOnWaiting 42 = .ok (.ifCond .ne 23, 3) := by decide +kernel
theorem dX1_goesOnWaiting_45 : decode cX1_goesOnWaiting 45 = .ok (.aload_n 0, 1) := by decide +kernel
theorem dX1_goesOnWaiting_46 : decode cX1_goesOnWaiting 46 = .ok (.aload_n 0, 1) := by decide +kernel
theorem dX1_goesOnWaiting_47 : decode cX1_goesOnWaiting 47 = .ok (.getfield 20, 3) := by decide +kernel
theorem dX1_goesOnWaiting_50 : decode cX1_goesOnWaiting 50 = .ok (.iload_n 1, 1) := by decide +kernel
theorem dX1_goesOnWaiting_51 : decode cX1_goesOnWaiting 51 = .ok (.iconst 1, 1) := by decide +kernel
theorem dX1_goesOnWaiting_52 : decode cX1_goesOnWaiting 52 = .ok (.invokevirtual 102, 3) := by decide +kernel
theorem dX1_goesOnWaiting_55 : decode cX1_goesOnWaiting 55 = .ok (.aload_n 0, 1) := by decide +kernel
theorem dX1_goesOnWaiting_56 : decode cX1_goesOnWaiting 56 = .ok (.getfield 51, 3) := by decide +kernel
theorem dX1_goesOnWaiting_59 : decode cX1_goesOnWaiting 59 = .ok (.invokevirtual 98, 3) := by decide +kernel
theorem dX1_goesOnWaiting_62 : decode cX1_goesOnWaiting 62 = .ok (.ifCond .eq 7, 3) := by decide +kernel
theorem dX1_goesOnWaiting_65 : decode cX1_goesOnWaiting 65 = .ok (.iconst 1, 1) := by decide +kernel
theorem dX1_goesOnWaiting_66 : decode cX1_goesOnWaiting 66 = .ok (.goto 4, 3) := by decide +kernel
theorem dX1_goesOnWaiting_69 : decode cX1_goesOnWaiting 69 = .ok (.iconst 0, 1) := by decide +kernel
theorem dX1_goesOnWaiting_70 : decode cX1_goesOnWaiting 70 = .ok (.ireturn, 1) := by decide +kernel
set_option maxRecDepth 20000 in
theorem ggX1_placePeg_X4_at : GoodIn wsX1_placePeg wsX4_at := goodIn_r _ [9, 10, 11, 12, 13, 14, 8, 15, 16, 59, 60, 61, 62] (by decide +kernel) (by decide +kernel)
set_option maxRecDepth 20000 in
theorem gX1_placePeg_X4_at : GoodIn wsX1_placePeg (wsV RX1 102 RX4 yX4_at wsX4_at) := goodIn_app (goodIn_of _ (by decide +kernel)) ggX1_placePeg_X4_at
set_option maxRecDepth 20000 in
theorem ggX1_placePeg_X5_span : GoodIn wsX1_placePeg wsX5_span := goodIn_r _ [19, 20] (by decide +kernel) (by decide +kernel)
set_option maxRecDepth 20000 in
theorem gX1_placePeg_X5_span_n109 : GoodIn wsX1_placePeg (wsX5_span) := ggX1_placePeg_X5_span
set_option maxRecDepth 20000 in
theorem ggX1_placePeg_X5_isPipe : GoodIn wsX1_placePeg wsX5_isPipe := goodIn_r _ [22] (by decide +kernel) (by decide +kernel)
set_option maxRecDepth 20000 in
theorem gX1_placePeg_X5_isPipe_n86 : GoodIn wsX1_placePeg (wsX5_isPipe) := ggX1_placePeg_X5_isPipe
set_option maxRecDepth 20000 in
theorem ggX1_placePeg_X1_isFree : GoodIn wsX1_placePeg wsX1_isFree := goodIn_r _ [27, 3, 21, 18, 22, 42, 43, 44, 45, 46, 47, 48, 49, 50, 51, 52, 53, 54, 55, 56, 57, 58] (by decide +kernel) (by decide +kernel)
set_option maxRecDepth 20000 in
theorem gX1_placePeg_X1_isFree : GoodIn wsX1_placePeg (wsV RX1 179 RX1 yX1_isFree wsX1_isFree) := goodIn_app (goodIn_of _ (by decide +kernel)) ggX1_placePeg_X1_isFree
set_option maxRecDepth 20000 in
theorem ggX1_placePeg_X4_isFull : GoodIn wsX1_placePeg wsX4_isFull := goodIn_r _ [31, 32, 16, 59, 60, 61, 62] (by decide +kernel) (by decide +kernel)
set_option maxRecDepth 20000 in
theorem gX1_placePeg_X4_isFull : GoodIn wsX1_placePeg (wsV RX1 125 RX4 yX4_isFull wsX4_isFull) := goodIn_app (goodIn_of _ (by decide +kernel)) ggX1_placePeg_X4_isFull
set_option maxRecDepth 20000 in
theorem ggX1_placePeg_X4_addLine : GoodIn wsX1_placePeg wsX4_addLine := goodIn_r _ [36, 32, 37, 29, 30, 8, 31, 16, 59, 60, 61, 62] (by decide +kernel) (by decide +kernel)
set_option maxRecDepth 20000 in
theorem gX1_placePeg_X4_addLine : GoodIn wsX1_placePeg (wsV RX1 129 RX4 yX4_addLine wsX4_addLine) := goodIn_app (goodIn_of _ (by decide +kernel)) ggX1_placePeg_X4_addLine
set_option maxRecDepth 20000 in
theorem ggX1_placePeg_X4_write : GoodIn wsX1_placePeg wsX4_write := goodIn_r _ [41, 10, 11, 12, 13, 14, 8, 15, 16, 59, 60, 61, 62] (by decide +kernel) (by decide +kernel)
set_option maxRecDepth 20000 in
theorem gX1_placePeg_X4_write : GoodIn wsX1_placePeg (wsV RX1 133 RX4 yX4_write wsX4_write) := goodIn_app (goodIn_of _ (by decide +kernel)) ggX1_placePeg_X4_write
theorem dX1_placePeg_0 : decode cX1_placePeg 0 = .ok (.aload_n 0, 1) := by decide +kernel
theorem dX1_placePeg_1 : decode cX1_placePeg 1 = .ok (.getfield 20, 3) := by decide +kernel
theorem dX1_placePeg_4 : decode cX1_placePeg 4 = .ok (.iload_n 1, 1) := by decide +kernel
theorem dX1_placePeg_5 : decode cX1_placePeg 5 = .ok (.iconst 1, 1) := by decide +kernel
theorem dX1_placePeg_6 : decode cX1_placePeg 6 = .ok (.invokevirtual 102, 3) := by decide +kernel
theorem dX1_placePeg_9 : decode cX1_placePeg 9 = .ok (.istore_n 2, 1) := by decide +kernel
theorem dX1_placePeg_10 : decode cX1_placePeg 10 = .ok (.aload_n 0, 1) := by decide +kernel
theorem dX1_placePeg_11 : decode cX1_placePeg 11 = .ok (.getfield 20, 3) := by decide +kernel
theorem dX1_placePeg_14 : decode cX1_placePeg 14 = .ok (.iload_n 1, 1) := by decide +kernel
theorem dX1_placePeg_15 : decode cX1_placePeg 15 = .ok (.iconst 2, 1) := by decide +kernel
theorem dX1_placePeg_16 : decode cX1_placePeg 16 = .ok (.invokevirtual 102, 3) := by decide +kernel
theorem dX1_placePeg_19 : decode cX1_placePeg 19 = .ok (.istore_n 3, 1) := by decide +kernel
theorem dX1_placePeg_20 : decode cX1_placePeg 20 = .ok (.aload_n 0, 1) := by decide +kernel
theorem dX1_placePeg_21 : decode cX1_placePeg 21 = .ok (.getfield 20, 3) := by decide +kernel
theorem dX1_placePeg_24 : decode cX1_placePeg 24 = .ok (.iload_n 1, 1) := by decide +kernel
theorem dX1_placePeg_25 : decode cX1_placePeg 25 = .ok (.iconst 3, 1) := by decide +kernel
theorem dX1_placePeg_26 : decode cX1_placePeg 26 = .ok (.invokevirtual 102, 3) := by decide +kernel
theorem dX1_placePeg_29 : decode cX1_placePeg 29 = .ok (.istore 4, 2) := by decide +kernel
theorem dX1_placePeg_31 : decode cX1_placePeg 31 = .ok (.iload_n 3, 1) := by decide +kernel
theorem dX1_placePeg_32 : decode cX1_placePeg 32 = .ok (.iload 4, 2) := by decide +kernel
theorem dX1_placePeg_34 : decode cX1_placePeg 34 = .ok (.invokestatic 109, 3) := by decide +kernel
theorem dX1_placePeg_37 : decode cX1_placePeg 37 = .ok (.istore 5, 2) := by decide +kernel
theorem dX1_placePeg_39 : decode cX1_placePeg 39 = .ok (.iload_n 2, 1) := by decide +kernel
theorem dX1_placePeg_40 : decode cX1_placePeg 40 = .ok (.invokestatic 86, 3) := by decide +kernel
theorem dX1_placePeg_43 : decode cX1_placePeg 43 = .ok (.ifCond .eq 23, 3) := by decide +kernel
theorem dX1_placePeg_46 : decode cX1_placePeg 46 = .ok (.aload_n 0, 1) := by decide +kernel
theorem dX1_placePeg_47 : decode cX1_placePeg 47 = .ok (.iload_n 2, 1) := by decide +kernel
theorem dX1_placePeg_48 : decode cX1_placePeg 48 = .ok (.iload 5, 2) := by decide +kernel
theorem dX1_placePeg_50 : decode cX1_placePeg 50 = .ok (.invokevirtual 179, 3) := by decide +kernel
theorem dX1_placePeg_53 : decode cX1_placePeg 53 = .ok (.ifCond .eq 13, 3) := by decide +kernel
theorem dX1_placePeg_56 : decode cX1_placePeg 56 = .ok (.aload_n 0, 1) := by decide +kernel
theorem dX1_placePeg_57 : decode cX1_placePeg 57 = .ok (.getfield 16, 3) := by decide +kernel
theorem dX1_placePeg_60 : decode cX1_placePeg 60 = .ok (.invokevirtual 125, 3) := by decide +kernel
theorem dX1_placePeg_63 : decode cX1_placePeg 63 = .ok (.ifCond .eq 5, 3) := by decide +kernel
theorem dX1_placePeg_66 : decode cX1_placePeg 66 = .ok (.iconst 0, 1) := by decide +kernel
theorem dX1_placePeg_67 : decode cX1_placePeg 67 = .ok (.ireturn, 1) := by decide +kernel
