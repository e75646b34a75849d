set_option maxRecDepth 100000 in
theorem wk0 : Cond.classLink RL 7 RX6 ∈ lw_good := gd_of (List.mem_append_right _ (List.mem_append_left _ (List.mem_of_getElem? (i := 11) rfl))) rfl
set_option maxRecDepth 100000 in
theorem wk1 : Cond.instantiable RX6 3 ∈ lw_good := gd_of (List.mem_append_right _ (List.mem_append_left _ (List.mem_of_getElem? (i := 12) rfl))) rfl
set_option maxRecDepth 100000 in
theorem wk2 : Cond.initialized RX6 ∈ lw_good := gd_of (List.mem_append_right _ (List.mem_append_left _ (List.mem_of_getElem? (i := 1) rfl))) rfl
set_option maxRecDepth 100000 in
theorem wk3 : Cond.classLink RL 10 RX7 ∈ lw_good := gd_of (List.mem_append_right _ (List.mem_append_right _ (List.mem_append_left _ (List.mem_of_getElem? (i := 158) rfl)))) rfl
set_option maxRecDepth 100000 in
theorem wk4 : Cond.instantiable RX7 17 ∈ lw_good := gd_of (List.mem_append_right _ (List.mem_append_right _ (List.mem_append_left _ (List.mem_of_getElem? (i := 159) rfl)))) rfl
set_option maxRecDepth 100000 in
theorem wk5 : Cond.initialized RX7 ∈ lw_good := gd_of (List.mem_append_right _ (List.mem_append_left _ (List.mem_of_getElem? (i := 7) rfl))) rfl
set_option maxRecDepth 100000 in
theorem wk6 : Cond.constantLong RL 27 (4294967295) ∈ lw_good := gd_of (List.mem_append_right _ (List.mem_append_right _ (List.mem_append_right _ (List.mem_of_getElem? (i := 89) rfl)))) rfl
set_option maxRecDepth 100000 in
theorem wk7 : Cond.methodLink RL 9 yX6_init ∈ lw_good := gd_of (List.mem_append_right _ (List.mem_append_left _ (List.mem_of_getElem? (i := 13) rfl))) rfl
set_option maxRecDepth 100000 in
theorem wk8 : Cond.instanceMethod yX6_init ∈ lw_good := gd_of (List.mem_append_right _ (List.mem_append_left _ (List.mem_of_getElem? (i := 14) rfl))) rfl
set_option maxRecDepth 100000 in
theorem wk9 : Cond.code yX6_init cX6_init 1 none ∈ lw_good := gd_of (List.mem_append_right _ (List.mem_append_left _ (List.mem_of_getElem? (i := 15) rfl))) rfl
set_option maxRecDepth 100000 in
theorem wk10 : Cond.methodLink RX6 3 objectInit ∈ lw_good := gd_of (List.mem_append_right _ (List.mem_append_left _ (List.mem_of_getElem? (i := 16) rfl))) rfl
set_option maxRecDepth 100000 in
theorem wk11 : Cond.instanceMethod objectInit ∈ lw_good := gd_of (List.mem_append_right _ (List.mem_append_left _ (List.mem_of_getElem? (i := 17) rfl))) rfl
set_option maxRecDepth 100000 in
theorem wk12 : Cond.code objectInit ⟨#[0xb1]⟩ 1 none ∈ lw_good := gd_of (List.mem_append_right _ (List.mem_append_left _ (List.mem_of_getElem? (i := 18) rfl))) rfl
set_option maxRecDepth 100000 in
theorem wk13 : Cond.classLink RX6 9 RX2 ∈ lw_good := gd_of (List.mem_append_right _ (List.mem_append_left _ (List.mem_of_getElem? (i := 19) rfl))) rfl
set_option maxRecDepth 100000 in
theorem wk14 : Cond.instantiable RX2 3 ∈ lw_good := gd_of (List.mem_append_right _ (List.mem_append_left _ (List.mem_of_getElem? (i := 20) rfl))) rfl
set_option maxRecDepth 100000 in
theorem wk15 : Cond.initialized RX2 ∈ lw_good := gd_of (List.mem_append_right _ (List.mem_append_left _ (List.mem_of_getElem? (i := 2) rfl))) rfl
set_option maxRecDepth 100000 in
theorem wk16 : Cond.fieldLink RX6 12 "LineBlocks" "line" "LLineBlocks$Line;" ∈ lw_good := gd_of (List.mem_append_right _ (List.mem_append_left _ (List.mem_of_getElem? (i := 121) rfl))) rfl
set_option maxRecDepth 100000 in
theorem wk17 : Cond.classLink RX6 16 RX5 ∈ lw_good := gd_of (List.mem_append_right _ (List.mem_append_left _ (List.mem_of_getElem? (i := 36) rfl))) rfl
set_option maxRecDepth 100000 in
theorem wk18 : Cond.instantiable RX5 3 ∈ lw_good := gd_of (List.mem_append_right _ (List.mem_append_left _ (List.mem_of_getElem? (i := 37) rfl))) rfl
set_option maxRecDepth 100000 in
theorem wk19 : Cond.initialized RX5 ∈ lw_good := gd_of (List.mem_append_right _ (List.mem_append_left _ (List.mem_of_getElem? (i := 3) rfl))) rfl
set_option maxRecDepth 100000 in
theorem wk20 : Cond.fieldLink RX6 19 "LineBlocks" "sender" "LLineBlocks$Sender;" ∈ lw_good := gd_of (List.mem_append_right _ (List.mem_append_left _ (List.mem_of_getElem? (i := 122) rfl))) rfl
set_option maxRecDepth 100000 in
theorem wk21 : Cond.classLink RX6 23 RX3 ∈ lw_good := gd_of (List.mem_append_right _ (List.mem_append_left _ (List.mem_of_getElem? (i := 63) rfl))) rfl
set_option maxRecDepth 100000 in
theorem wk22 : Cond.instantiable RX3 11 ∈ lw_good := gd_of (List.mem_append_right _ (List.mem_append_left _ (List.mem_of_getElem? (i := 64) rfl))) rfl
set_option maxRecDepth 100000 in
theorem wk23 : Cond.initialized RX3 ∈ lw_good := gd_of (List.mem_append_right _ (List.mem_append_left _ (List.mem_of_getElem? (i := 5) rfl))) rfl
set_option maxRecDepth 100000 in
theorem wk24 : Cond.fieldLink RX6 26 "LineBlocks" "taker" "LLineBlocks$Receiver;" ∈ lw_good := gd_of (List.mem_append_right _ (List.mem_append_left _ (List.mem_of_getElem? (i := 123) rfl))) rfl
set_option maxRecDepth 100000 in
theorem wk25 : Cond.instanceMethod yX2_init ∈ lw_good := gd_of (List.mem_append_right _ (List.mem_append_left _ (List.mem_of_getElem? (i := 22) rfl))) rfl
set_option maxRecDepth 100000 in
theorem wk26 : Cond.code yX2_init cX2_init 1 none ∈ lw_good := gd_of (List.mem_append_right _ (List.mem_append_left _ (List.mem_of_getElem? (i := 23) rfl))) rfl
set_option maxRecDepth 100000 in
theorem wk27 : Cond.methodLink RX2 5 objectInit ∈ lw_good := gd_of (List.mem_append_right _ (List.mem_append_left _ (List.mem_of_getElem? (i := 24) rfl))) rfl
set_option maxRecDepth 100000 in
theorem wk28 : Cond.arrayClass .long ∈ lw_good := gd_of (List.mem_append_right _ (List.mem_append_left _ (List.mem_of_getElem? (i := 35) rfl))) rfl
set_option maxRecDepth 100000 in
theorem wk29 : Cond.fieldLink RX2 11 "LineBlocks$Line" "words" "[J" ∈ lw_good := gd_of (List.mem_append_right _ (List.mem_append_left _ (List.mem_of_getElem? (i := 25) rfl))) rfl
set_option maxRecDepth 100000 in
theorem wk30 : Cond.instanceMethod yX5_init ∈ lw_good := gd_of (List.mem_append_right _ (List.mem_append_left _ (List.mem_of_getElem? (i := 39) rfl))) rfl
set_option maxRecDepth 100000 in
theorem wk31 : Cond.code yX5_init cX5_init 1 none ∈ lw_good := gd_of (List.mem_append_right _ (List.mem_append_left _ (List.mem_of_getElem? (i := 40) rfl))) rfl
set_option maxRecDepth 100000 in
theorem wk32 : Cond.methodLink RX5 5 objectInit ∈ lw_good := gd_of (List.mem_append_right _ (List.mem_append_left _ (List.mem_of_getElem? (i := 41) rfl))) rfl
set_option maxRecDepth 100000 in
theorem wk33 : Cond.classLink RX5 11 RX4 ∈ lw_good := gd_of (List.mem_append_right _ (List.mem_append_left _ (List.mem_of_getElem? (i := 42) rfl))) rfl
set_option maxRecDepth 100000 in
theorem wk34 : Cond.instantiable RX4 1 ∈ lw_good := gd_of (List.mem_append_right _ (List.mem_append_left _ (List.mem_of_getElem? (i := 43) rfl))) rfl
set_option maxRecDepth 100000 in
theorem wk35 : Cond.initialized RX4 ∈ lw_good := gd_of (List.mem_append_right _ (List.mem_append_left _ (List.mem_of_getElem? (i := 4) rfl))) rfl
set_option maxRecDepth 100000 in
theorem wk36 : Cond.fieldLink RX5 14 "LineBlocks$Sender" "scrambler" "LLineBlocks$Scrambler;" ∈ lw_good := gd_of (List.mem_append_right _ (List.mem_append_left _ (List.mem_of_getElem? (i := 52) rfl))) rfl
set_option maxRecDepth 100000 in
theorem wk37 : Cond.arrayClass .int ∈ lw_good := gd_of (List.mem_append_right _ (List.mem_append_left _ (List.mem_of_getElem? (i := 62) rfl))) rfl
set_option maxRecDepth 100000 in
theorem wk38 : Cond.fieldLink RX5 20 "LineBlocks$Sender" "group" "[I" ∈ lw_good := gd_of (List.mem_append_right _ (List.mem_append_left _ (List.mem_of_getElem? (i := 53) rfl))) rfl
set_option maxRecDepth 100000 in
theorem wk39 : Cond.instanceMethod yX4_init ∈ lw_good := gd_of (List.mem_append_right _ (List.mem_append_left _ (List.mem_of_getElem? (i := 45) rfl))) rfl
set_option maxRecDepth 100000 in
theorem wk40 : Cond.code yX4_init cX4_init 1 none ∈ lw_good := gd_of (List.mem_append_right _ (List.mem_append_left _ (List.mem_of_getElem? (i := 46) rfl))) rfl
set_option maxRecDepth 100000 in
theorem wk41 : Cond.methodLink RX4 1 objectInit ∈ lw_good := gd_of (List.mem_append_right _ (List.mem_append_left _ (List.mem_of_getElem? (i := 47) rfl))) rfl
set_option maxRecDepth 100000 in
theorem wk42 : Cond.instanceMethod yX3_init ∈ lw_good := gd_of (List.mem_append_right _ (List.mem_append_left _ (List.mem_of_getElem? (i := 66) rfl))) rfl
set_option maxRecDepth 100000 in
theorem wk43 : Cond.code yX3_init cX3_init 1 none ∈ lw_good := gd_of (List.mem_append_right _ (List.mem_append_left _ (List.mem_of_getElem? (i := 67) rfl))) rfl
set_option maxRecDepth 100000 in
theorem wk44 : Cond.methodLink RX3 3 objectInit ∈ lw_good := gd_of (List.mem_append_right _ (List.mem_append_left _ (List.mem_of_getElem? (i := 68) rfl))) rfl
set_option maxRecDepth 100000 in
theorem wk45 : Cond.classLink RX3 9 RX4 ∈ lw_good := gd_of (List.mem_append_right _ (List.mem_append_left _ (List.mem_of_getElem? (i := 69) rfl))) rfl
set_option maxRecDepth 100000 in
theorem wk46 : Cond.fieldLink RX3 12 "LineBlocks$Receiver" "scrambler" "LLineBlocks$Scrambler;" ∈ lw_good := gd_of (List.mem_append_right _ (List.mem_append_left _ (List.mem_of_getElem? (i := 87) rfl))) rfl
set_option maxRecDepth 100000 in
theorem wk47 : Cond.classLink RX3 18 RX1 ∈ lw_good := gd_of (List.mem_append_right _ (List.mem_append_left _ (List.mem_of_getElem? (i := 71) rfl))) rfl
set_option maxRecDepth 100000 in
theorem wk48 : Cond.instantiable RX1 3 ∈ lw_good := gd_of (List.mem_append_right _ (List.mem_append_left _ (List.mem_of_getElem? (i := 72) rfl))) rfl
set_option maxRecDepth 100000 in
theorem wk49 : Cond.initialized RX1 ∈ lw_good := gd_of (List.mem_append_right _ (List.mem_append_left _ (List.mem_of_getElem? (i := 6) rfl))) rfl
set_option maxRecDepth 100000 in
theorem wk50 : Cond.fieldLink RX3 21 "LineBlocks$Receiver" "groups" "LLineBlocks$Groups;" ∈ lw_good := gd_of (List.mem_append_right _ (List.mem_append_left _ (List.mem_of_getElem? (i := 88) rfl))) rfl
set_option maxRecDepth 100000 in
theorem wk51 : Cond.instanceMethod yX1_init ∈ lw_good := gd_of (List.mem_append_right _ (List.mem_append_left _ (List.mem_of_getElem? (i := 74) rfl))) rfl
set_option maxRecDepth 100000 in
theorem wk52 : Cond.code yX1_init cX1_init 1 none ∈ lw_good := gd_of (List.mem_append_right _ (List.mem_append_left _ (List.mem_of_getElem? (i := 75) rfl))) rfl
set_option maxRecDepth 100000 in
theorem wk53 : Cond.methodLink RX1 3 objectInit ∈ lw_good := gd_of (List.mem_append_right _ (List.mem_append_left _ (List.mem_of_getElem? (i := 76) rfl))) rfl
set_option maxRecDepth 100000 in
theorem wk54 : Cond.fieldLink RX1 11 "LineBlocks$Groups" "types" "[I" ∈ lw_good := gd_of (List.mem_append_right _ (List.mem_append_left _ (List.mem_of_getElem? (i := 77) rfl))) rfl
set_option maxRecDepth 100000 in
theorem wk55 : Cond.fieldLink RX1 15 "LineBlocks$Groups" "payloads" "[J" ∈ lw_good := gd_of (List.mem_append_right _ (List.mem_append_left _ (List.mem_of_getElem? (i := 78) rfl))) rfl
set_option maxRecDepth 100000 in
theorem wk56 : Cond.methodLink RL 12 yX7_init ∈ lw_good := gd_of (List.mem_append_right _ (List.mem_append_right _ (List.mem_append_left _ (List.mem_of_getElem? (i := 160) rfl)))) rfl
set_option maxRecDepth 100000 in
theorem wk57 : Cond.instanceMethod yX7_init ∈ lw_good := gd_of (List.mem_append_right _ (List.mem_append_right _ (List.mem_append_left _ (List.mem_of_getElem? (i := 161) rfl)))) rfl
set_option maxRecDepth 100000 in
theorem wk58 : Cond.code yX7_init cX7_init 1 none ∈ lw_good := gd_of (List.mem_append_right _ (List.mem_append_right _ (List.mem_append_left _ (List.mem_of_getElem? (i := 162) rfl)))) rfl
set_option maxRecDepth 100000 in
theorem wk59 : Cond.methodLink RX7 1 objectInit ∈ lw_good := gd_of (List.mem_append_right _ (List.mem_append_right _ (List.mem_append_left _ (List.mem_of_getElem? (i := 163) rfl)))) rfl
set_option maxRecDepth 100000 in
theorem wk60 : Cond.fieldLink RX7 7 "LineBlocksModel" "group" "[I" ∈ lw_good := gd_of (List.mem_append_right _ (List.mem_append_right _ (List.mem_append_left _ (List.mem_of_getElem? (i := 166) rfl)))) rfl
set_option maxRecDepth 100000 in
theorem wk61 : Cond.arrayClass .byte ∈ lw_good := gd_of (List.mem_append_right _ (List.mem_append_right _ (List.mem_append_left _ (List.mem_of_getElem? (i := 216) rfl)))) rfl
set_option maxRecDepth 100000 in
theorem wk62 : Cond.fieldLink RX7 13 "LineBlocksModel" "line" "[B" ∈ lw_good := gd_of (List.mem_append_right _ (List.mem_append_right _ (List.mem_append_left _ (List.mem_of_getElem? (i := 168) rfl)))) rfl
set_option maxRecDepth 100000 in
theorem wk63 : Cond.fieldLink RX7 17 "LineBlocksModel" "latest" "[I" ∈ lw_good := gd_of (List.mem_append_right _ (List.mem_append_right _ (List.mem_append_left _ (List.mem_of_getElem? (i := 169) rfl)))) rfl
set_option maxRecDepth 100000 in
theorem wk64 : Cond.fieldLink RX7 20 "LineBlocksModel" "block" "[I" ∈ lw_good := gd_of (List.mem_append_right _ (List.mem_append_right _ (List.mem_append_left _ (List.mem_of_getElem? (i := 170) rfl)))) rfl
set_option maxRecDepth 100000 in
theorem wk65 : Cond.fieldLink RX7 23 "LineBlocksModel" "came" "[I" ∈ lw_good := gd_of (List.mem_append_right _ (List.mem_append_right _ (List.mem_append_left _ (List.mem_of_getElem? (i := 171) rfl)))) rfl
set_option maxRecDepth 100000 in
theorem wk66 : Cond.fieldLink RX7 26 "LineBlocksModel" "told" "[I" ∈ lw_good := gd_of (List.mem_append_right _ (List.mem_append_right _ (List.mem_append_left _ (List.mem_of_getElem? (i := 180) rfl)))) rfl
set_option maxRecDepth 100000 in
theorem wk67 : Cond.fieldLink RX7 29 "LineBlocksModel" "size" "I" ∈ lw_good := gd_of (List.mem_append_right _ (List.mem_append_right _ (List.mem_append_left _ (List.mem_of_getElem? (i := 167) rfl)))) rfl
set_option maxRecDepth 100000 in
theorem wk68 : Cond.methodLink RL 13 yX6_put ∈ lw_good := gd_of (List.mem_append_right _ (List.mem_append_left _ (List.mem_of_getElem? (i := 131) rfl))) rfl
set_option maxRecDepth 100000 in
theorem wk69 : Cond.instanceMethod yX6_put ∈ lw_good := gd_of (List.mem_append_right _ (List.mem_append_left _ (List.mem_of_getElem? (i := 132) rfl))) rfl
set_option maxRecDepth 100000 in
theorem wk70 : Cond.selects RX6 yX6_put yX6_put ∈ lw_good := gd_of (List.mem_append_right _ (List.mem_append_left _ (List.mem_of_getElem? (i := 133) rfl))) rfl
set_option maxRecDepth 100000 in
theorem wk71 : Cond.code yX6_put cX6_put 2 (some .int) ∈ lw_good := gd_of (List.mem_append_right _ (List.mem_append_left _ (List.mem_of_getElem? (i := 134) rfl))) rfl
set_option maxRecDepth 100000 in
theorem wk72 : Cond.methodLink RX6 30 yX5_waitingCount ∈ lw_good := gd_of (List.mem_append_right _ (List.mem_append_left _ (List.mem_of_getElem? (i := 135) rfl))) rfl
set_option maxRecDepth 100000 in
theorem wk73 : Cond.instanceMethod yX5_waitingCount ∈ lw_good := gd_of (List.mem_append_right _ (List.mem_append_left _ (List.mem_of_getElem? (i := 136) rfl))) rfl
set_option maxRecDepth 100000 in
theorem wk74 : Cond.selects RX5 yX5_waitingCount yX5_waitingCount ∈ lw_good := gd_of (List.mem_append_right _ (List.mem_append_left _ (List.mem_of_getElem? (i := 137) rfl))) rfl
set_option maxRecDepth 100000 in
theorem wk75 : Cond.code yX5_waitingCount cX5_waitingCount 1 (some .int) ∈ lw_good := gd_of (List.mem_append_right _ (List.mem_append_left _ (List.mem_of_getElem? (i := 138) rfl))) rfl
set_option maxRecDepth 100000 in
theorem wk76 : Cond.fieldLink RX5 24 "LineBlocks$Sender" "waiting" "I" ∈ lw_good := gd_of (List.mem_append_right _ (List.mem_append_left _ (List.mem_of_getElem? (i := 54) rfl))) rfl
set_option maxRecDepth 100000 in
theorem wk77 : Cond.methodLink RX6 34 yX2_size ∈ lw_good := gd_of (List.mem_append_right _ (List.mem_append_left _ (List.mem_of_getElem? (i := 139) rfl))) rfl
set_option maxRecDepth 100000 in
theorem wk78 : Cond.instanceMethod yX2_size ∈ lw_good := gd_of (List.mem_append_right _ (List.mem_append_left _ (List.mem_of_getElem? (i := 140) rfl))) rfl
set_option maxRecDepth 100000 in
theorem wk79 : Cond.selects RX2 yX2_size yX2_size ∈ lw_good := gd_of (List.mem_append_right _ (List.mem_append_left _ (List.mem_of_getElem? (i := 141) rfl))) rfl
set_option maxRecDepth 100000 in
theorem wk80 : Cond.code yX2_size cX2_size 1 (some .int) ∈ lw_good := gd_of (List.mem_append_right _ (List.mem_append_left _ (List.mem_of_getElem? (i := 142) rfl))) rfl
set_option maxRecDepth 100000 in
theorem wk81 : Cond.fieldLink RX2 15 "LineBlocks$Line" "count" "I" ∈ lw_good := gd_of (List.mem_append_right _ (List.mem_append_left _ (List.mem_of_getElem? (i := 27) rfl))) rfl
set_option maxRecDepth 100000 in
theorem wk82 : Cond.methodLink RX6 37 yX5_accept ∈ lw_good := gd_of (List.mem_append_right _ (List.mem_append_left _ (List.mem_of_getElem? (i := 143) rfl))) rfl
set_option maxRecDepth 100000 in
theorem wk83 : Cond.instanceMethod yX5_accept ∈ lw_good := gd_of (List.mem_append_right _ (List.mem_append_left _ (List.mem_of_getElem? (i := 144) rfl))) rfl
set_option maxRecDepth 100000 in
theorem wk84 : Cond.selects RX5 yX5_accept yX5_accept ∈ lw_good := gd_of (List.mem_append_right _ (List.mem_append_left _ (List.mem_of_getElem? (i := 145) rfl))) rfl
set_option maxRecDepth 100000 in
theorem wk85 : Cond.code yX5_accept cX5_accept 3 none ∈ lw_good := gd_of (List.mem_append_right _ (List.mem_append_left _ (List.mem_of_getElem? (i := 146) rfl))) rfl
set_option maxRecDepth 100000 in
theorem wk86 : Cond.methodLink RX5 32 yX5_sendGroup ∈ lw_good := gd_of (List.mem_append_right _ (List.mem_append_left _ (List.mem_of_getElem? (i := 147) rfl))) rfl
set_option maxRecDepth 100000 in
theorem wk87 : Cond.instanceMethod yX5_sendGroup ∈ lw_good := gd_of (List.mem_append_right _ (List.mem_append_left _ (List.mem_of_getElem? (i := 149) rfl))) rfl
set_option maxRecDepth 100000 in
theorem wk88 : Cond.selects RX5 yX5_sendGroup yX5_sendGroup ∈ lw_good := gd_of (List.mem_append_left _ (List.mem_of_getElem? (i := 0) rfl)) rfl
set_option maxRecDepth 100000 in
theorem wk89 : Cond.code yX5_sendGroup cX5_sendGroup 4 none ∈ lw_good := gd_of (List.mem_append_right _ (List.mem_append_left _ (List.mem_of_getElem? (i := 150) rfl))) rfl
set_option maxRecDepth 100000 in
theorem wk90 : Cond.methodLink RX5 46 yX0_typeOfGroup ∈ lw_good := gd_of (List.mem_append_right _ (List.mem_append_left _ (List.mem_of_getElem? (i := 151) rfl))) rfl
set_option maxRecDepth 100000 in
theorem wk91 : Cond.static yX0_typeOfGroup ∈ lw_good := gd_of (List.mem_append_right _ (List.mem_append_left _ (List.mem_of_getElem? (i := 152) rfl))) rfl
set_option maxRecDepth 100000 in
theorem wk92 : Cond.initialized RX0 ∈ lw_good := gd_of (List.mem_append_right _ (List.mem_append_left _ (List.mem_of_getElem? (i := 8) rfl))) rfl
set_option maxRecDepth 100000 in
theorem wk93 : Cond.code yX0_typeOfGroup cX0_typeOfGroup 2 (some .int) ∈ lw_good := gd_of (List.mem_append_right _ (List.mem_append_left _ (List.mem_of_getElem? (i := 153) rfl))) rfl
set_option maxRecDepth 100000 in
theorem wk94 : Cond.fieldLink RX0 19 "LineBlocks$Codec" "END_TYPES" "[I" ∈ lw_good := gd_of (List.mem_append_right _ (List.mem_append_left _ (List.mem_of_getElem? (i := 163) rfl))) rfl
set_option maxRecDepth 100000 in
theorem wk95 : Cond.methodLink RX0 9 yX0_leadingData ∈ lw_good := gd_of (List.mem_append_right _ (List.mem_append_left _ (List.mem_of_getElem? (i := 154) rfl))) rfl
set_option maxRecDepth 100000 in
theorem wk96 : Cond.static yX0_leadingData ∈ lw_good := gd_of (List.mem_append_right _ (List.mem_append_left _ (List.mem_of_getElem? (i := 155) rfl))) rfl
set_option maxRecDepth 100000 in
theorem wk97 : Cond.code yX0_leadingData cX0_leadingData 2 (some .int) ∈ lw_good := gd_of (List.mem_append_right _ (List.mem_append_left _ (List.mem_of_getElem? (i := 156) rfl))) rfl
set_option maxRecDepth 100000 in
theorem wk98 : Cond.methodLink RX0 57 yX0_isData ∈ lw_good := gd_of (List.mem_append_right _ (List.mem_append_left _ (List.mem_of_getElem? (i := 157) rfl))) rfl
set_option maxRecDepth 100000 in
theorem wk99 : Cond.static yX0_isData ∈ lw_good := gd_of (List.mem_append_right _ (List.mem_append_left _ (List.mem_of_getElem? (i := 158) rfl))) rfl
set_option maxRecDepth 100000 in
theorem wk100 : Cond.code yX0_isData cX0_isData 1 (some .boolean) ∈ lw_good := gd_of (List.mem_append_right _ (List.mem_append_left _ (List.mem_of_getElem? (i := 159) rfl))) rfl
set_option maxRecDepth 100000 in
theorem wk101 : Cond.methodLink RX0 15 yX0_areIdleOrError ∈ lw_good := gd_of (List.mem_append_right _ (List.mem_append_left _ (List.mem_of_getElem? (i := 160) rfl))) rfl
set_option maxRecDepth 100000 in
theorem wk102 : Cond.static yX0_areIdleOrError ∈ lw_good := gd_of (List.mem_append_right _ (List.mem_append_left _ (List.mem_of_getElem? (i := 161) rfl))) rfl
set_option maxRecDepth 100000 in
theorem wk103 : Cond.code yX0_areIdleOrError cX0_areIdleOrError 4 (some .boolean) ∈ lw_good := gd_of (List.mem_append_right _ (List.mem_append_left _ (List.mem_of_getElem? (i := 162) rfl))) rfl
set_option maxRecDepth 100000 in
theorem wk104 : Cond.methodLink RX0 23 yX0_areData ∈ lw_good := gd_of (List.mem_append_right _ (List.mem_append_left _ (List.mem_of_getElem? (i := 165) rfl))) rfl
set_option maxRecDepth 100000 in
theorem wk105 : Cond.static yX0_areData ∈ lw_good := gd_of (List.mem_append_right _ (List.mem_append_left _ (List.mem_of_getElem? (i := 166) rfl))) rfl
set_option maxRecDepth 100000 in
theorem wk106 : Cond.code yX0_areData cX0_areData 3 (some .boolean) ∈ lw_good := gd_of (List.mem_append_right _ (List.mem_append_left _ (List.mem_of_getElem? (i := 167) rfl))) rfl
set_option maxRecDepth 100000 in
theorem wk107 : Cond.methodLink RX5 50 yJ7_fill_53178 ∈ lw_good := gd_of (List.mem_append_right _ (List.mem_append_left _ (List.mem_of_getElem? (i := 168) rfl))) rfl
set_option maxRecDepth 100000 in
theorem wk108 : Cond.static yJ7_fill_53178 ∈ lw_good := gd_of (List.mem_append_right _ (List.mem_append_left _ (List.mem_of_getElem? (i := 169) rfl))) rfl
set_option maxRecDepth 100000 in
theorem wk109 : Cond.initialized RJ7 ∈ lw_good := gd_of (List.mem_append_right _ (List.mem_append_left _ (List.mem_of_getElem? (i := 9) rfl))) rfl
set_option maxRecDepth 100000 in
theorem wk110 : Cond.code yJ7_fill_53178 cJ7_fill_53178 4 none ∈ lw_good := gd_of (List.mem_append_right _ (List.mem_append_left _ (List.mem_of_getElem? (i := 170) rfl))) rfl
set_option maxRecDepth 100000 in
theorem wk111 : Cond.methodLink RX5 56 yX0_payloadOf ∈ lw_good := gd_of (List.mem_append_right _ (List.mem_append_left _ (List.mem_of_getElem? (i := 171) rfl))) rfl
set_option maxRecDepth 100000 in
theorem wk112 : Cond.static yX0_payloadOf ∈ lw_good := gd_of (List.mem_append_right _ (List.mem_append_left _ (List.mem_of_getElem? (i := 172) rfl))) rfl
set_option maxRecDepth 100000 in
theorem wk113 : Cond.code yX0_payloadOf cX0_payloadOf 5 (some .long) ∈ lw_good := gd_of (List.mem_append_right _ (List.mem_append_left _ (List.mem_of_getElem? (i := 173) rfl))) rfl
set_option maxRecDepth 100000 in
theorem wk114 : Cond.methodLink RX0 27 yX0_bitsOf ∈ lw_good := gd_of (List.mem_append_right _ (List.mem_append_left _ (List.mem_of_getElem? (i := 174) rfl))) rfl
set_option maxRecDepth 100000 in
theorem wk115 : Cond.static yX0_bitsOf ∈ lw_good := gd_of (List.mem_append_right _ (List.mem_append_left _ (List.mem_of_getElem? (i := 175) rfl))) rfl
set_option maxRecDepth 100000 in
theorem wk116 : Cond.code yX0_bitsOf cX0_bitsOf 3 (some .long) ∈ lw_good := gd_of (List.mem_append_right _ (List.mem_append_left _ (List.mem_of_getElem? (i := 176) rfl))) rfl
set_option maxRecDepth 100000 in
theorem wk117 : Cond.constantLong RX0 61 (30) ∈ lw_good := gd_of (List.mem_append_right _ (List.mem_append_left _ (List.mem_of_getElem? (i := 183) rfl))) rfl
set_option maxRecDepth 100000 in
theorem wk118 : Cond.methodLink RX0 50 yX0_dataShift ∈ lw_good := gd_of (List.mem_append_right _ (List.mem_append_left _ (List.mem_of_getElem? (i := 177) rfl))) rfl
set_option maxRecDepth 100000 in
theorem wk119 : Cond.static yX0_dataShift ∈ lw_good := gd_of (List.mem_append_right _ (List.mem_append_left _ (List.mem_of_getElem? (i := 178) rfl))) rfl
set_option maxRecDepth 100000 in
theorem wk120 : Cond.code yX0_dataShift cX0_dataShift 2 (some .int) ∈ lw_good := gd_of (List.mem_append_right _ (List.mem_append_left _ (List.mem_of_getElem? (i := 179) rfl))) rfl
set_option maxRecDepth 100000 in
theorem wk121 : Cond.methodLink RX0 31 yX0_endPlace ∈ lw_good := gd_of (List.mem_append_right _ (List.mem_append_left _ (List.mem_of_getElem? (i := 180) rfl))) rfl
set_option maxRecDepth 100000 in
theorem wk122 : Cond.static yX0_endPlace ∈ lw_good := gd_of (List.mem_append_right _ (List.mem_append_left _ (List.mem_of_getElem? (i := 181) rfl))) rfl
set_option maxRecDepth 100000 in
theorem wk123 : Cond.code yX0_endPlace cX0_endPlace 2 (some .int) ∈ lw_good := gd_of (List.mem_append_right _ (List.mem_append_left _ (List.mem_of_getElem? (i := 182) rfl))) rfl
set_option maxRecDepth 100000 in
theorem wk124 : Cond.methodLink RX0 54 yX0_codeShift ∈ lw_good := gd_of (List.mem_append_right _ (List.mem_append_left _ (List.mem_of_getElem? (i := 184) rfl))) rfl
set_option maxRecDepth 100000 in
theorem wk125 : Cond.static yX0_codeShift ∈ lw_good := gd_of (List.mem_append_right _ (List.mem_append_left _ (List.mem_of_getElem? (i := 185) rfl))) rfl
set_option maxRecDepth 100000 in
theorem wk126 : Cond.code yX0_codeShift cX0_codeShift 1 (some .int) ∈ lw_good := gd_of (List.mem_append_right _ (List.mem_append_left _ (List.mem_of_getElem? (i := 186) rfl))) rfl
set_option maxRecDepth 100000 in
theorem wk127 : Cond.methodLink RX5 42 yX5_sendBlock ∈ lw_good := gd_of (List.mem_append_right _ (List.mem_append_left _ (List.mem_of_getElem? (i := 187) rfl))) rfl
set_option maxRecDepth 100000 in
theorem wk128 : Cond.instanceMethod yX5_sendBlock ∈ lw_good := gd_of (List.mem_append_right _ (List.mem_append_left _ (List.mem_of_getElem? (i := 189) rfl))) rfl
set_option maxRecDepth 100000 in
theorem wk129 : Cond.selects RX5 yX5_sendBlock yX5_sendBlock ∈ lw_good := gd_of (List.mem_append_left _ (List.mem_of_getElem? (i := 1) rfl)) rfl
set_option maxRecDepth 100000 in
theorem wk130 : Cond.code yX5_sendBlock cX5_sendBlock 6 none ∈ lw_good := gd_of (List.mem_append_right _ (List.mem_append_left _ (List.mem_of_getElem? (i := 190) rfl))) rfl
set_option maxRecDepth 100000 in
theorem wk131 : Cond.methodLink RX5 60 yX2_append ∈ lw_good := gd_of (List.mem_append_right _ (List.mem_append_left _ (List.mem_of_getElem? (i := 191) rfl))) rfl
set_option maxRecDepth 100000 in
theorem wk132 : Cond.instanceMethod yX2_append ∈ lw_good := gd_of (List.mem_append_right _ (List.mem_append_left _ (List.mem_of_getElem? (i := 192) rfl))) rfl
set_option maxRecDepth 100000 in
theorem wk133 : Cond.selects RX2 yX2_append yX2_append ∈ lw_good := gd_of (List.mem_append_right _ (List.mem_append_left _ (List.mem_of_getElem? (i := 193) rfl))) rfl
set_option maxRecDepth 100000 in
theorem wk134 : Cond.code yX2_append cX2_append 3 none ∈ lw_good := gd_of (List.mem_append_right _ (List.mem_append_left _ (List.mem_of_getElem? (i := 194) rfl))) rfl
set_option maxRecDepth 100000 in
theorem wk135 : Cond.constantLong RX2 23 (-1) ∈ lw_good := gd_of (List.mem_append_right _ (List.mem_append_left _ (List.mem_of_getElem? (i := 202) rfl))) rfl
set_option maxRecDepth 100000 in
theorem wk136 : Cond.methodLink RX2 19 yX2_ringPlace ∈ lw_good := gd_of (List.mem_append_right _ (List.mem_append_left _ (List.mem_of_getElem? (i := 195) rfl))) rfl
set_option maxRecDepth 100000 in
theorem wk137 : Cond.instanceMethod yX2_ringPlace ∈ lw_good := gd_of (List.mem_append_right _ (List.mem_append_left _ (List.mem_of_getElem? (i := 197) rfl))) rfl
set_option maxRecDepth 100000 in
theorem wk138 : Cond.selects RX2 yX2_ringPlace yX2_ringPlace ∈ lw_good := gd_of (List.mem_append_left _ (List.mem_of_getElem? (i := 2) rfl)) rfl
set_option maxRecDepth 100000 in
theorem wk139 : Cond.code yX2_ringPlace cX2_ringPlace 2 (some .int) ∈ lw_good := gd_of (List.mem_append_right _ (List.mem_append_left _ (List.mem_of_getElem? (i := 198) rfl))) rfl
set_option maxRecDepth 100000 in
theorem wk140 : Cond.fieldLink RX2 25 "LineBlocks$Line" "first" "I" ∈ lw_good := gd_of (List.mem_append_right _ (List.mem_append_left _ (List.mem_of_getElem? (i := 26) rfl))) rfl
set_option maxRecDepth 100000 in
theorem wk141 : Cond.methodLink RX2 28 yJ9_floorMod_7cf53 ∈ lw_good := gd_of (List.mem_append_right _ (List.mem_append_left _ (List.mem_of_getElem? (i := 199) rfl))) rfl
set_option maxRecDepth 100000 in
theorem wk142 : Cond.static yJ9_floorMod_7cf53 ∈ lw_good := gd_of (List.mem_append_right _ (List.mem_append_left _ (List.mem_of_getElem? (i := 200) rfl))) rfl
set_option maxRecDepth 100000 in
theorem wk143 : Cond.initialized RJ9 ∈ lw_good := gd_of (List.mem_append_right _ (List.mem_append_left _ (List.mem_of_getElem? (i := 10) rfl))) rfl
set_option maxRecDepth 100000 in
theorem wk144 : Cond.code yJ9_floorMod_7cf53 cJ9_floorMod_7cf53 3 (some .int) ∈ lw_good := gd_of (List.mem_append_right _ (List.mem_append_left _ (List.mem_of_getElem? (i := 201) rfl))) rfl
set_option maxRecDepth 100000 in
theorem wk145 : Cond.methodLink RX5 66 yX4_scramble ∈ lw_good := gd_of (List.mem_append_right _ (List.mem_append_left _ (List.mem_of_getElem? (i := 203) rfl))) rfl
set_option maxRecDepth 100000 in
theorem wk146 : Cond.instanceMethod yX4_scramble ∈ lw_good := gd_of (List.mem_append_right _ (List.mem_append_left _ (List.mem_of_getElem? (i := 204) rfl))) rfl
set_option maxRecDepth 100000 in
theorem wk147 : Cond.selects RX4 yX4_scramble yX4_scramble ∈ lw_good := gd_of (List.mem_append_right _ (List.mem_append_left _ (List.mem_of_getElem? (i := 205) rfl))) rfl
set_option maxRecDepth 100000 in
theorem wk148 : Cond.code yX4_scramble cX4_scramble 3 (some .int) ∈ lw_good := gd_of (List.mem_append_right _ (List.mem_append_left _ (List.mem_of_getElem? (i := 206) rfl))) rfl
set_option maxRecDepth 100000 in
theorem wk149 : Cond.methodLink RX4 15 yX4_mixed ∈ lw_good := gd_of (List.mem_append_right _ (List.mem_append_left _ (List.mem_of_getElem? (i := 207) rfl))) rfl
set_option maxRecDepth 100000 in
theorem wk150 : Cond.instanceMethod yX4_mixed ∈ lw_good := gd_of (List.mem_append_right _ (List.mem_append_left _ (List.mem_of_getElem? (i := 209) rfl))) rfl
set_option maxRecDepth 100000 in
theorem wk151 : Cond.selects RX4 yX4_mixed yX4_mixed ∈ lw_good := gd_of (List.mem_append_left _ (List.mem_of_getElem? (i := 3) rfl)) rfl
set_option maxRecDepth 100000 in
theorem wk152 : Cond.code yX4_mixed cX4_mixed 4 (some .int) ∈ lw_good := gd_of (List.mem_append_right _ (List.mem_append_left _ (List.mem_of_getElem? (i := 210) rfl))) rfl
set_option maxRecDepth 100000 in
theorem wk153 : Cond.fieldLink RX4 7 "LineBlocks$Scrambler" "latest" "J" ∈ lw_good := gd_of (List.mem_append_right _ (List.mem_append_left _ (List.mem_of_getElem? (i := 48) rfl))) rfl
set_option maxRecDepth 100000 in
theorem wk154 : Cond.methodLink RX4 19 yX4_keep ∈ lw_good := gd_of (List.mem_append_right _ (List.mem_append_left _ (List.mem_of_getElem? (i := 211) rfl))) rfl
set_option maxRecDepth 100000 in
theorem wk155 : Cond.instanceMethod yX4_keep ∈ lw_good := gd_of (List.mem_append_right _ (List.mem_append_left _ (List.mem_of_getElem? (i := 213) rfl))) rfl
set_option maxRecDepth 100000 in
theorem wk156 : Cond.selects RX4 yX4_keep yX4_keep ∈ lw_good := gd_of (List.mem_append_left _ (List.mem_of_getElem? (i := 4) rfl)) rfl
set_option maxRecDepth 100000 in
theorem wk157 : Cond.code yX4_keep cX4_keep 2 none ∈ lw_good := gd_of (List.mem_append_right _ (List.mem_append_left _ (List.mem_of_getElem? (i := 214) rfl))) rfl
set_option maxRecDepth 100000 in
theorem wk158 : Cond.constantLong RX4 13 (288230376151711743) ∈ lw_good := gd_of (List.mem_append_right _ (List.mem_append_left _ (List.mem_of_getElem? (i := 215) rfl))) rfl
set_option maxRecDepth 100000 in
theorem wk159 : Cond.methodLink RL 17 yX7_put ∈ lw_good := gd_of (List.mem_append_right _ (List.mem_append_right _ (List.mem_append_left _ (List.mem_of_getElem? (i := 223) rfl)))) rfl
set_option maxRecDepth 100000 in
theorem wk160 : Cond.instanceMethod yX7_put ∈ lw_good := gd_of (List.mem_append_right _ (List.mem_append_right _ (List.mem_append_left _ (List.mem_of_getElem? (i := 224) rfl)))) rfl
set_option maxRecDepth 100000 in
theorem wk161 : Cond.selects RX7 yX7_put yX7_put ∈ lw_good := gd_of (List.mem_append_right _ (List.mem_append_right _ (List.mem_append_left _ (List.mem_of_getElem? (i := 225) rfl)))) rfl
set_option maxRecDepth 100000 in
theorem wk162 : Cond.code yX7_put cX7_put 2 (some .int) ∈ lw_good := gd_of (List.mem_append_right _ (List.mem_append_right _ (List.mem_append_left _ (List.mem_of_getElem? (i := 226) rfl)))) rfl
set_option maxRecDepth 100000 in
theorem wk163 : Cond.fieldLink RX7 33 "LineBlocksModel" "thrown" "I" ∈ lw_good := gd_of (List.mem_append_right _ (List.mem_append_right _ (List.mem_append_left _ (List.mem_of_getElem? (i := 164) rfl)))) rfl
set_option maxRecDepth 100000 in
theorem wk164 : Cond.fieldLink RX7 73 "LineBlocksModel" "waiting" "I" ∈ lw_good := gd_of (List.mem_append_right _ (List.mem_append_right _ (List.mem_append_left _ (List.mem_of_getElem? (i := 165) rfl)))) rfl
set_option maxRecDepth 100000 in
theorem wk165 : Cond.methodLink RX7 76 yX7_send ∈ lw_good := gd_of (List.mem_append_right _ (List.mem_append_right _ (List.mem_append_left _ (List.mem_of_getElem? (i := 227) rfl)))) rfl
set_option maxRecDepth 100000 in
theorem wk166 : Cond.instanceMethod yX7_send ∈ lw_good := gd_of (List.mem_append_right _ (List.mem_append_right _ (List.mem_append_left _ (List.mem_of_getElem? (i := 229) rfl)))) rfl
set_option maxRecDepth 100000 in
theorem wk167 : Cond.selects RX7 yX7_send yX7_send ∈ lw_good := gd_of (List.mem_append_left _ (List.mem_of_getElem? (i := 12) rfl)) rfl
set_option maxRecDepth 100000 in
theorem wk168 : Cond.code yX7_send cX7_send 3 none ∈ lw_good := gd_of (List.mem_append_right _ (List.mem_append_right _ (List.mem_append_left _ (List.mem_of_getElem? (i := 230) rfl)))) rfl
set_option maxRecDepth 100000 in
theorem wk169 : Cond.methodLink RX7 63 yX7_encode ∈ lw_good := gd_of (List.mem_append_right _ (List.mem_append_right _ (List.mem_append_left _ (List.mem_of_getElem? (i := 231) rfl)))) rfl
set_option maxRecDepth 100000 in
theorem wk170 : Cond.instanceMethod yX7_encode ∈ lw_good := gd_of (List.mem_append_right _ (List.mem_append_right _ (List.mem_append_left _ (List.mem_of_getElem? (i := 233) rfl)))) rfl
set_option maxRecDepth 100000 in
theorem wk171 : Cond.selects RX7 yX7_encode yX7_encode ∈ lw_good := gd_of (List.mem_append_left _ (List.mem_of_getElem? (i := 13) rfl)) rfl
set_option maxRecDepth 100000 in
theorem wk172 : Cond.code yX7_encode cX7_encode 4 none ∈ lw_good := gd_of (List.mem_append_right _ (List.mem_append_right _ (List.mem_append_left _ (List.mem_of_getElem? (i := 234) rfl)))) rfl
set_option maxRecDepth 100000 in
theorem wk173 : Cond.methodLink RX7 51 yX7_are ∈ lw_good := gd_of (List.mem_append_right _ (List.mem_append_right _ (List.mem_append_left _ (List.mem_of_getElem? (i := 235) rfl)))) rfl
set_option maxRecDepth 100000 in
theorem wk174 : Cond.instanceMethod yX7_are ∈ lw_good := gd_of (List.mem_append_right _ (List.mem_append_right _ (List.mem_append_left _ (List.mem_of_getElem? (i := 237) rfl)))) rfl
set_option maxRecDepth 100000 in
theorem wk175 : Cond.selects RX7 yX7_are yX7_are ∈ lw_good := gd_of (List.mem_append_left _ (List.mem_of_getElem? (i := 14) rfl)) rfl
set_option maxRecDepth 100000 in
theorem wk176 : Cond.code yX7_are cX7_are 6 (some .boolean) ∈ lw_good := gd_of (List.mem_append_right _ (List.mem_append_right _ (List.mem_append_left _ (List.mem_of_getElem? (i := 238) rfl)))) rfl
set_option maxRecDepth 100000 in
theorem wk177 : Cond.methodLink RX7 40 yX7_isData ∈ lw_good := gd_of (List.mem_append_right _ (List.mem_append_right _ (List.mem_append_left _ (List.mem_of_getElem? (i := 239) rfl)))) rfl
set_option maxRecDepth 100000 in
theorem wk178 : Cond.static yX7_isData ∈ lw_good := gd_of (List.mem_append_right _ (List.mem_append_right _ (List.mem_append_right _ (List.mem_of_getElem? (i := 0) rfl)))) rfl
set_option maxRecDepth 100000 in
theorem wk179 : Cond.code yX7_isData cX7_isData 1 (some .boolean) ∈ lw_good := gd_of (List.mem_append_right _ (List.mem_append_right _ (List.mem_append_right _ (List.mem_of_getElem? (i := 1) rfl)))) rfl
set_option maxRecDepth 100000 in
theorem wk180 : Cond.methodLink RX7 44 yX7_isQuiet ∈ lw_good := gd_of (List.mem_append_right _ (List.mem_append_right _ (List.mem_append_right _ (List.mem_of_getElem? (i := 2) rfl)))) rfl
set_option maxRecDepth 100000 in
theorem wk181 : Cond.static yX7_isQuiet ∈ lw_good := gd_of (List.mem_append_right _ (List.mem_append_right _ (List.mem_append_right _ (List.mem_of_getElem? (i := 3) rfl)))) rfl
set_option maxRecDepth 100000 in
theorem wk182 : Cond.code yX7_isQuiet cX7_isQuiet 1 (some .boolean) ∈ lw_good := gd_of (List.mem_append_right _ (List.mem_append_right _ (List.mem_append_right _ (List.mem_of_getElem? (i := 4) rfl)))) rfl
set_option maxRecDepth 100000 in
theorem wk183 : Cond.methodLink RX7 47 yX7_setBits ∈ lw_good := gd_of (List.mem_append_right _ (List.mem_append_right _ (List.mem_append_right _ (List.mem_of_getElem? (i := 5) rfl)))) rfl
set_option maxRecDepth 100000 in
theorem wk184 : Cond.instanceMethod yX7_setBits ∈ lw_good := gd_of (List.mem_append_right _ (List.mem_append_right _ (List.mem_append_right _ (List.mem_of_getElem? (i := 7) rfl)))) rfl
set_option maxRecDepth 100000 in
theorem wk185 : Cond.selects RX7 yX7_setBits yX7_setBits ∈ lw_good := gd_of (List.mem_append_left _ (List.mem_of_getElem? (i := 15) rfl)) rfl
set_option maxRecDepth 100000 in
theorem wk186 : Cond.code yX7_setBits cX7_setBits 5 none ∈ lw_good := gd_of (List.mem_append_right _ (List.mem_append_right _ (List.mem_append_right _ (List.mem_of_getElem? (i := 8) rfl)))) rfl
set_option maxRecDepth 100000 in
theorem wk187 : Cond.methodLink RX7 55 yX7_putCode ∈ lw_good := gd_of (List.mem_append_right _ (List.mem_append_right _ (List.mem_append_right _ (List.mem_of_getElem? (i := 9) rfl)))) rfl
set_option maxRecDepth 100000 in
theorem wk188 : Cond.instanceMethod yX7_putCode ∈ lw_good := gd_of (List.mem_append_right _ (List.mem_append_right _ (List.mem_append_right _ (List.mem_of_getElem? (i := 11) rfl)))) rfl
set_option maxRecDepth 100000 in
theorem wk189 : Cond.selects RX7 yX7_putCode yX7_putCode ∈ lw_good := gd_of (List.mem_append_left _ (List.mem_of_getElem? (i := 16) rfl)) rfl
set_option maxRecDepth 100000 in
theorem wk190 : Cond.code yX7_putCode cX7_putCode 3 none ∈ lw_good := gd_of (List.mem_append_right _ (List.mem_append_right _ (List.mem_append_right _ (List.mem_of_getElem? (i := 12) rfl)))) rfl
set_option maxRecDepth 100000 in
theorem wk191 : Cond.methodLink RX7 59 yX7_typeOf ∈ lw_good := gd_of (List.mem_append_right _ (List.mem_append_right _ (List.mem_append_right _ (List.mem_of_getElem? (i := 13) rfl)))) rfl
set_option maxRecDepth 100000 in
theorem wk192 : Cond.static yX7_typeOf ∈ lw_good := gd_of (List.mem_append_right _ (List.mem_append_right _ (List.mem_append_right _ (List.mem_of_getElem? (i := 14) rfl)))) rfl
set_option maxRecDepth 100000 in
theorem wk193 : Cond.code yX7_typeOf cX7_typeOf 1 (some .int) ∈ lw_good := gd_of (List.mem_append_right _ (List.mem_append_right _ (List.mem_append_right _ (List.mem_of_getElem? (i := 15) rfl)))) rfl
set_option maxRecDepth 100000 in
theorem wk194 : Cond.methodLink RX7 66 yX7_mixed ∈ lw_good := gd_of (List.mem_append_right _ (List.mem_append_right _ (List.mem_append_right _ (List.mem_of_getElem? (i := 16) rfl)))) rfl
set_option maxRecDepth 100000 in
theorem wk195 : Cond.instanceMethod yX7_mixed ∈ lw_good := gd_of (List.mem_append_right _ (List.mem_append_right _ (List.mem_append_right _ (List.mem_of_getElem? (i := 18) rfl)))) rfl
set_option maxRecDepth 100000 in
theorem wk196 : Cond.selects RX7 yX7_mixed yX7_mixed ∈ lw_good := gd_of (List.mem_append_left _ (List.mem_of_getElem? (i := 17) rfl)) rfl
set_option maxRecDepth 100000 in
theorem wk197 : Cond.code yX7_mixed cX7_mixed 3 (some .int) ∈ lw_good := gd_of (List.mem_append_right _ (List.mem_append_right _ (List.mem_append_right _ (List.mem_of_getElem? (i := 19) rfl)))) rfl
set_option maxRecDepth 100000 in
theorem wk198 : Cond.methodLink RX7 70 yX7_remember ∈ lw_good := gd_of (List.mem_append_right _ (List.mem_append_right _ (List.mem_append_right _ (List.mem_of_getElem? (i := 20) rfl)))) rfl
set_option maxRecDepth 100000 in
theorem wk199 : Cond.instanceMethod yX7_remember ∈ lw_good := gd_of (List.mem_append_right _ (List.mem_append_right _ (List.mem_append_right _ (List.mem_of_getElem? (i := 22) rfl)))) rfl
set_option maxRecDepth 100000 in
theorem wk200 : Cond.selects RX7 yX7_remember yX7_remember ∈ lw_good := gd_of (List.mem_append_left _ (List.mem_of_getElem? (i := 18) rfl)) rfl
set_option maxRecDepth 100000 in
theorem wk201 : Cond.code yX7_remember cX7_remember 4 none ∈ lw_good := gd_of (List.mem_append_right _ (List.mem_append_right _ (List.mem_append_right _ (List.mem_of_getElem? (i := 23) rfl)))) rfl
set_option maxRecDepth 100000 in
theorem wk202 : Cond.methodLink RL 18 yX6_word ∈ lw_good := gd_of (List.mem_append_right _ (List.mem_append_left _ (List.mem_of_getElem? (i := 216) rfl))) rfl
set_option maxRecDepth 100000 in
theorem wk203 : Cond.instanceMethod yX6_word ∈ lw_good := gd_of (List.mem_append_right _ (List.mem_append_left _ (List.mem_of_getElem? (i := 217) rfl))) rfl
set_option maxRecDepth 100000 in
theorem wk204 : Cond.selects RX6 yX6_word yX6_word ∈ lw_good := gd_of (List.mem_append_right _ (List.mem_append_left _ (List.mem_of_getElem? (i := 218) rfl))) rfl
set_option maxRecDepth 100000 in
theorem wk205 : Cond.code yX6_word cX6_word 3 (some .int) ∈ lw_good := gd_of (List.mem_append_right _ (List.mem_append_left _ (List.mem_of_getElem? (i := 219) rfl))) rfl
set_option maxRecDepth 100000 in
theorem wk206 : Cond.methodLink RX6 41 yX5_acceptBytes ∈ lw_good := gd_of (List.mem_append_right _ (List.mem_append_left _ (List.mem_of_getElem? (i := 220) rfl))) rfl
set_option maxRecDepth 100000 in
theorem wk207 : Cond.instanceMethod yX5_acceptBytes ∈ lw_good := gd_of (List.mem_append_right _ (List.mem_append_left _ (List.mem_of_getElem? (i := 221) rfl))) rfl
set_option maxRecDepth 100000 in
theorem wk208 : Cond.selects RX5 yX5_acceptBytes yX5_acceptBytes ∈ lw_good := gd_of (List.mem_append_right _ (List.mem_append_left _ (List.mem_of_getElem? (i := 222) rfl))) rfl
set_option maxRecDepth 100000 in
theorem wk209 : Cond.code yX5_acceptBytes cX5_acceptBytes 4 none ∈ lw_good := gd_of (List.mem_append_right _ (List.mem_append_left _ (List.mem_of_getElem? (i := 223) rfl))) rfl
set_option maxRecDepth 100000 in
theorem wk210 : Cond.methodLink RX5 36 yX5_accept ∈ lw_good := gd_of (List.mem_append_right _ (List.mem_append_left _ (List.mem_of_getElem? (i := 224) rfl))) rfl
set_option maxRecDepth 100000 in
theorem wk211 : Cond.methodLink RL 22 yX7_word ∈ lw_good := gd_of (List.mem_append_right _ (List.mem_append_right _ (List.mem_append_right _ (List.mem_of_getElem? (i := 24) rfl)))) rfl
set_option maxRecDepth 100000 in
theorem wk212 : Cond.instanceMethod yX7_word ∈ lw_good := gd_of (List.mem_append_right _ (List.mem_append_right _ (List.mem_append_right _ (List.mem_of_getElem? (i := 25) rfl)))) rfl
set_option maxRecDepth 100000 in
theorem wk213 : Cond.selects RX7 yX7_word yX7_word ∈ lw_good := gd_of (List.mem_append_right _ (List.mem_append_right _ (List.mem_append_right _ (List.mem_of_getElem? (i := 26) rfl)))) rfl
set_option maxRecDepth 100000 in
theorem wk214 : Cond.code yX7_word cX7_word 4 (some .int) ∈ lw_good := gd_of (List.mem_append_right _ (List.mem_append_right _ (List.mem_append_right _ (List.mem_of_getElem? (i := 27) rfl)))) rfl
set_option maxRecDepth 100000 in
theorem wk215 : Cond.methodLink RX7 79 yX7_put ∈ lw_good := gd_of (List.mem_append_right _ (List.mem_append_right _ (List.mem_append_right _ (List.mem_of_getElem? (i := 28) rfl)))) rfl
set_option maxRecDepth 100000 in
theorem wk216 : Cond.methodLink RL 23 yX6_idle ∈ lw_good := gd_of (List.mem_append_right _ (List.mem_append_left _ (List.mem_of_getElem? (i := 225) rfl))) rfl
set_option maxRecDepth 100000 in
theorem wk217 : Cond.instanceMethod yX6_idle ∈ lw_good := gd_of (List.mem_append_right _ (List.mem_append_left _ (List.mem_of_getElem? (i := 226) rfl))) rfl
set_option maxRecDepth 100000 in
theorem wk218 : Cond.selects RX6 yX6_idle yX6_idle ∈ lw_good := gd_of (List.mem_append_right _ (List.mem_append_left _ (List.mem_of_getElem? (i := 227) rfl))) rfl
set_option maxRecDepth 100000 in
theorem wk219 : Cond.code yX6_idle cX6_idle 2 (some .int) ∈ lw_good := gd_of (List.mem_append_right _ (List.mem_append_left _ (List.mem_of_getElem? (i := 228) rfl))) rfl
set_option maxRecDepth 100000 in
theorem wk220 : Cond.methodLink RX6 44 yX5_sendIdleGroups ∈ lw_good := gd_of (List.mem_append_right _ (List.mem_append_left _ (List.mem_of_getElem? (i := 229) rfl))) rfl
set_option maxRecDepth 100000 in
theorem wk221 : Cond.instanceMethod yX5_sendIdleGroups ∈ lw_good := gd_of (List.mem_append_right _ (List.mem_append_left _ (List.mem_of_getElem? (i := 230) rfl))) rfl
set_option maxRecDepth 100000 in
theorem wk222 : Cond.selects RX5 yX5_sendIdleGroups yX5_sendIdleGroups ∈ lw_good := gd_of (List.mem_append_right _ (List.mem_append_left _ (List.mem_of_getElem? (i := 231) rfl))) rfl
set_option maxRecDepth 100000 in
theorem wk223 : Cond.code yX5_sendIdleGroups cX5_sendIdleGroups 4 none ∈ lw_good := gd_of (List.mem_append_right _ (List.mem_append_left _ (List.mem_of_getElem? (i := 232) rfl))) rfl
set_option maxRecDepth 100000 in
theorem wk224 : Cond.constantLong RX5 40 (30) ∈ lw_good := gd_of (List.mem_append_right _ (List.mem_append_left _ (List.mem_of_getElem? (i := 233) rfl))) rfl
set_option maxRecDepth 100000 in
theorem wk225 : Cond.methodLink RL 26 yX7_idle ∈ lw_good := gd_of (List.mem_append_right _ (List.mem_append_right _ (List.mem_append_right _ (List.mem_of_getElem? (i := 29) rfl)))) rfl
set_option maxRecDepth 100000 in
theorem wk226 : Cond.instanceMethod yX7_idle ∈ lw_good := gd_of (List.mem_append_right _ (List.mem_append_right _ (List.mem_append_right _ (List.mem_of_getElem? (i := 30) rfl)))) rfl
set_option maxRecDepth 100000 in
theorem wk227 : Cond.selects RX7 yX7_idle yX7_idle ∈ lw_good := gd_of (List.mem_append_right _ (List.mem_append_right _ (List.mem_append_right _ (List.mem_of_getElem? (i := 31) rfl)))) rfl
set_option maxRecDepth 100000 in
theorem wk228 : Cond.code yX7_idle cX7_idle 4 (some .int) ∈ lw_good := gd_of (List.mem_append_right _ (List.mem_append_right _ (List.mem_append_right _ (List.mem_of_getElem? (i := 32) rfl)))) rfl
set_option maxRecDepth 100000 in
theorem wk229 : Cond.methodLink RL 29 yX6_state ∈ lw_good := gd_of (List.mem_append_right _ (List.mem_append_left _ (List.mem_of_getElem? (i := 234) rfl))) rfl
set_option maxRecDepth 100000 in
theorem wk230 : Cond.instanceMethod yX6_state ∈ lw_good := gd_of (List.mem_append_right _ (List.mem_append_left _ (List.mem_of_getElem? (i := 235) rfl))) rfl
set_option maxRecDepth 100000 in
theorem wk231 : Cond.selects RX6 yX6_state yX6_state ∈ lw_good := gd_of (List.mem_append_right _ (List.mem_append_left _ (List.mem_of_getElem? (i := 236) rfl))) rfl
set_option maxRecDepth 100000 in
theorem wk232 : Cond.code yX6_state cX6_state 4 (some .long) ∈ lw_good := gd_of (List.mem_append_right _ (List.mem_append_left _ (List.mem_of_getElem? (i := 237) rfl))) rfl
set_option maxRecDepth 100000 in
theorem wk233 : Cond.constantLong RX6 52 (-12) ∈ lw_good := gd_of (List.mem_append_right _ (List.mem_append_right _ (List.mem_append_left _ (List.mem_of_getElem? (i := 11) rfl)))) rfl
set_option maxRecDepth 100000 in
theorem wk234 : Cond.methodLink RX6 47 yX5_exchangeState ∈ lw_good := gd_of (List.mem_append_right _ (List.mem_append_left _ (List.mem_of_getElem? (i := 238) rfl))) rfl
set_option maxRecDepth 100000 in
theorem wk235 : Cond.instanceMethod yX5_exchangeState ∈ lw_good := gd_of (List.mem_append_right _ (List.mem_append_left _ (List.mem_of_getElem? (i := 239) rfl))) rfl
set_option maxRecDepth 100000 in
theorem wk236 : Cond.selects RX5 yX5_exchangeState yX5_exchangeState ∈ lw_good := gd_of (List.mem_append_right _ (List.mem_append_right _ (List.mem_append_left _ (List.mem_of_getElem? (i := 0) rfl)))) rfl
set_option maxRecDepth 100000 in
theorem wk237 : Cond.code yX5_exchangeState cX5_exchangeState 3 (some .long) ∈ lw_good := gd_of (List.mem_append_right _ (List.mem_append_right _ (List.mem_append_left _ (List.mem_of_getElem? (i := 1) rfl)))) rfl
set_option maxRecDepth 100000 in
theorem wk238 : Cond.methodLink RX5 28 yX4_exchange ∈ lw_good := gd_of (List.mem_append_right _ (List.mem_append_right _ (List.mem_append_left _ (List.mem_of_getElem? (i := 2) rfl)))) rfl
set_option maxRecDepth 100000 in
theorem wk239 : Cond.instanceMethod yX4_exchange ∈ lw_good := gd_of (List.mem_append_right _ (List.mem_append_right _ (List.mem_append_left _ (List.mem_of_getElem? (i := 3) rfl)))) rfl
set_option maxRecDepth 100000 in
theorem wk240 : Cond.selects RX4 yX4_exchange yX4_exchange ∈ lw_good := gd_of (List.mem_append_right _ (List.mem_append_right _ (List.mem_append_left _ (List.mem_of_getElem? (i := 4) rfl)))) rfl
set_option maxRecDepth 100000 in
theorem wk241 : Cond.code yX4_exchange cX4_exchange 5 (some .long) ∈ lw_good := gd_of (List.mem_append_right _ (List.mem_append_right _ (List.mem_append_left _ (List.mem_of_getElem? (i := 5) rfl)))) rfl
set_option maxRecDepth 100000 in
theorem wk242 : Cond.methodLink RX6 51 yX3_exchangeState ∈ lw_good := gd_of (List.mem_append_right _ (List.mem_append_right _ (List.mem_append_left _ (List.mem_of_getElem? (i := 6) rfl)))) rfl
set_option maxRecDepth 100000 in
theorem wk243 : Cond.instanceMethod yX3_exchangeState ∈ lw_good := gd_of (List.mem_append_right _ (List.mem_append_right _ (List.mem_append_left _ (List.mem_of_getElem? (i := 7) rfl)))) rfl
set_option maxRecDepth 100000 in
theorem wk244 : Cond.selects RX3 yX3_exchangeState yX3_exchangeState ∈ lw_good := gd_of (List.mem_append_right _ (List.mem_append_right _ (List.mem_append_left _ (List.mem_of_getElem? (i := 8) rfl)))) rfl
set_option maxRecDepth 100000 in
theorem wk245 : Cond.code yX3_exchangeState cX3_exchangeState 3 (some .long) ∈ lw_good := gd_of (List.mem_append_right _ (List.mem_append_right _ (List.mem_append_left _ (List.mem_of_getElem? (i := 9) rfl)))) rfl
set_option maxRecDepth 100000 in
theorem wk246 : Cond.methodLink RX3 50 yX4_exchange ∈ lw_good := gd_of (List.mem_append_right _ (List.mem_append_right _ (List.mem_append_left _ (List.mem_of_getElem? (i := 10) rfl)))) rfl
set_option maxRecDepth 100000 in
theorem wk247 : Cond.methodLink RL 33 yX7_state ∈ lw_good := gd_of (List.mem_append_right _ (List.mem_append_right _ (List.mem_append_left _ (List.mem_of_getElem? (i := 217) rfl)))) rfl
set_option maxRecDepth 100000 in
theorem wk248 : Cond.instanceMethod yX7_state ∈ lw_good := gd_of (List.mem_append_right _ (List.mem_append_right _ (List.mem_append_left _ (List.mem_of_getElem? (i := 218) rfl)))) rfl
set_option maxRecDepth 100000 in
theorem wk249 : Cond.selects RX7 yX7_state yX7_state ∈ lw_good := gd_of (List.mem_append_right _ (List.mem_append_right _ (List.mem_append_left _ (List.mem_of_getElem? (i := 219) rfl)))) rfl
set_option maxRecDepth 100000 in
theorem wk250 : Cond.code yX7_state cX7_state 7 (some .long) ∈ lw_good := gd_of (List.mem_append_right _ (List.mem_append_right _ (List.mem_append_left _ (List.mem_of_getElem? (i := 220) rfl)))) rfl
set_option maxRecDepth 100000 in
theorem wk251 : Cond.constantLong RX7 36 (-12) ∈ lw_good := gd_of (List.mem_append_right _ (List.mem_append_right _ (List.mem_append_left _ (List.mem_of_getElem? (i := 221) rfl)))) rfl
set_option maxRecDepth 100000 in
theorem wk252 : Cond.constantLong RX7 38 (2) ∈ lw_good := gd_of (List.mem_append_right _ (List.mem_append_right _ (List.mem_append_left _ (List.mem_of_getElem? (i := 222) rfl)))) rfl
set_option maxRecDepth 100000 in
theorem wk253 : Cond.methodLink RL 34 yX6_bits ∈ lw_good := gd_of (List.mem_append_right _ (List.mem_append_right _ (List.mem_append_left _ (List.mem_of_getElem? (i := 12) rfl)))) rfl
set_option maxRecDepth 100000 in
theorem wk254 : Cond.instanceMethod yX6_bits ∈ lw_good := gd_of (List.mem_append_right _ (List.mem_append_right _ (List.mem_append_left _ (List.mem_of_getElem? (i := 13) rfl)))) rfl
set_option maxRecDepth 100000 in
theorem wk255 : Cond.selects RX6 yX6_bits yX6_bits ∈ lw_good := gd_of (List.mem_append_right _ (List.mem_append_right _ (List.mem_append_left _ (List.mem_of_getElem? (i := 14) rfl)))) rfl
set_option maxRecDepth 100000 in
theorem wk256 : Cond.code yX6_bits cX6_bits 1 (some .int) ∈ lw_good := gd_of (List.mem_append_right _ (List.mem_append_right _ (List.mem_append_left _ (List.mem_of_getElem? (i := 15) rfl)))) rfl
set_option maxRecDepth 100000 in
theorem wk257 : Cond.methodLink RL 38 yX7_bits ∈ lw_good := gd_of (List.mem_append_right _ (List.mem_append_right _ (List.mem_append_right _ (List.mem_of_getElem? (i := 33) rfl)))) rfl
set_option maxRecDepth 100000 in
theorem wk258 : Cond.instanceMethod yX7_bits ∈ lw_good := gd_of (List.mem_append_right _ (List.mem_append_right _ (List.mem_append_right _ (List.mem_of_getElem? (i := 34) rfl)))) rfl
set_option maxRecDepth 100000 in
theorem wk259 : Cond.selects RX7 yX7_bits yX7_bits ∈ lw_good := gd_of (List.mem_append_right _ (List.mem_append_right _ (List.mem_append_right _ (List.mem_of_getElem? (i := 35) rfl)))) rfl
set_option maxRecDepth 100000 in
theorem wk260 : Cond.code yX7_bits cX7_bits 1 (some .int) ∈ lw_good := gd_of (List.mem_append_right _ (List.mem_append_right _ (List.mem_append_right _ (List.mem_of_getElem? (i := 36) rfl)))) rfl
set_option maxRecDepth 100000 in
theorem wk261 : Cond.methodLink RL 39 yX6_bit ∈ lw_good := gd_of (List.mem_append_right _ (List.mem_append_right _ (List.mem_append_left _ (List.mem_of_getElem? (i := 16) rfl)))) rfl
set_option maxRecDepth 100000 in
theorem wk262 : Cond.instanceMethod yX6_bit ∈ lw_good := gd_of (List.mem_append_right _ (List.mem_append_right _ (List.mem_append_left _ (List.mem_of_getElem? (i := 17) rfl)))) rfl
set_option maxRecDepth 100000 in
theorem wk263 : Cond.selects RX6 yX6_bit yX6_bit ∈ lw_good := gd_of (List.mem_append_right _ (List.mem_append_right _ (List.mem_append_left _ (List.mem_of_getElem? (i := 18) rfl)))) rfl
set_option maxRecDepth 100000 in
theorem wk264 : Cond.code yX6_bit cX6_bit 2 (some .int) ∈ lw_good := gd_of (List.mem_append_right _ (List.mem_append_right _ (List.mem_append_left _ (List.mem_of_getElem? (i := 19) rfl)))) rfl
set_option maxRecDepth 100000 in
theorem wk265 : Cond.methodLink RX6 54 yX2_has ∈ lw_good := gd_of (List.mem_append_right _ (List.mem_append_right _ (List.mem_append_left _ (List.mem_of_getElem? (i := 20) rfl)))) rfl
set_option maxRecDepth 100000 in
theorem wk266 : Cond.instanceMethod yX2_has ∈ lw_good := gd_of (List.mem_append_right _ (List.mem_append_right _ (List.mem_append_left _ (List.mem_of_getElem? (i := 21) rfl)))) rfl
set_option maxRecDepth 100000 in
theorem wk267 : Cond.selects RX2 yX2_has yX2_has ∈ lw_good := gd_of (List.mem_append_right _ (List.mem_append_right _ (List.mem_append_left _ (List.mem_of_getElem? (i := 22) rfl)))) rfl
set_option maxRecDepth 100000 in
theorem wk268 : Cond.code yX2_has cX2_has 2 (some .boolean) ∈ lw_good := gd_of (List.mem_append_right _ (List.mem_append_right _ (List.mem_append_left _ (List.mem_of_getElem? (i := 23) rfl)))) rfl
set_option maxRecDepth 100000 in
theorem wk269 : Cond.methodLink RX6 58 yX2_at ∈ lw_good := gd_of (List.mem_append_right _ (List.mem_append_right _ (List.mem_append_left _ (List.mem_of_getElem? (i := 24) rfl)))) rfl
set_option maxRecDepth 100000 in
theorem wk270 : Cond.instanceMethod yX2_at ∈ lw_good := gd_of (List.mem_append_right _ (List.mem_append_right _ (List.mem_append_left _ (List.mem_of_getElem? (i := 25) rfl)))) rfl
set_option maxRecDepth 100000 in
theorem wk271 : Cond.selects RX2 yX2_at yX2_at ∈ lw_good := gd_of (List.mem_append_right _ (List.mem_append_right _ (List.mem_append_left _ (List.mem_of_getElem? (i := 26) rfl)))) rfl
set_option maxRecDepth 100000 in
theorem wk272 : Cond.code yX2_at cX2_at 3 (some .int) ∈ lw_good := gd_of (List.mem_append_right _ (List.mem_append_right _ (List.mem_append_left _ (List.mem_of_getElem? (i := 27) rfl)))) rfl
set_option maxRecDepth 100000 in
theorem wk273 : Cond.methodLink RL 42 yX7_bit ∈ lw_good := gd_of (List.mem_append_right _ (List.mem_append_right _ (List.mem_append_right _ (List.mem_of_getElem? (i := 37) rfl)))) rfl
set_option maxRecDepth 100000 in
theorem wk274 : Cond.instanceMethod yX7_bit ∈ lw_good := gd_of (List.mem_append_right _ (List.mem_append_right _ (List.mem_append_right _ (List.mem_of_getElem? (i := 38) rfl)))) rfl
set_option maxRecDepth 100000 in
theorem wk275 : Cond.selects RX7 yX7_bit yX7_bit ∈ lw_good := gd_of (List.mem_append_right _ (List.mem_append_right _ (List.mem_append_right _ (List.mem_of_getElem? (i := 39) rfl)))) rfl
set_option maxRecDepth 100000 in
theorem wk276 : Cond.code yX7_bit cX7_bit 2 (some .int) ∈ lw_good := gd_of (List.mem_append_right _ (List.mem_append_right _ (List.mem_append_right _ (List.mem_of_getElem? (i := 40) rfl)))) rfl
set_option maxRecDepth 100000 in
theorem wk277 : Cond.methodLink RL 43 yX6_turn ∈ lw_good := gd_of (List.mem_append_right _ (List.mem_append_right _ (List.mem_append_left _ (List.mem_of_getElem? (i := 28) rfl)))) rfl
set_option maxRecDepth 100000 in
theorem wk278 : Cond.instanceMethod yX6_turn ∈ lw_good := gd_of (List.mem_append_right _ (List.mem_append_right _ (List.mem_append_left _ (List.mem_of_getElem? (i := 29) rfl)))) rfl
set_option maxRecDepth 100000 in
theorem wk279 : Cond.selects RX6 yX6_turn yX6_turn ∈ lw_good := gd_of (List.mem_append_right _ (List.mem_append_right _ (List.mem_append_left _ (List.mem_of_getElem? (i := 30) rfl)))) rfl
set_option maxRecDepth 100000 in
theorem wk280 : Cond.code yX6_turn cX6_turn 2 (some .int) ∈ lw_good := gd_of (List.mem_append_right _ (List.mem_append_right _ (List.mem_append_left _ (List.mem_of_getElem? (i := 31) rfl)))) rfl
set_option maxRecDepth 100000 in
theorem wk281 : Cond.methodLink RX6 62 yX2_flip ∈ lw_good := gd_of (List.mem_append_right _ (List.mem_append_right _ (List.mem_append_left _ (List.mem_of_getElem? (i := 32) rfl)))) rfl
set_option maxRecDepth 100000 in
theorem wk282 : Cond.instanceMethod yX2_flip ∈ lw_good := gd_of (List.mem_append_right _ (List.mem_append_right _ (List.mem_append_left _ (List.mem_of_getElem? (i := 33) rfl)))) rfl
set_option maxRecDepth 100000 in
theorem wk283 : Cond.selects RX2 yX2_flip yX2_flip ∈ lw_good := gd_of (List.mem_append_right _ (List.mem_append_right _ (List.mem_append_left _ (List.mem_of_getElem? (i := 34) rfl)))) rfl
set_option maxRecDepth 100000 in
theorem wk284 : Cond.code yX2_flip cX2_flip 3 none ∈ lw_good := gd_of (List.mem_append_right _ (List.mem_append_right _ (List.mem_append_left _ (List.mem_of_getElem? (i := 35) rfl)))) rfl
set_option maxRecDepth 100000 in
theorem wk285 : Cond.methodLink RL 46 yX7_turn ∈ lw_good := gd_of (List.mem_append_right _ (List.mem_append_right _ (List.mem_append_right _ (List.mem_of_getElem? (i := 41) rfl)))) rfl
set_option maxRecDepth 100000 in
theorem wk286 : Cond.instanceMethod yX7_turn ∈ lw_good := gd_of (List.mem_append_right _ (List.mem_append_right _ (List.mem_append_right _ (List.mem_of_getElem? (i := 42) rfl)))) rfl
set_option maxRecDepth 100000 in
theorem wk287 : Cond.selects RX7 yX7_turn yX7_turn ∈ lw_good := gd_of (List.mem_append_right _ (List.mem_append_right _ (List.mem_append_right _ (List.mem_of_getElem? (i := 43) rfl)))) rfl
set_option maxRecDepth 100000 in
theorem wk288 : Cond.code yX7_turn cX7_turn 2 (some .int) ∈ lw_good := gd_of (List.mem_append_right _ (List.mem_append_right _ (List.mem_append_right _ (List.mem_of_getElem? (i := 44) rfl)))) rfl
set_option maxRecDepth 100000 in
theorem wk289 : Cond.methodLink RL 47 yX6_add ∈ lw_good := gd_of (List.mem_append_right _ (List.mem_append_right _ (List.mem_append_left _ (List.mem_of_getElem? (i := 36) rfl)))) rfl
set_option maxRecDepth 100000 in
theorem wk290 : Cond.instanceMethod yX6_add ∈ lw_good := gd_of (List.mem_append_right _ (List.mem_append_right _ (List.mem_append_left _ (List.mem_of_getElem? (i := 37) rfl)))) rfl
set_option maxRecDepth 100000 in
theorem wk291 : Cond.selects RX6 yX6_add yX6_add ∈ lw_good := gd_of (List.mem_append_right _ (List.mem_append_right _ (List.mem_append_left _ (List.mem_of_getElem? (i := 38) rfl)))) rfl
set_option maxRecDepth 100000 in
theorem wk292 : Cond.code yX6_add cX6_add 2 (some .int) ∈ lw_good := gd_of (List.mem_append_right _ (List.mem_append_right _ (List.mem_append_left _ (List.mem_of_getElem? (i := 39) rfl)))) rfl
set_option maxRecDepth 100000 in
theorem wk293 : Cond.methodLink RX6 66 yX2_append ∈ lw_good := gd_of (List.mem_append_right _ (List.mem_append_right _ (List.mem_append_left _ (List.mem_of_getElem? (i := 40) rfl)))) rfl
set_option maxRecDepth 100000 in
theorem wk294 : Cond.methodLink RL 50 yX7_add ∈ lw_good := gd_of (List.mem_append_right _ (List.mem_append_right _ (List.mem_append_right _ (List.mem_of_getElem? (i := 45) rfl)))) rfl
set_option maxRecDepth 100000 in
theorem wk295 : Cond.instanceMethod yX7_add ∈ lw_good := gd_of (List.mem_append_right _ (List.mem_append_right _ (List.mem_append_right _ (List.mem_of_getElem? (i := 46) rfl)))) rfl
set_option maxRecDepth 100000 in
theorem wk296 : Cond.selects RX7 yX7_add yX7_add ∈ lw_good := gd_of (List.mem_append_right _ (List.mem_append_right _ (List.mem_append_right _ (List.mem_of_getElem? (i := 47) rfl)))) rfl
set_option maxRecDepth 100000 in
theorem wk297 : Cond.code yX7_add cX7_add 2 (some .int) ∈ lw_good := gd_of (List.mem_append_right _ (List.mem_append_right _ (List.mem_append_right _ (List.mem_of_getElem? (i := 48) rfl)))) rfl
set_option maxRecDepth 100000 in
theorem wk298 : Cond.methodLink RL 51 yX6_receive ∈ lw_good := gd_of (List.mem_append_right _ (List.mem_append_right _ (List.mem_append_left _ (List.mem_of_getElem? (i := 41) rfl)))) rfl
set_option maxRecDepth 100000 in
theorem wk299 : Cond.instanceMethod yX6_receive ∈ lw_good := gd_of (List.mem_append_right _ (List.mem_append_right _ (List.mem_append_left _ (List.mem_of_getElem? (i := 42) rfl)))) rfl
set_option maxRecDepth 100000 in
theorem wk300 : Cond.selects RX6 yX6_receive yX6_receive ∈ lw_good := gd_of (List.mem_append_right _ (List.mem_append_right _ (List.mem_append_left _ (List.mem_of_getElem? (i := 43) rfl)))) rfl
set_option maxRecDepth 100000 in
theorem wk301 : Cond.code yX6_receive cX6_receive 5 (some .int) ∈ lw_good := gd_of (List.mem_append_right _ (List.mem_append_right _ (List.mem_append_left _ (List.mem_of_getElem? (i := 44) rfl)))) rfl
set_option maxRecDepth 100000 in
theorem wk302 : Cond.methodLink RX6 72 Lib.Math.min.name ∈ lw_good := gd_of (List.mem_append_right _ (List.mem_append_right _ (List.mem_append_left _ (List.mem_of_getElem? (i := 53) rfl)))) rfl
set_option maxRecDepth 100000 in
theorem wk303 : Cond.static Lib.Math.min.name ∈ lw_good := gd_of (List.mem_append_right _ (List.mem_append_right _ (List.mem_append_left _ (List.mem_of_getElem? (i := 54) rfl)))) rfl
set_option maxRecDepth 100000 in
theorem wk305 : Cond.code Lib.Math.min.name Lib.Math.min.code 2 (some .int) ∈ lw_good := gd_of (List.mem_append_right _ (List.mem_append_right _ (List.mem_append_left _ (List.mem_of_getElem? (i := 55) rfl)))) rfl
set_option maxRecDepth 100000 in
theorem wk306 : Cond.methodLink RX6 69 yX3_groupCount ∈ lw_good := gd_of (List.mem_append_right _ (List.mem_append_right _ (List.mem_append_left _ (List.mem_of_getElem? (i := 45) rfl)))) rfl
set_option maxRecDepth 100000 in
theorem wk307 : Cond.instanceMethod yX3_groupCount ∈ lw_good := gd_of (List.mem_append_right _ (List.mem_append_right _ (List.mem_append_left _ (List.mem_of_getElem? (i := 46) rfl)))) rfl
set_option maxRecDepth 100000 in
theorem wk308 : Cond.selects RX3 yX3_groupCount yX3_groupCount ∈ lw_good := gd_of (List.mem_append_right _ (List.mem_append_right _ (List.mem_append_left _ (List.mem_of_getElem? (i := 47) rfl)))) rfl
set_option maxRecDepth 100000 in
theorem wk309 : Cond.code yX3_groupCount cX3_groupCount 1 (some .int) ∈ lw_good := gd_of (List.mem_append_right _ (List.mem_append_right _ (List.mem_append_left _ (List.mem_of_getElem? (i := 48) rfl)))) rfl
set_option maxRecDepth 100000 in
theorem wk310 : Cond.methodLink RX3 39 yX1_count ∈ lw_good := gd_of (List.mem_append_right _ (List.mem_append_right _ (List.mem_append_left _ (List.mem_of_getElem? (i := 49) rfl)))) rfl
set_option maxRecDepth 100000 in
theorem wk311 : Cond.instanceMethod yX1_count ∈ lw_good := gd_of (List.mem_append_right _ (List.mem_append_right _ (List.mem_append_left _ (List.mem_of_getElem? (i := 50) rfl)))) rfl
set_option maxRecDepth 100000 in
theorem wk312 : Cond.selects RX1 yX1_count yX1_count ∈ lw_good := gd_of (List.mem_append_right _ (List.mem_append_right _ (List.mem_append_left _ (List.mem_of_getElem? (i := 51) rfl)))) rfl
set_option maxRecDepth 100000 in
theorem wk313 : Cond.code yX1_count cX1_count 1 (some .int) ∈ lw_good := gd_of (List.mem_append_right _ (List.mem_append_right _ (List.mem_append_left _ (List.mem_of_getElem? (i := 52) rfl)))) rfl
set_option maxRecDepth 100000 in
theorem wk314 : Cond.fieldLink RX1 19 "LineBlocks$Groups" "count" "I" ∈ lw_good := gd_of (List.mem_append_right _ (List.mem_append_left _ (List.mem_of_getElem? (i := 79) rfl))) rfl
set_option maxRecDepth 100000 in
theorem wk315 : Cond.methodLink RX6 78 yX3_take ∈ lw_good := gd_of (List.mem_append_right _ (List.mem_append_right _ (List.mem_append_left _ (List.mem_of_getElem? (i := 56) rfl)))) rfl
set_option maxRecDepth 100000 in
theorem wk316 : Cond.instanceMethod yX3_take ∈ lw_good := gd_of (List.mem_append_right _ (List.mem_append_right _ (List.mem_append_left _ (List.mem_of_getElem? (i := 57) rfl)))) rfl
set_option maxRecDepth 100000 in
theorem wk317 : Cond.selects RX3 yX3_take yX3_take ∈ lw_good := gd_of (List.mem_append_right _ (List.mem_append_right _ (List.mem_append_left _ (List.mem_of_getElem? (i := 58) rfl)))) rfl
set_option maxRecDepth 100000 in
theorem wk318 : Cond.code yX3_take cX3_take 2 none ∈ lw_good := gd_of (List.mem_append_right _ (List.mem_append_right _ (List.mem_append_left _ (List.mem_of_getElem? (i := 59) rfl)))) rfl
set_option maxRecDepth 100000 in
theorem wk319 : Cond.fieldLink RX3 54 "LineBlocks$Receiver" "dropsNext" "Z" ∈ lw_good := gd_of (List.mem_append_right _ (List.mem_append_left _ (List.mem_of_getElem? (i := 93) rfl))) rfl
set_option maxRecDepth 100000 in
theorem wk320 : Cond.fieldLink RX3 36 "LineBlocks$Receiver" "have" "I" ∈ lw_good := gd_of (List.mem_append_right _ (List.mem_append_left _ (List.mem_of_getElem? (i := 91) rfl))) rfl
set_option maxRecDepth 100000 in
theorem wk321 : Cond.fieldLink RX3 57 "LineBlocks$Receiver" "head" "I" ∈ lw_good := gd_of (List.mem_append_right _ (List.mem_append_left _ (List.mem_of_getElem? (i := 89) rfl))) rfl
set_option maxRecDepth 100000 in
theorem wk322 : Cond.fieldLink RX3 60 "LineBlocks$Receiver" "payload" "J" ∈ lw_good := gd_of (List.mem_append_right _ (List.mem_append_left _ (List.mem_of_getElem? (i := 90) rfl))) rfl
set_option maxRecDepth 100000 in
theorem wk323 : Cond.methodLink RX3 64 yX4_unscramble ∈ lw_good := gd_of (List.mem_append_right _ (List.mem_append_right _ (List.mem_append_left _ (List.mem_of_getElem? (i := 60) rfl)))) rfl
set_option maxRecDepth 100000 in
theorem wk324 : Cond.instanceMethod yX4_unscramble ∈ lw_good := gd_of (List.mem_append_right _ (List.mem_append_right _ (List.mem_append_left _ (List.mem_of_getElem? (i := 61) rfl)))) rfl
set_option maxRecDepth 100000 in
theorem wk325 : Cond.selects RX4 yX4_unscramble yX4_unscramble ∈ lw_good := gd_of (List.mem_append_right _ (List.mem_append_right _ (List.mem_append_left _ (List.mem_of_getElem? (i := 62) rfl)))) rfl
set_option maxRecDepth 100000 in
theorem wk326 : Cond.code yX4_unscramble cX4_unscramble 3 (some .int) ∈ lw_good := gd_of (List.mem_append_right _ (List.mem_append_right _ (List.mem_append_left _ (List.mem_of_getElem? (i := 63) rfl)))) rfl
set_option maxRecDepth 100000 in
theorem wk327 : Cond.methodLink RX3 68 yX3_endBlock ∈ lw_good := gd_of (List.mem_append_right _ (List.mem_append_right _ (List.mem_append_left _ (List.mem_of_getElem? (i := 64) rfl)))) rfl
set_option maxRecDepth 100000 in
theorem wk328 : Cond.instanceMethod yX3_endBlock ∈ lw_good := gd_of (List.mem_append_right _ (List.mem_append_right _ (List.mem_append_left _ (List.mem_of_getElem? (i := 66) rfl)))) rfl
set_option maxRecDepth 100000 in
theorem wk329 : Cond.selects RX3 yX3_endBlock yX3_endBlock ∈ lw_good := gd_of (List.mem_append_left _ (List.mem_of_getElem? (i := 5) rfl)) rfl
set_option maxRecDepth 100000 in
theorem wk330 : Cond.code yX3_endBlock cX3_endBlock 2 none ∈ lw_good := gd_of (List.mem_append_right _ (List.mem_append_right _ (List.mem_append_left _ (List.mem_of_getElem? (i := 67) rfl)))) rfl
set_option maxRecDepth 100000 in
theorem wk331 : Cond.fieldLink RX3 25 "LineBlocks$Receiver" "locked" "Z" ∈ lw_good := gd_of (List.mem_append_right _ (List.mem_append_left _ (List.mem_of_getElem? (i := 92) rfl))) rfl
set_option maxRecDepth 100000 in
theorem wk332 : Cond.methodLink RX3 74 yX0_typeOfBlock ∈ lw_good := gd_of (List.mem_append_right _ (List.mem_append_right _ (List.mem_append_left _ (List.mem_of_getElem? (i := 68) rfl)))) rfl
set_option maxRecDepth 100000 in
theorem wk333 : Cond.static yX0_typeOfBlock ∈ lw_good := gd_of (List.mem_append_right _ (List.mem_append_right _ (List.mem_append_left _ (List.mem_of_getElem? (i := 69) rfl)))) rfl
set_option maxRecDepth 100000 in
theorem wk334 : Cond.code yX0_typeOfBlock cX0_typeOfBlock 3 (some .int) ∈ lw_good := gd_of (List.mem_append_right _ (List.mem_append_right _ (List.mem_append_left _ (List.mem_of_getElem? (i := 70) rfl)))) rfl
set_option maxRecDepth 100000 in
theorem wk335 : Cond.methodLink RX3 80 yX1_keep ∈ lw_good := gd_of (List.mem_append_right _ (List.mem_append_right _ (List.mem_append_left _ (List.mem_of_getElem? (i := 71) rfl)))) rfl
set_option maxRecDepth 100000 in
theorem wk336 : Cond.instanceMethod yX1_keep ∈ lw_good := gd_of (List.mem_append_right _ (List.mem_append_right _ (List.mem_append_left _ (List.mem_of_getElem? (i := 72) rfl)))) rfl
set_option maxRecDepth 100000 in
theorem wk337 : Cond.selects RX1 yX1_keep yX1_keep ∈ lw_good := gd_of (List.mem_append_right _ (List.mem_append_right _ (List.mem_append_left _ (List.mem_of_getElem? (i := 73) rfl)))) rfl
set_option maxRecDepth 100000 in
theorem wk338 : Cond.code yX1_keep cX1_keep 5 none ∈ lw_good := gd_of (List.mem_append_right _ (List.mem_append_right _ (List.mem_append_left _ (List.mem_of_getElem? (i := 74) rfl)))) rfl
set_option maxRecDepth 100000 in
theorem wk339 : Cond.methodLink RX1 23 yX1_slotOf ∈ lw_good := gd_of (List.mem_append_right _ (List.mem_append_right _ (List.mem_append_left _ (List.mem_of_getElem? (i := 75) rfl)))) rfl
set_option maxRecDepth 100000 in
theorem wk340 : Cond.static yX1_slotOf ∈ lw_good := gd_of (List.mem_append_right _ (List.mem_append_right _ (List.mem_append_left _ (List.mem_of_getElem? (i := 76) rfl)))) rfl
set_option maxRecDepth 100000 in
theorem wk341 : Cond.code yX1_slotOf cX1_slotOf 1 (some .int) ∈ lw_good := gd_of (List.mem_append_right _ (List.mem_append_right _ (List.mem_append_left _ (List.mem_of_getElem? (i := 77) rfl)))) rfl
set_option maxRecDepth 100000 in
theorem wk342 : Cond.methodLink RX1 37 yJ9_floorMod_7cf53 ∈ lw_good := gd_of (List.mem_append_right _ (List.mem_append_right _ (List.mem_append_left _ (List.mem_of_getElem? (i := 78) rfl)))) rfl
set_option maxRecDepth 100000 in
theorem wk343 : Cond.methodLink RX3 84 yX3_countInRow ∈ lw_good := gd_of (List.mem_append_right _ (List.mem_append_right _ (List.mem_append_left _ (List.mem_of_getElem? (i := 79) rfl)))) rfl
set_option maxRecDepth 100000 in
theorem wk344 : Cond.instanceMethod yX3_countInRow ∈ lw_good := gd_of (List.mem_append_right _ (List.mem_append_right _ (List.mem_append_left _ (List.mem_of_getElem? (i := 81) rfl)))) rfl
set_option maxRecDepth 100000 in
theorem wk345 : Cond.selects RX3 yX3_countInRow yX3_countInRow ∈ lw_good := gd_of (List.mem_append_left _ (List.mem_of_getElem? (i := 6) rfl)) rfl
set_option maxRecDepth 100000 in
theorem wk346 : Cond.code yX3_countInRow cX3_countInRow 2 none ∈ lw_good := gd_of (List.mem_append_right _ (List.mem_append_right _ (List.mem_append_left _ (List.mem_of_getElem? (i := 82) rfl)))) rfl
set_option maxRecDepth 100000 in
theorem wk347 : Cond.fieldLink RX3 94 "LineBlocks$Receiver" "blocksOfRow" "I" ∈ lw_good := gd_of (List.mem_append_right _ (List.mem_append_left _ (List.mem_of_getElem? (i := 96) rfl))) rfl
set_option maxRecDepth 100000 in
theorem wk348 : Cond.fieldLink RX3 43 "LineBlocks$Receiver" "wrongHeads" "I" ∈ lw_good := gd_of (List.mem_append_right _ (List.mem_append_left _ (List.mem_of_getElem? (i := 97) rfl))) rfl
set_option maxRecDepth 100000 in
theorem wk349 : Cond.methodLink RX3 91 yX3_slip ∈ lw_good := gd_of (List.mem_append_right _ (List.mem_append_right _ (List.mem_append_left _ (List.mem_of_getElem? (i := 83) rfl)))) rfl
set_option maxRecDepth 100000 in
theorem wk350 : Cond.instanceMethod yX3_slip ∈ lw_good := gd_of (List.mem_append_right _ (List.mem_append_right _ (List.mem_append_left _ (List.mem_of_getElem? (i := 85) rfl)))) rfl
set_option maxRecDepth 100000 in
theorem wk351 : Cond.selects RX3 yX3_slip yX3_slip ∈ lw_good := gd_of (List.mem_append_left _ (List.mem_of_getElem? (i := 7) rfl)) rfl
set_option maxRecDepth 100000 in
theorem wk352 : Cond.code yX3_slip cX3_slip 1 none ∈ lw_good := gd_of (List.mem_append_right _ (List.mem_append_right _ (List.mem_append_left _ (List.mem_of_getElem? (i := 86) rfl)))) rfl
set_option maxRecDepth 100000 in
theorem wk353 : Cond.fieldLink RX3 29 "LineBlocks$Receiver" "hits" "I" ∈ lw_good := gd_of (List.mem_append_right _ (List.mem_append_left _ (List.mem_of_getElem? (i := 94) rfl))) rfl
set_option maxRecDepth 100000 in
theorem wk354 : Cond.fieldLink RX3 33 "LineBlocks$Receiver" "slips" "I" ∈ lw_good := gd_of (List.mem_append_right _ (List.mem_append_left _ (List.mem_of_getElem? (i := 95) rfl))) rfl
set_option maxRecDepth 100000 in
theorem wk355 : Cond.methodLink RX3 97 yX3_beginRow ∈ lw_good := gd_of (List.mem_append_right _ (List.mem_append_right _ (List.mem_append_left _ (List.mem_of_getElem? (i := 87) rfl)))) rfl
set_option maxRecDepth 100000 in
theorem wk356 : Cond.instanceMethod yX3_beginRow ∈ lw_good := gd_of (List.mem_append_right _ (List.mem_append_right _ (List.mem_append_left _ (List.mem_of_getElem? (i := 89) rfl)))) rfl
set_option maxRecDepth 100000 in
theorem wk357 : Cond.selects RX3 yX3_beginRow yX3_beginRow ∈ lw_good := gd_of (List.mem_append_left _ (List.mem_of_getElem? (i := 8) rfl)) rfl
set_option maxRecDepth 100000 in
theorem wk358 : Cond.code yX3_beginRow cX3_beginRow 1 none ∈ lw_good := gd_of (List.mem_append_right _ (List.mem_append_right _ (List.mem_append_left _ (List.mem_of_getElem? (i := 90) rfl)))) rfl
set_option maxRecDepth 100000 in
theorem wk359 : Cond.methodLink RX3 88 yX3_countHit ∈ lw_good := gd_of (List.mem_append_right _ (List.mem_append_right _ (List.mem_append_left _ (List.mem_of_getElem? (i := 91) rfl)))) rfl
set_option maxRecDepth 100000 in
theorem wk360 : Cond.instanceMethod yX3_countHit ∈ lw_good := gd_of (List.mem_append_right _ (List.mem_append_right _ (List.mem_append_left _ (List.mem_of_getElem? (i := 93) rfl)))) rfl
set_option maxRecDepth 100000 in
theorem wk361 : Cond.selects RX3 yX3_countHit yX3_countHit ∈ lw_good := gd_of (List.mem_append_left _ (List.mem_of_getElem? (i := 9) rfl)) rfl
set_option maxRecDepth 100000 in
theorem wk362 : Cond.code yX3_countHit cX3_countHit 2 none ∈ lw_good := gd_of (List.mem_append_right _ (List.mem_append_right _ (List.mem_append_left _ (List.mem_of_getElem? (i := 94) rfl)))) rfl
set_option maxRecDepth 100000 in
theorem wk363 : Cond.methodLink RX3 71 yX3_beginBlock ∈ lw_good := gd_of (List.mem_append_right _ (List.mem_append_right _ (List.mem_append_left _ (List.mem_of_getElem? (i := 95) rfl)))) rfl
set_option maxRecDepth 100000 in
theorem wk364 : Cond.instanceMethod yX3_beginBlock ∈ lw_good := gd_of (List.mem_append_right _ (List.mem_append_right _ (List.mem_append_left _ (List.mem_of_getElem? (i := 97) rfl)))) rfl
set_option maxRecDepth 100000 in
theorem wk365 : Cond.selects RX3 yX3_beginBlock yX3_beginBlock ∈ lw_good := gd_of (List.mem_append_left _ (List.mem_of_getElem? (i := 10) rfl)) rfl
set_option maxRecDepth 100000 in
theorem wk366 : Cond.code yX3_beginBlock cX3_beginBlock 1 none ∈ lw_good := gd_of (List.mem_append_right _ (List.mem_append_right _ (List.mem_append_left _ (List.mem_of_getElem? (i := 98) rfl)))) rfl
set_option maxRecDepth 100000 in
theorem wk367 : Cond.methodLink RX6 81 yX2_dropFirst ∈ lw_good := gd_of (List.mem_append_right _ (List.mem_append_right _ (List.mem_append_left _ (List.mem_of_getElem? (i := 99) rfl)))) rfl
set_option maxRecDepth 100000 in
theorem wk368 : Cond.instanceMethod yX2_dropFirst ∈ lw_good := gd_of (List.mem_append_right _ (List.mem_append_right _ (List.mem_append_left _ (List.mem_of_getElem? (i := 100) rfl)))) rfl
set_option maxRecDepth 100000 in
theorem wk369 : Cond.selects RX2 yX2_dropFirst yX2_dropFirst ∈ lw_good := gd_of (List.mem_append_right _ (List.mem_append_right _ (List.mem_append_left _ (List.mem_of_getElem? (i := 101) rfl)))) rfl
set_option maxRecDepth 100000 in
theorem wk370 : Cond.code yX2_dropFirst cX2_dropFirst 2 none ∈ lw_good := gd_of (List.mem_append_right _ (List.mem_append_right _ (List.mem_append_left _ (List.mem_of_getElem? (i := 102) rfl)))) rfl
set_option maxRecDepth 100000 in
theorem wk371 : Cond.methodLink RL 54 yX7_receive ∈ lw_good := gd_of (List.mem_append_right _ (List.mem_append_right _ (List.mem_append_right _ (List.mem_of_getElem? (i := 49) rfl)))) rfl
set_option maxRecDepth 100000 in
theorem wk372 : Cond.instanceMethod yX7_receive ∈ lw_good := gd_of (List.mem_append_right _ (List.mem_append_right _ (List.mem_append_right _ (List.mem_of_getElem? (i := 50) rfl)))) rfl
set_option maxRecDepth 100000 in
theorem wk373 : Cond.selects RX7 yX7_receive yX7_receive ∈ lw_good := gd_of (List.mem_append_right _ (List.mem_append_right _ (List.mem_append_right _ (List.mem_of_getElem? (i := 51) rfl)))) rfl
set_option maxRecDepth 100000 in
theorem wk374 : Cond.code yX7_receive cX7_receive 5 (some .int) ∈ lw_good := gd_of (List.mem_append_right _ (List.mem_append_right _ (List.mem_append_right _ (List.mem_of_getElem? (i := 52) rfl)))) rfl
set_option maxRecDepth 100000 in
theorem wk375 : Cond.fieldLink RX7 91 "LineBlocksModel" "toldCount" "I" ∈ lw_good := gd_of (List.mem_append_right _ (List.mem_append_right _ (List.mem_append_left _ (List.mem_of_getElem? (i := 179) rfl)))) rfl
set_option maxRecDepth 100000 in
theorem wk376 : Cond.fieldLink RX7 97 "LineBlocksModel" "slips" "Z" ∈ lw_good := gd_of (List.mem_append_right _ (List.mem_append_right _ (List.mem_append_left _ (List.mem_of_getElem? (i := 173) rfl)))) rfl
set_option maxRecDepth 100000 in
theorem wk377 : Cond.fieldLink RX7 104 "LineBlocksModel" "taken" "I" ∈ lw_good := gd_of (List.mem_append_right _ (List.mem_append_right _ (List.mem_append_left _ (List.mem_of_getElem? (i := 172) rfl)))) rfl
set_option maxRecDepth 100000 in
theorem wk378 : Cond.methodLink RX7 125 yX7_whole ∈ lw_good := gd_of (List.mem_append_right _ (List.mem_append_right _ (List.mem_append_right _ (List.mem_of_getElem? (i := 53) rfl)))) rfl
set_option maxRecDepth 100000 in
theorem wk379 : Cond.instanceMethod yX7_whole ∈ lw_good := gd_of (List.mem_append_right _ (List.mem_append_right _ (List.mem_append_right _ (List.mem_of_getElem? (i := 55) rfl)))) rfl
set_option maxRecDepth 100000 in
theorem wk380 : Cond.selects RX7 yX7_whole yX7_whole ∈ lw_good := gd_of (List.mem_append_left _ (List.mem_of_getElem? (i := 19) rfl)) rfl
set_option maxRecDepth 100000 in
theorem wk381 : Cond.code yX7_whole cX7_whole 3 none ∈ lw_good := gd_of (List.mem_append_right _ (List.mem_append_right _ (List.mem_append_right _ (List.mem_of_getElem? (i := 56) rfl)))) rfl
set_option maxRecDepth 100000 in
theorem wk382 : Cond.fieldLink RX7 107 "LineBlocksModel" "locked" "Z" ∈ lw_good := gd_of (List.mem_append_right _ (List.mem_append_right _ (List.mem_append_left _ (List.mem_of_getElem? (i := 174) rfl)))) rfl
set_option maxRecDepth 100000 in
theorem wk383 : Cond.fieldLink RX7 110 "LineBlocksModel" "hits" "I" ∈ lw_good := gd_of (List.mem_append_right _ (List.mem_append_right _ (List.mem_append_left _ (List.mem_of_getElem? (i := 175) rfl)))) rfl
set_option maxRecDepth 100000 in
theorem wk384 : Cond.fieldLink RX7 116 "LineBlocksModel" "row" "I" ∈ lw_good := gd_of (List.mem_append_right _ (List.mem_append_right _ (List.mem_append_left _ (List.mem_of_getElem? (i := 177) rfl)))) rfl
set_option maxRecDepth 100000 in
theorem wk385 : Cond.fieldLink RX7 119 "LineBlocksModel" "wrong" "I" ∈ lw_good := gd_of (List.mem_append_right _ (List.mem_append_right _ (List.mem_append_left _ (List.mem_of_getElem? (i := 178) rfl)))) rfl
set_option maxRecDepth 100000 in
theorem wk386 : Cond.methodLink RX7 113 yX7_slip ∈ lw_good := gd_of (List.mem_append_right _ (List.mem_append_right _ (List.mem_append_right _ (List.mem_of_getElem? (i := 57) rfl)))) rfl
set_option maxRecDepth 100000 in
theorem wk387 : Cond.instanceMethod yX7_slip ∈ lw_good := gd_of (List.mem_append_right _ (List.mem_append_right _ (List.mem_append_right _ (List.mem_of_getElem? (i := 59) rfl)))) rfl
set_option maxRecDepth 100000 in
theorem wk388 : Cond.selects RX7 yX7_slip yX7_slip ∈ lw_good := gd_of (List.mem_append_left _ (List.mem_of_getElem? (i := 20) rfl)) rfl
set_option maxRecDepth 100000 in
theorem wk389 : Cond.code yX7_slip cX7_slip 1 none ∈ lw_good := gd_of (List.mem_append_right _ (List.mem_append_right _ (List.mem_append_right _ (List.mem_of_getElem? (i := 60) rfl)))) rfl
set_option maxRecDepth 100000 in
theorem wk390 : Cond.fieldLink RX7 101 "LineBlocksModel" "slipped" "I" ∈ lw_good := gd_of (List.mem_append_right _ (List.mem_append_right _ (List.mem_append_left _ (List.mem_of_getElem? (i := 176) rfl)))) rfl
set_option maxRecDepth 100000 in
theorem wk391 : Cond.methodLink RX7 122 yX7_tell ∈ lw_good := gd_of (List.mem_append_right _ (List.mem_append_right _ (List.mem_append_right _ (List.mem_of_getElem? (i := 61) rfl)))) rfl
set_option maxRecDepth 100000 in
theorem wk392 : Cond.instanceMethod yX7_tell ∈ lw_good := gd_of (List.mem_append_right _ (List.mem_append_right _ (List.mem_append_right _ (List.mem_of_getElem? (i := 63) rfl)))) rfl
set_option maxRecDepth 100000 in
theorem wk393 : Cond.selects RX7 yX7_tell yX7_tell ∈ lw_good := gd_of (List.mem_append_left _ (List.mem_of_getElem? (i := 21) rfl)) rfl
set_option maxRecDepth 100000 in
theorem wk394 : Cond.code yX7_tell cX7_tell 2 none ∈ lw_good := gd_of (List.mem_append_right _ (List.mem_append_right _ (List.mem_append_right _ (List.mem_of_getElem? (i := 64) rfl)))) rfl
set_option maxRecDepth 100000 in
theorem wk395 : Cond.methodLink RX7 94 yX7_character ∈ lw_good := gd_of (List.mem_append_right _ (List.mem_append_right _ (List.mem_append_right _ (List.mem_of_getElem? (i := 65) rfl)))) rfl
set_option maxRecDepth 100000 in
theorem wk396 : Cond.instanceMethod yX7_character ∈ lw_good := gd_of (List.mem_append_right _ (List.mem_append_right _ (List.mem_append_right _ (List.mem_of_getElem? (i := 67) rfl)))) rfl
set_option maxRecDepth 100000 in
theorem wk397 : Cond.selects RX7 yX7_character yX7_character ∈ lw_good := gd_of (List.mem_append_left _ (List.mem_of_getElem? (i := 22) rfl)) rfl
set_option maxRecDepth 100000 in
theorem wk398 : Cond.code yX7_character cX7_character 4 (some .int) ∈ lw_good := gd_of (List.mem_append_right _ (List.mem_append_right _ (List.mem_append_right _ (List.mem_of_getElem? (i := 68) rfl)))) rfl
set_option maxRecDepth 100000 in
theorem wk399 : Cond.methodLink RX7 82 yX7_get ∈ lw_good := gd_of (List.mem_append_right _ (List.mem_append_right _ (List.mem_append_right _ (List.mem_of_getElem? (i := 69) rfl)))) rfl
set_option maxRecDepth 100000 in
theorem wk400 : Cond.instanceMethod yX7_get ∈ lw_good := gd_of (List.mem_append_right _ (List.mem_append_right _ (List.mem_append_right _ (List.mem_of_getElem? (i := 71) rfl)))) rfl
set_option maxRecDepth 100000 in
theorem wk401 : Cond.selects RX7 yX7_get yX7_get ∈ lw_good := gd_of (List.mem_append_left _ (List.mem_of_getElem? (i := 23) rfl)) rfl
set_option maxRecDepth 100000 in
theorem wk402 : Cond.code yX7_get cX7_get 5 (some .int) ∈ lw_good := gd_of (List.mem_append_right _ (List.mem_append_right _ (List.mem_append_right _ (List.mem_of_getElem? (i := 72) rfl)))) rfl
set_option maxRecDepth 100000 in
theorem wk403 : Cond.methodLink RX7 85 yX7_codeAt ∈ lw_good := gd_of (List.mem_append_right _ (List.mem_append_right _ (List.mem_append_right _ (List.mem_of_getElem? (i := 73) rfl)))) rfl
set_option maxRecDepth 100000 in
theorem wk404 : Cond.instanceMethod yX7_codeAt ∈ lw_good := gd_of (List.mem_append_right _ (List.mem_append_right _ (List.mem_append_right _ (List.mem_of_getElem? (i := 75) rfl)))) rfl
set_option maxRecDepth 100000 in
theorem wk405 : Cond.selects RX7 yX7_codeAt yX7_codeAt ∈ lw_good := gd_of (List.mem_append_left _ (List.mem_of_getElem? (i := 24) rfl)) rfl
set_option maxRecDepth 100000 in
theorem wk406 : Cond.code yX7_codeAt cX7_codeAt 2 (some .int) ∈ lw_good := gd_of (List.mem_append_right _ (List.mem_append_right _ (List.mem_append_right _ (List.mem_of_getElem? (i := 76) rfl)))) rfl
set_option maxRecDepth 100000 in
theorem wk407 : Cond.methodLink RX7 88 yX7_endOf ∈ lw_good := gd_of (List.mem_append_right _ (List.mem_append_right _ (List.mem_append_right _ (List.mem_of_getElem? (i := 77) rfl)))) rfl
set_option maxRecDepth 100000 in
theorem wk408 : Cond.instanceMethod yX7_endOf ∈ lw_good := gd_of (List.mem_append_right _ (List.mem_append_right _ (List.mem_append_right _ (List.mem_of_getElem? (i := 79) rfl)))) rfl
set_option maxRecDepth 100000 in
theorem wk409 : Cond.selects RX7 yX7_endOf yX7_endOf ∈ lw_good := gd_of (List.mem_append_left _ (List.mem_of_getElem? (i := 25) rfl)) rfl
set_option maxRecDepth 100000 in
theorem wk410 : Cond.code yX7_endOf cX7_endOf 4 (some .int) ∈ lw_good := gd_of (List.mem_append_right _ (List.mem_append_right _ (List.mem_append_right _ (List.mem_of_getElem? (i := 80) rfl)))) rfl
set_option maxRecDepth 100000 in
theorem wk411 : Cond.methodLink RL 55 yX6_told ∈ lw_good := gd_of (List.mem_append_right _ (List.mem_append_right _ (List.mem_append_left _ (List.mem_of_getElem? (i := 103) rfl)))) rfl
set_option maxRecDepth 100000 in
theorem wk412 : Cond.instanceMethod yX6_told ∈ lw_good := gd_of (List.mem_append_right _ (List.mem_append_right _ (List.mem_append_left _ (List.mem_of_getElem? (i := 104) rfl)))) rfl
set_option maxRecDepth 100000 in
theorem wk413 : Cond.selects RX6 yX6_told yX6_told ∈ lw_good := gd_of (List.mem_append_right _ (List.mem_append_right _ (List.mem_append_left _ (List.mem_of_getElem? (i := 105) rfl)))) rfl
set_option maxRecDepth 100000 in
theorem wk414 : Cond.code yX6_told cX6_told 3 (some .int) ∈ lw_good := gd_of (List.mem_append_right _ (List.mem_append_right _ (List.mem_append_left _ (List.mem_of_getElem? (i := 106) rfl)))) rfl
set_option maxRecDepth 100000 in
theorem wk415 : Cond.methodLink RX6 84 yX3_character ∈ lw_good := gd_of (List.mem_append_right _ (List.mem_append_right _ (List.mem_append_left _ (List.mem_of_getElem? (i := 107) rfl)))) rfl
set_option maxRecDepth 100000 in
theorem wk416 : Cond.instanceMethod yX3_character ∈ lw_good := gd_of (List.mem_append_right _ (List.mem_append_right _ (List.mem_append_left _ (List.mem_of_getElem? (i := 108) rfl)))) rfl
set_option maxRecDepth 100000 in
theorem wk417 : Cond.selects RX3 yX3_character yX3_character ∈ lw_good := gd_of (List.mem_append_right _ (List.mem_append_right _ (List.mem_append_left _ (List.mem_of_getElem? (i := 109) rfl)))) rfl
set_option maxRecDepth 100000 in
theorem wk418 : Cond.code yX3_character cX3_character 3 (some .int) ∈ lw_good := gd_of (List.mem_append_right _ (List.mem_append_right _ (List.mem_append_left _ (List.mem_of_getElem? (i := 110) rfl)))) rfl
set_option maxRecDepth 100000 in
theorem wk419 : Cond.methodLink RX3 46 yX1_character ∈ lw_good := gd_of (List.mem_append_right _ (List.mem_append_right _ (List.mem_append_left _ (List.mem_of_getElem? (i := 111) rfl)))) rfl
set_option maxRecDepth 100000 in
theorem wk420 : Cond.instanceMethod yX1_character ∈ lw_good := gd_of (List.mem_append_right _ (List.mem_append_right _ (List.mem_append_left _ (List.mem_of_getElem? (i := 112) rfl)))) rfl
set_option maxRecDepth 100000 in
theorem wk421 : Cond.selects RX1 yX1_character yX1_character ∈ lw_good := gd_of (List.mem_append_right _ (List.mem_append_right _ (List.mem_append_left _ (List.mem_of_getElem? (i := 113) rfl)))) rfl
set_option maxRecDepth 100000 in
theorem wk422 : Cond.code yX1_character cX1_character 4 (some .int) ∈ lw_good := gd_of (List.mem_append_right _ (List.mem_append_right _ (List.mem_append_left _ (List.mem_of_getElem? (i := 114) rfl)))) rfl
set_option maxRecDepth 100000 in
theorem wk423 : Cond.methodLink RX1 27 yX1_isKept ∈ lw_good := gd_of (List.mem_append_right _ (List.mem_append_right _ (List.mem_append_left _ (List.mem_of_getElem? (i := 115) rfl)))) rfl
set_option maxRecDepth 100000 in
theorem wk424 : Cond.instanceMethod yX1_isKept ∈ lw_good := gd_of (List.mem_append_right _ (List.mem_append_right _ (List.mem_append_left _ (List.mem_of_getElem? (i := 117) rfl)))) rfl
set_option maxRecDepth 100000 in
theorem wk425 : Cond.selects RX1 yX1_isKept yX1_isKept ∈ lw_good := gd_of (List.mem_append_left _ (List.mem_of_getElem? (i := 11) rfl)) rfl
set_option maxRecDepth 100000 in
theorem wk426 : Cond.code yX1_isKept cX1_isKept 2 (some .boolean) ∈ lw_good := gd_of (List.mem_append_right _ (List.mem_append_right _ (List.mem_append_left _ (List.mem_of_getElem? (i := 118) rfl)))) rfl
set_option maxRecDepth 100000 in
theorem wk427 : Cond.methodLink RX1 31 yX0_characterOf ∈ lw_good := gd_of (List.mem_append_right _ (List.mem_append_right _ (List.mem_append_left _ (List.mem_of_getElem? (i := 119) rfl)))) rfl
set_option maxRecDepth 100000 in
theorem wk428 : Cond.static yX0_characterOf ∈ lw_good := gd_of (List.mem_append_right _ (List.mem_append_right _ (List.mem_append_left _ (List.mem_of_getElem? (i := 120) rfl)))) rfl
set_option maxRecDepth 100000 in
theorem wk429 : Cond.code yX0_characterOf cX0_characterOf 5 (some .int) ∈ lw_good := gd_of (List.mem_append_right _ (List.mem_append_right _ (List.mem_append_left _ (List.mem_of_getElem? (i := 121) rfl)))) rfl
set_option maxRecDepth 100000 in
theorem wk430 : Cond.methodLink RX0 35 yX0_characterByEnd ∈ lw_good := gd_of (List.mem_append_right _ (List.mem_append_right _ (List.mem_append_left _ (List.mem_of_getElem? (i := 122) rfl)))) rfl
set_option maxRecDepth 100000 in
theorem wk431 : Cond.static yX0_characterByEnd ∈ lw_good := gd_of (List.mem_append_right _ (List.mem_append_right _ (List.mem_append_left _ (List.mem_of_getElem? (i := 123) rfl)))) rfl
set_option maxRecDepth 100000 in
theorem wk432 : Cond.code yX0_characterByEnd cX0_characterByEnd 5 (some .int) ∈ lw_good := gd_of (List.mem_append_right _ (List.mem_append_right _ (List.mem_append_left _ (List.mem_of_getElem? (i := 124) rfl)))) rfl
set_option maxRecDepth 100000 in
theorem wk433 : Cond.methodLink RX0 39 yX0_dataAt ∈ lw_good := gd_of (List.mem_append_right _ (List.mem_append_right _ (List.mem_append_left _ (List.mem_of_getElem? (i := 125) rfl)))) rfl
set_option maxRecDepth 100000 in
theorem wk434 : Cond.static yX0_dataAt ∈ lw_good := gd_of (List.mem_append_right _ (List.mem_append_right _ (List.mem_append_left _ (List.mem_of_getElem? (i := 126) rfl)))) rfl
set_option maxRecDepth 100000 in
theorem wk435 : Cond.code yX0_dataAt cX0_dataAt 4 (some .int) ∈ lw_good := gd_of (List.mem_append_right _ (List.mem_append_right _ (List.mem_append_left _ (List.mem_of_getElem? (i := 127) rfl)))) rfl
set_option maxRecDepth 100000 in
theorem wk436 : Cond.methodLink RX0 43 yX0_codedAt ∈ lw_good := gd_of (List.mem_append_right _ (List.mem_append_right _ (List.mem_append_left _ (List.mem_of_getElem? (i := 128) rfl)))) rfl
set_option maxRecDepth 100000 in
theorem wk437 : Cond.static yX0_codedAt ∈ lw_good := gd_of (List.mem_append_right _ (List.mem_append_right _ (List.mem_append_left _ (List.mem_of_getElem? (i := 129) rfl)))) rfl
set_option maxRecDepth 100000 in
theorem wk438 : Cond.code yX0_codedAt cX0_codedAt 4 (some .int) ∈ lw_good := gd_of (List.mem_append_right _ (List.mem_append_right _ (List.mem_append_left _ (List.mem_of_getElem? (i := 130) rfl)))) rfl
set_option maxRecDepth 100000 in
theorem wk439 : Cond.methodLink RX0 47 yX0_characterByMiddleStart ∈ lw_good := gd_of (List.mem_append_right _ (List.mem_append_right _ (List.mem_append_left _ (List.mem_of_getElem? (i := 131) rfl)))) rfl
set_option maxRecDepth 100000 in
theorem wk440 : Cond.static yX0_characterByMiddleStart ∈ lw_good := gd_of (List.mem_append_right _ (List.mem_append_right _ (List.mem_append_left _ (List.mem_of_getElem? (i := 132) rfl)))) rfl
set_option maxRecDepth 100000 in
theorem wk441 : Cond.code yX0_characterByMiddleStart cX0_characterByMiddleStart 3 (some .int) ∈ lw_good := gd_of (List.mem_append_right _ (List.mem_append_right _ (List.mem_append_left _ (List.mem_of_getElem? (i := 133) rfl)))) rfl
set_option maxRecDepth 100000 in
theorem wk442 : Cond.methodLink RL 58 yX7_told ∈ lw_good := gd_of (List.mem_append_right _ (List.mem_append_right _ (List.mem_append_right _ (List.mem_of_getElem? (i := 81) rfl)))) rfl
set_option maxRecDepth 100000 in
theorem wk443 : Cond.instanceMethod yX7_told ∈ lw_good := gd_of (List.mem_append_right _ (List.mem_append_right _ (List.mem_append_right _ (List.mem_of_getElem? (i := 82) rfl)))) rfl
set_option maxRecDepth 100000 in
theorem wk444 : Cond.selects RX7 yX7_told yX7_told ∈ lw_good := gd_of (List.mem_append_right _ (List.mem_append_right _ (List.mem_append_right _ (List.mem_of_getElem? (i := 83) rfl)))) rfl
set_option maxRecDepth 100000 in
theorem wk445 : Cond.code yX7_told cX7_told 3 (some .int) ∈ lw_good := gd_of (List.mem_append_right _ (List.mem_append_right _ (List.mem_append_right _ (List.mem_of_getElem? (i := 84) rfl)))) rfl
set_option maxRecDepth 100000 in
theorem wk446 : Cond.methodLink RL 59 yX6_receiver ∈ lw_good := gd_of (List.mem_append_right _ (List.mem_append_right _ (List.mem_append_left _ (List.mem_of_getElem? (i := 134) rfl)))) rfl
set_option maxRecDepth 100000 in
theorem wk447 : Cond.instanceMethod yX6_receiver ∈ lw_good := gd_of (List.mem_append_right _ (List.mem_append_right _ (List.mem_append_left _ (List.mem_of_getElem? (i := 135) rfl)))) rfl
set_option maxRecDepth 100000 in
theorem wk448 : Cond.selects RX6 yX6_receiver yX6_receiver ∈ lw_good := gd_of (List.mem_append_right _ (List.mem_append_right _ (List.mem_append_left _ (List.mem_of_getElem? (i := 136) rfl)))) rfl
set_option maxRecDepth 100000 in
theorem wk449 : Cond.code yX6_receiver cX6_receiver 2 (some .int) ∈ lw_good := gd_of (List.mem_append_right _ (List.mem_append_right _ (List.mem_append_left _ (List.mem_of_getElem? (i := 137) rfl)))) rfl
set_option maxRecDepth 100000 in
theorem wk450 : Cond.methodLink RX6 87 yX3_isLocked ∈ lw_good := gd_of (List.mem_append_right _ (List.mem_append_right _ (List.mem_append_left _ (List.mem_of_getElem? (i := 138) rfl)))) rfl
set_option maxRecDepth 100000 in
theorem wk451 : Cond.instanceMethod yX3_isLocked ∈ lw_good := gd_of (List.mem_append_right _ (List.mem_append_right _ (List.mem_append_left _ (List.mem_of_getElem? (i := 139) rfl)))) rfl
set_option maxRecDepth 100000 in
theorem wk452 : Cond.selects RX3 yX3_isLocked yX3_isLocked ∈ lw_good := gd_of (List.mem_append_right _ (List.mem_append_right _ (List.mem_append_left _ (List.mem_of_getElem? (i := 140) rfl)))) rfl
set_option maxRecDepth 100000 in
theorem wk453 : Cond.code yX3_isLocked cX3_isLocked 1 (some .boolean) ∈ lw_good := gd_of (List.mem_append_right _ (List.mem_append_right _ (List.mem_append_left _ (List.mem_of_getElem? (i := 141) rfl)))) rfl
set_option maxRecDepth 100000 in
theorem wk454 : Cond.methodLink RX6 91 yX3_hitCount ∈ lw_good := gd_of (List.mem_append_right _ (List.mem_append_right _ (List.mem_append_left _ (List.mem_of_getElem? (i := 142) rfl)))) rfl
set_option maxRecDepth 100000 in
theorem wk455 : Cond.instanceMethod yX3_hitCount ∈ lw_good := gd_of (List.mem_append_right _ (List.mem_append_right _ (List.mem_append_left _ (List.mem_of_getElem? (i := 143) rfl)))) rfl
set_option maxRecDepth 100000 in
theorem wk456 : Cond.selects RX3 yX3_hitCount yX3_hitCount ∈ lw_good := gd_of (List.mem_append_right _ (List.mem_append_right _ (List.mem_append_left _ (List.mem_of_getElem? (i := 144) rfl)))) rfl
set_option maxRecDepth 100000 in
theorem wk457 : Cond.code yX3_hitCount cX3_hitCount 1 (some .int) ∈ lw_good := gd_of (List.mem_append_right _ (List.mem_append_right _ (List.mem_append_left _ (List.mem_of_getElem? (i := 145) rfl)))) rfl
set_option maxRecDepth 100000 in
theorem wk458 : Cond.methodLink RX6 94 yX3_slipCount ∈ lw_good := gd_of (List.mem_append_right _ (List.mem_append_right _ (List.mem_append_left _ (List.mem_of_getElem? (i := 146) rfl)))) rfl
set_option maxRecDepth 100000 in
theorem wk459 : Cond.instanceMethod yX3_slipCount ∈ lw_good := gd_of (List.mem_append_right _ (List.mem_append_right _ (List.mem_append_left _ (List.mem_of_getElem? (i := 147) rfl)))) rfl
set_option maxRecDepth 100000 in
theorem wk460 : Cond.selects RX3 yX3_slipCount yX3_slipCount ∈ lw_good := gd_of (List.mem_append_right _ (List.mem_append_right _ (List.mem_append_left _ (List.mem_of_getElem? (i := 148) rfl)))) rfl
set_option maxRecDepth 100000 in
theorem wk461 : Cond.code yX3_slipCount cX3_slipCount 1 (some .int) ∈ lw_good := gd_of (List.mem_append_right _ (List.mem_append_right _ (List.mem_append_left _ (List.mem_of_getElem? (i := 149) rfl)))) rfl
set_option maxRecDepth 100000 in
theorem wk462 : Cond.methodLink RX6 97 yX3_bitsOfBlock ∈ lw_good := gd_of (List.mem_append_right _ (List.mem_append_right _ (List.mem_append_left _ (List.mem_of_getElem? (i := 150) rfl)))) rfl
set_option maxRecDepth 100000 in
theorem wk463 : Cond.instanceMethod yX3_bitsOfBlock ∈ lw_good := gd_of (List.mem_append_right _ (List.mem_append_right _ (List.mem_append_left _ (List.mem_of_getElem? (i := 151) rfl)))) rfl
set_option maxRecDepth 100000 in
theorem wk464 : Cond.selects RX3 yX3_bitsOfBlock yX3_bitsOfBlock ∈ lw_good := gd_of (List.mem_append_right _ (List.mem_append_right _ (List.mem_append_left _ (List.mem_of_getElem? (i := 152) rfl)))) rfl
set_option maxRecDepth 100000 in
theorem wk465 : Cond.code yX3_bitsOfBlock cX3_bitsOfBlock 1 (some .int) ∈ lw_good := gd_of (List.mem_append_right _ (List.mem_append_right _ (List.mem_append_left _ (List.mem_of_getElem? (i := 153) rfl)))) rfl
set_option maxRecDepth 100000 in
theorem wk466 : Cond.methodLink RX6 100 yX3_wrongHeadCount ∈ lw_good := gd_of (List.mem_append_right _ (List.mem_append_right _ (List.mem_append_left _ (List.mem_of_getElem? (i := 154) rfl)))) rfl
set_option maxRecDepth 100000 in
theorem wk467 : Cond.instanceMethod yX3_wrongHeadCount ∈ lw_good := gd_of (List.mem_append_right _ (List.mem_append_right _ (List.mem_append_left _ (List.mem_of_getElem? (i := 155) rfl)))) rfl
set_option maxRecDepth 100000 in
theorem wk468 : Cond.selects RX3 yX3_wrongHeadCount yX3_wrongHeadCount ∈ lw_good := gd_of (List.mem_append_right _ (List.mem_append_right _ (List.mem_append_left _ (List.mem_of_getElem? (i := 156) rfl)))) rfl
set_option maxRecDepth 100000 in
theorem wk469 : Cond.code yX3_wrongHeadCount cX3_wrongHeadCount 1 (some .int) ∈ lw_good := gd_of (List.mem_append_right _ (List.mem_append_right _ (List.mem_append_left _ (List.mem_of_getElem? (i := 157) rfl)))) rfl
set_option maxRecDepth 100000 in
theorem wk470 : Cond.methodLink RL 62 yX7_receiver ∈ lw_good := gd_of (List.mem_append_right _ (List.mem_append_right _ (List.mem_append_right _ (List.mem_of_getElem? (i := 85) rfl)))) rfl
set_option maxRecDepth 100000 in
theorem wk471 : Cond.instanceMethod yX7_receiver ∈ lw_good := gd_of (List.mem_append_right _ (List.mem_append_right _ (List.mem_append_right _ (List.mem_of_getElem? (i := 86) rfl)))) rfl
set_option maxRecDepth 100000 in
theorem wk472 : Cond.selects RX7 yX7_receiver yX7_receiver ∈ lw_good := gd_of (List.mem_append_right _ (List.mem_append_right _ (List.mem_append_right _ (List.mem_of_getElem? (i := 87) rfl)))) rfl
set_option maxRecDepth 100000 in
theorem wk473 : Cond.code yX7_receiver cX7_receiver 2 (some .int) ∈ lw_good := gd_of (List.mem_append_right _ (List.mem_append_right _ (List.mem_append_right _ (List.mem_of_getElem? (i := 88) rfl)))) rfl
set_option maxRecDepth 100000 in
theorem lay_X1_0 : u_lay RX1 TX1 0 ∈ lw_good := gd_of (w := .laysFinal "LineBlocks$Groups" "LineBlocks$Groups" "types" "[I") (List.mem_append_right _ (List.mem_append_left _ (List.mem_of_getElem? (i := 80) rfl))) rfl
set_option maxRecDepth 100000 in
theorem lay_X1_1 : u_lay RX1 TX1 1 ∈ lw_good := gd_of (w := .laysFinal "LineBlocks$Groups" "LineBlocks$Groups" "payloads" "[J") (List.mem_append_right _ (List.mem_append_left _ (List.mem_of_getElem? (i := 82) rfl))) rfl
set_option maxRecDepth 100000 in
theorem lay_X1_2 : u_lay RX1 TX1 2 ∈ lw_good := gd_of (w := .lays "LineBlocks$Groups" "LineBlocks$Groups" "count" "I") (List.mem_append_right _ (List.mem_append_left _ (List.mem_of_getElem? (i := 84) rfl))) rfl
theorem in_X1 : ∀ w ∈ u_ws RX1 TX1 3, w ∈ lw_good := show ∀ w ∈ [u_lay RX1 TX1 0, u_lay RX1 TX1 1, u_lay RX1 TX1 2], w ∈ lw_good from List.forall_mem_cons.mpr ⟨lay_X1_0, List.forall_mem_cons.mpr ⟨lay_X1_1, List.forall_mem_cons.mpr ⟨lay_X1_2, fun _ h => absurd h List.not_mem_nil⟩⟩⟩
set_option maxRecDepth 100000 in
theorem lay_X2_0 : u_lay RX2 TX2 0 ∈ lw_good := gd_of (w := .laysFinal "LineBlocks$Line" "LineBlocks$Line" "words" "[J") (List.mem_append_right _ (List.mem_append_left _ (List.mem_of_getElem? (i := 28) rfl))) rfl
set_option maxRecDepth 100000 in
theorem lay_X2_1 : u_lay RX2 TX2 1 ∈ lw_good := gd_of (w := .lays "LineBlocks$Line" "LineBlocks$Line" "first" "I") (List.mem_append_right _ (List.mem_append_left _ (List.mem_of_getElem? (i := 30) rfl))) rfl
set_option maxRecDepth 100000 in
theorem lay_X2_2 : u_lay RX2 TX2 2 ∈ lw_good := gd_of (w := .lays "LineBlocks$Line" "LineBlocks$Line" "count" "I") (List.mem_append_right _ (List.mem_append_left _ (List.mem_of_getElem? (i := 32) rfl))) rfl
theorem in_X2 : ∀ w ∈ u_ws RX2 TX2 3, w ∈ lw_good := show ∀ w ∈ [u_lay RX2 TX2 0, u_lay RX2 TX2 1, u_lay RX2 TX2 2], w ∈ lw_good from List.forall_mem_cons.mpr ⟨lay_X2_0, List.forall_mem_cons.mpr ⟨lay_X2_1, List.forall_mem_cons.mpr ⟨lay_X2_2, fun _ h => absurd h List.not_mem_nil⟩⟩⟩
set_option maxRecDepth 100000 in
theorem lay_X3_0 : u_lay RX3 TX3 0 ∈ lw_good := gd_of (w := .laysFinal "LineBlocks$Receiver" "LineBlocks$Receiver" "scrambler" "LLineBlocks$Scrambler;") (List.mem_append_right _ (List.mem_append_left _ (List.mem_of_getElem? (i := 98) rfl))) rfl
set_option maxRecDepth 100000 in
theorem lay_X3_1 : u_lay RX3 TX3 1 ∈ lw_good := gd_of (w := .laysFinal "LineBlocks$Receiver" "LineBlocks$Receiver" "groups" "LLineBlocks$Groups;") (List.mem_append_right _ (List.mem_append_left _ (List.mem_of_getElem? (i := 100) rfl))) rfl
set_option maxRecDepth 100000 in
theorem lay_X3_2 : u_lay RX3 TX3 2 ∈ lw_good := gd_of (w := .lays "LineBlocks$Receiver" "LineBlocks$Receiver" "head" "I") (List.mem_append_right _ (List.mem_append_left _ (List.mem_of_getElem? (i := 102) rfl))) rfl
set_option maxRecDepth 100000 in
theorem lay_X3_3 : u_lay RX3 TX3 3 ∈ lw_good := gd_of (w := .lays "LineBlocks$Receiver" "LineBlocks$Receiver" "payload" "J") (List.mem_append_right _ (List.mem_append_left _ (List.mem_of_getElem? (i := 104) rfl))) rfl
set_option maxRecDepth 100000 in
theorem lay_X3_4 : u_lay RX3 TX3 4 ∈ lw_good := gd_of (w := .lays "LineBlocks$Receiver" "LineBlocks$Receiver" "have" "I") (List.mem_append_right _ (List.mem_append_left _ (List.mem_of_getElem? (i := 106) rfl))) rfl
set_option maxRecDepth 100000 in
theorem lay_X3_5 : u_lay RX3 TX3 5 ∈ lw_good := gd_of (w := .lays "LineBlocks$Receiver" "LineBlocks$Receiver" "locked" "Z") (List.mem_append_right _ (List.mem_append_left _ (List.mem_of_getElem? (i := 108) rfl))) rfl
set_option maxRecDepth 100000 in
theorem lay_X3_6 : u_lay RX3 TX3 6 ∈ lw_good := gd_of (w := .lays "LineBlocks$Receiver" "LineBlocks$Receiver" "dropsNext" "Z") (List.mem_append_right _ (List.mem_append_left _ (List.mem_of_getElem? (i := 110) rfl))) rfl
set_option maxRecDepth 100000 in
theorem lay_X3_7 : u_lay RX3 TX3 7 ∈ lw_good := gd_of (w := .lays "LineBlocks$Receiver" "LineBlocks$Receiver" "hits" "I") (List.mem_append_right _ (List.mem_append_left _ (List.mem_of_getElem? (i := 112) rfl))) rfl
set_option maxRecDepth 100000 in
theorem lay_X3_8 : u_lay RX3 TX3 8 ∈ lw_good := gd_of (w := .lays "LineBlocks$Receiver" "LineBlocks$Receiver" "slips" "I") (List.mem_append_right _ (List.mem_append_left _ (List.mem_of_getElem? (i := 114) rfl))) rfl
set_option maxRecDepth 100000 in
theorem lay_X3_9 : u_lay RX3 TX3 9 ∈ lw_good := gd_of (w := .lays "LineBlocks$Receiver" "LineBlocks$Receiver" "blocksOfRow" "I") (List.mem_append_right _ (List.mem_append_left _ (List.mem_of_getElem? (i := 116) rfl))) rfl
set_option maxRecDepth 100000 in
theorem lay_X3_10 : u_lay RX3 TX3 10 ∈ lw_good := gd_of (w := .lays "LineBlocks$Receiver" "LineBlocks$Receiver" "wrongHeads" "I") (List.mem_append_right _ (List.mem_append_left _ (List.mem_of_getElem? (i := 118) rfl))) rfl
theorem in_X3 : ∀ w ∈ u_ws RX3 TX3 11, w ∈ lw_good := show ∀ w ∈ [u_lay RX3 TX3 0, u_lay RX3 TX3 1, u_lay RX3 TX3 2, u_lay RX3 TX3 3, u_lay RX3 TX3 4, u_lay RX3 TX3 5, u_lay RX3 TX3 6, u_lay RX3 TX3 7, u_lay RX3 TX3 8, u_lay RX3 TX3 9, u_lay RX3 TX3 10], w ∈ lw_good from List.forall_mem_cons.mpr ⟨lay_X3_0, List.forall_mem_cons.mpr ⟨lay_X3_1, List.forall_mem_cons.mpr ⟨lay_X3_2, List.forall_mem_cons.mpr ⟨lay_X3_3, List.forall_mem_cons.mpr ⟨lay_X3_4, List.forall_mem_cons.mpr ⟨lay_X3_5, List.forall_mem_cons.mpr ⟨lay_X3_6, List.forall_mem_cons.mpr ⟨lay_X3_7, List.forall_mem_cons.mpr ⟨lay_X3_8, List.forall_mem_cons.mpr ⟨lay_X3_9, List.forall_mem_cons.mpr ⟨lay_X3_10, fun _ h => absurd h List.not_mem_nil⟩⟩⟩⟩⟩⟩⟩⟩⟩⟩⟩
set_option maxRecDepth 100000 in
theorem lay_X4_0 : u_lay RX4 TX4 0 ∈ lw_good := gd_of (w := .lays "LineBlocks$Scrambler" "LineBlocks$Scrambler" "latest" "J") (List.mem_append_right _ (List.mem_append_left _ (List.mem_of_getElem? (i := 49) rfl))) rfl
theorem in_X4 : ∀ w ∈ u_ws RX4 TX4 1, w ∈ lw_good := show ∀ w ∈ [u_lay RX4 TX4 0], w ∈ lw_good from List.forall_mem_cons.mpr ⟨lay_X4_0, fun _ h => absurd h List.not_mem_nil⟩
set_option maxRecDepth 100000 in
theorem lay_X5_0 : u_lay RX5 TX5 0 ∈ lw_good := gd_of (w := .laysFinal "LineBlocks$Sender" "LineBlocks$Sender" "scrambler" "LLineBlocks$Scrambler;") (List.mem_append_right _ (List.mem_append_left _ (List.mem_of_getElem? (i := 55) rfl))) rfl
set_option maxRecDepth 100000 in
theorem lay_X5_1 : u_lay RX5 TX5 1 ∈ lw_good := gd_of (w := .laysFinal "LineBlocks$Sender" "LineBlocks$Sender" "group" "[I") (List.mem_append_right _ (List.mem_append_left _ (List.mem_of_getElem? (i := 57) rfl))) rfl
set_option maxRecDepth 100000 in
theorem lay_X5_2 : u_lay RX5 TX5 2 ∈ lw_good := gd_of (w := .lays "LineBlocks$Sender" "LineBlocks$Sender" "waiting" "I") (List.mem_append_right _ (List.mem_append_left _ (List.mem_of_getElem? (i := 59) rfl))) rfl
theorem in_X5 : ∀ w ∈ u_ws RX5 TX5 3, w ∈ lw_good := show ∀ w ∈ [u_lay RX5 TX5 0, u_lay RX5 TX5 1, u_lay RX5 TX5 2], w ∈ lw_good from List.forall_mem_cons.mpr ⟨lay_X5_0, List.forall_mem_cons.mpr ⟨lay_X5_1, List.forall_mem_cons.mpr ⟨lay_X5_2, fun _ h => absurd h List.not_mem_nil⟩⟩⟩
set_option maxRecDepth 100000 in
theorem lay_X6_0 : u_lay RX6 TX6 0 ∈ lw_good := gd_of (w := .laysFinal "LineBlocks" "LineBlocks" "line" "LLineBlocks$Line;") (List.mem_append_right _ (List.mem_append_left _ (List.mem_of_getElem? (i := 124) rfl))) rfl
set_option maxRecDepth 100000 in
theorem lay_X6_1 : u_lay RX6 TX6 1 ∈ lw_good := gd_of (w := .laysFinal "LineBlocks" "LineBlocks" "sender" "LLineBlocks$Sender;") (List.mem_append_right _ (List.mem_append_left _ (List.mem_of_getElem? (i := 126) rfl))) rfl
set_option maxRecDepth 100000 in
theorem lay_X6_2 : u_lay RX6 TX6 2 ∈ lw_good := gd_of (w := .laysFinal "LineBlocks" "LineBlocks" "taker" "LLineBlocks$Receiver;") (List.mem_append_right _ (List.mem_append_left _ (List.mem_of_getElem? (i := 128) rfl))) rfl
theorem in_X6 : ∀ w ∈ u_ws RX6 TX6 3, w ∈ lw_good := show ∀ w ∈ [u_lay RX6 TX6 0, u_lay RX6 TX6 1, u_lay RX6 TX6 2], w ∈ lw_good from List.forall_mem_cons.mpr ⟨lay_X6_0, List.forall_mem_cons.mpr ⟨lay_X6_1, List.forall_mem_cons.mpr ⟨lay_X6_2, fun _ h => absurd h List.not_mem_nil⟩⟩⟩
set_option maxRecDepth 100000 in
theorem lay_X7_0 : u_lay RX7 TX7 0 ∈ lw_good := gd_of (w := .lays "LineBlocksModel" "LineBlocksModel" "thrown" "I") (List.mem_append_right _ (List.mem_append_right _ (List.mem_append_left _ (List.mem_of_getElem? (i := 181) rfl)))) rfl
set_option maxRecDepth 100000 in
theorem lay_X7_1 : u_lay RX7 TX7 1 ∈ lw_good := gd_of (w := .lays "LineBlocksModel" "LineBlocksModel" "waiting" "I") (List.mem_append_right _ (List.mem_append_right _ (List.mem_append_left _ (List.mem_of_getElem? (i := 183) rfl)))) rfl
set_option maxRecDepth 100000 in
theorem lay_X7_2 : u_lay RX7 TX7 2 ∈ lw_good := gd_of (w := .laysFinal "LineBlocksModel" "LineBlocksModel" "group" "[I") (List.mem_append_right _ (List.mem_append_right _ (List.mem_append_left _ (List.mem_of_getElem? (i := 185) rfl)))) rfl
set_option maxRecDepth 100000 in
theorem lay_X7_3 : u_lay RX7 TX7 3 ∈ lw_good := gd_of (w := .lays "LineBlocksModel" "LineBlocksModel" "size" "I") (List.mem_append_right _ (List.mem_append_right _ (List.mem_append_left _ (List.mem_of_getElem? (i := 187) rfl)))) rfl
set_option maxRecDepth 100000 in
theorem lay_X7_4 : u_lay RX7 TX7 4 ∈ lw_good := gd_of (w := .laysFinal "LineBlocksModel" "LineBlocksModel" "line" "[B") (List.mem_append_right _ (List.mem_append_right _ (List.mem_append_left _ (List.mem_of_getElem? (i := 189) rfl)))) rfl
set_option maxRecDepth 100000 in
theorem lay_X7_5 : u_lay RX7 TX7 5 ∈ lw_good := gd_of (w := .laysFinal "LineBlocksModel" "LineBlocksModel" "latest" "[I") (List.mem_append_right _ (List.mem_append_right _ (List.mem_append_left _ (List.mem_of_getElem? (i := 191) rfl)))) rfl
set_option maxRecDepth 100000 in
theorem lay_X7_6 : u_lay RX7 TX7 6 ∈ lw_good := gd_of (w := .laysFinal "LineBlocksModel" "LineBlocksModel" "block" "[I") (List.mem_append_right _ (List.mem_append_right _ (List.mem_append_left _ (List.mem_of_getElem? (i := 193) rfl)))) rfl
set_option maxRecDepth 100000 in
theorem lay_X7_7 : u_lay RX7 TX7 7 ∈ lw_good := gd_of (w := .laysFinal "LineBlocksModel" "LineBlocksModel" "came" "[I") (List.mem_append_right _ (List.mem_append_right _ (List.mem_append_left _ (List.mem_of_getElem? (i := 195) rfl)))) rfl
set_option maxRecDepth 100000 in
theorem lay_X7_8 : u_lay RX7 TX7 8 ∈ lw_good := gd_of (w := .lays "LineBlocksModel" "LineBlocksModel" "taken" "I") (List.mem_append_right _ (List.mem_append_right _ (List.mem_append_left _ (List.mem_of_getElem? (i := 197) rfl)))) rfl
set_option maxRecDepth 100000 in
theorem lay_X7_9 : u_lay RX7 TX7 9 ∈ lw_good := gd_of (w := .lays "LineBlocksModel" "LineBlocksModel" "slips" "Z") (List.mem_append_right _ (List.mem_append_right _ (List.mem_append_left _ (List.mem_of_getElem? (i := 199) rfl)))) rfl
set_option maxRecDepth 100000 in
theorem lay_X7_10 : u_lay RX7 TX7 10 ∈ lw_good := gd_of (w := .lays "LineBlocksModel" "LineBlocksModel" "locked" "Z") (List.mem_append_right _ (List.mem_append_right _ (List.mem_append_left _ (List.mem_of_getElem? (i := 201) rfl)))) rfl
set_option maxRecDepth 100000 in
theorem lay_X7_11 : u_lay RX7 TX7 11 ∈ lw_good := gd_of (w := .lays "LineBlocksModel" "LineBlocksModel" "hits" "I") (List.mem_append_right _ (List.mem_append_right _ (List.mem_append_left _ (List.mem_of_getElem? (i := 203) rfl)))) rfl
set_option maxRecDepth 100000 in
theorem lay_X7_12 : u_lay RX7 TX7 12 ∈ lw_good := gd_of (w := .lays "LineBlocksModel" "LineBlocksModel" "slipped" "I") (List.mem_append_right _ (List.mem_append_right _ (List.mem_append_left _ (List.mem_of_getElem? (i := 205) rfl)))) rfl
set_option maxRecDepth 100000 in
theorem lay_X7_13 : u_lay RX7 TX7 13 ∈ lw_good := gd_of (w := .lays "LineBlocksModel" "LineBlocksModel" "row" "I") (List.mem_append_right _ (List.mem_append_right _ (List.mem_append_left _ (List.mem_of_getElem? (i := 207) rfl)))) rfl
set_option maxRecDepth 100000 in
theorem lay_X7_14 : u_lay RX7 TX7 14 ∈ lw_good := gd_of (w := .lays "LineBlocksModel" "LineBlocksModel" "wrong" "I") (List.mem_append_right _ (List.mem_append_right _ (List.mem_append_left _ (List.mem_of_getElem? (i := 209) rfl)))) rfl
set_option maxRecDepth 100000 in
theorem lay_X7_15 : u_lay RX7 TX7 15 ∈ lw_good := gd_of (w := .lays "LineBlocksModel" "LineBlocksModel" "toldCount" "I") (List.mem_append_right _ (List.mem_append_right _ (List.mem_append_left _ (List.mem_of_getElem? (i := 211) rfl)))) rfl
set_option maxRecDepth 100000 in
theorem lay_X7_16 : u_lay RX7 TX7 16 ∈ lw_good := gd_of (w := .laysFinal "LineBlocksModel" "LineBlocksModel" "told" "[I") (List.mem_append_right _ (List.mem_append_right _ (List.mem_append_left _ (List.mem_of_getElem? (i := 213) rfl)))) rfl
theorem in_X7 : ∀ w ∈ u_ws RX7 TX7 17, w ∈ lw_good := show ∀ w ∈ [u_lay RX7 TX7 0, u_lay RX7 TX7 1, u_lay RX7 TX7 2, u_lay RX7 TX7 3, u_lay RX7 TX7 4, u_lay RX7 TX7 5, u_lay RX7 TX7 6, u_lay RX7 TX7 7, u_lay RX7 TX7 8, u_lay RX7 TX7 9, u_lay RX7 TX7 10, u_lay RX7 TX7 11, u_lay RX7 TX7 12, u_lay RX7 TX7 13, u_lay RX7 TX7 14, u_lay RX7 TX7 15, u_lay RX7 TX7 16], w ∈ lw_good from List.forall_mem_cons.mpr ⟨lay_X7_0, List.forall_mem_cons.mpr ⟨lay_X7_1, List.forall_mem_cons.mpr ⟨lay_X7_2, List.forall_mem_cons.mpr ⟨lay_X7_3, List.forall_mem_cons.mpr ⟨lay_X7_4, List.forall_mem_cons.mpr ⟨lay_X7_5, List.forall_mem_cons.mpr ⟨lay_X7_6, List.forall_mem_cons.mpr ⟨lay_X7_7, List.forall_mem_cons.mpr ⟨lay_X7_8, List.forall_mem_cons.mpr ⟨lay_X7_9, List.forall_mem_cons.mpr ⟨lay_X7_10, List.forall_mem_cons.mpr ⟨lay_X7_11, List.forall_mem_cons.mpr ⟨lay_X7_12, List.forall_mem_cons.mpr ⟨lay_X7_13, List.forall_mem_cons.mpr ⟨lay_X7_14, List.forall_mem_cons.mpr ⟨lay_X7_15, List.forall_mem_cons.mpr ⟨lay_X7_16, fun _ h => absurd h List.not_mem_nil⟩⟩⟩⟩⟩⟩⟩⟩⟩⟩⟩⟩⟩⟩⟩⟩⟩
set_option maxRecDepth 100000 in
theorem nst_RX6_11 : Cond.methodLinkNest RX6 11 yX2_init "LineBlocks" ∈ lw_tbl := (List.mem_append_right _ (List.mem_append_left _ (List.mem_of_getElem? (i := 21) rfl)))
set_option maxRecDepth 100000 in
theorem nst_RX6_18 : Cond.methodLinkNest RX6 18 yX5_init "LineBlocks" ∈ lw_tbl := (List.mem_append_right _ (List.mem_append_left _ (List.mem_of_getElem? (i := 38) rfl)))
set_option maxRecDepth 100000 in
theorem nst_RX5_13 : Cond.methodLinkNest RX5 13 yX4_init "LineBlocks" ∈ lw_tbl := (List.mem_append_right _ (List.mem_append_left _ (List.mem_of_getElem? (i := 44) rfl)))
set_option maxRecDepth 100000 in
theorem nst_RX6_25 : Cond.methodLinkNest RX6 25 yX3_init "LineBlocks" ∈ lw_tbl := (List.mem_append_right _ (List.mem_append_left _ (List.mem_of_getElem? (i := 65) rfl)))
set_option maxRecDepth 100000 in
theorem nst_RX3_11 : Cond.methodLinkNest RX3 11 yX4_init "LineBlocks" ∈ lw_tbl := (List.mem_append_right _ (List.mem_append_left _ (List.mem_of_getElem? (i := 70) rfl)))
set_option maxRecDepth 100000 in
theorem nst_RX3_20 : Cond.methodLinkNest RX3 20 yX1_init "LineBlocks" ∈ lw_tbl := (List.mem_append_right _ (List.mem_append_left _ (List.mem_of_getElem? (i := 73) rfl)))
set_option maxRecDepth 100000 in
theorem lays_E : Cond.laysStatic "LineBlocks$Codec" "END_TYPES" "[I" ∈ lw_tbl := (List.mem_append_right _ (List.mem_append_left _ (List.mem_of_getElem? (i := 164) rfl)))
theorem ins_X1 : Cond.instantiable RX1 3 ∈ lw_good := gd_of (List.mem_append_right _ (List.mem_append_left _ (List.mem_of_getElem? (i := 72) rfl))) rfl
theorem ins_X2 : Cond.instantiable RX2 3 ∈ lw_good := gd_of (List.mem_append_right _ (List.mem_append_left _ (List.mem_of_getElem? (i := 20) rfl))) rfl
theorem ins_X3 : Cond.instantiable RX3 11 ∈ lw_good := gd_of (List.mem_append_right _ (List.mem_append_left _ (List.mem_of_getElem? (i := 64) rfl))) rfl
theorem ins_X4 : Cond.instantiable RX4 1 ∈ lw_good := gd_of (List.mem_append_right _ (List.mem_append_left _ (List.mem_of_getElem? (i := 43) rfl))) rfl
theorem ins_X5 : Cond.instantiable RX5 3 ∈ lw_good := gd_of (List.mem_append_right _ (List.mem_append_left _ (List.mem_of_getElem? (i := 37) rfl))) rfl
theorem ins_X6 : Cond.instantiable RX6 3 ∈ lw_good := gd_of (List.mem_append_right _ (List.mem_append_left _ (List.mem_of_getElem? (i := 12) rfl))) rfl
theorem ins_X7 : Cond.instantiable RX7 17 ∈ lw_good := gd_of (List.mem_append_right _ (List.mem_append_right _ (List.mem_append_left _ (List.mem_of_getElem? (i := 159) rfl)))) rfl
theorem arc_int : Cond.arrayClass .int ∈ lw_good := gd_of (List.mem_append_right _ (List.mem_append_left _ (List.mem_of_getElem? (i := 62) rfl))) rfl
theorem arc_long : Cond.arrayClass .long ∈ lw_good := gd_of (List.mem_append_right _ (List.mem_append_left _ (List.mem_of_getElem? (i := 35) rfl))) rfl
theorem arc_byte : Cond.arrayClass .byte ∈ lw_good := gd_of (List.mem_append_right _ (List.mem_append_right _ (List.mem_append_left _ (List.mem_of_getElem? (i := 216) rfl)))) rfl
theorem ini_E : Cond.initialized "LineBlocks$Codec" ∈ lw_good := gd_of (List.mem_append_right _ (List.mem_append_left _ (List.mem_of_getElem? (i := 8) rfl))) rfl
theorem ki_RL_12 : lkI RL 12 yX7_init cX7_init 1 0 := ⟨wk56, wk57, wk5, wk58, ⟨by decide +kernel, by decide +kernel, by decide +kernel⟩, rfl⟩
theorem ki_RL_9 : lkI RL 9 yX6_init cX6_init 1 0 := ⟨wk7, wk8, wk2, wk9, ⟨by decide +kernel, by decide +kernel, by decide +kernel⟩, rfl⟩
theorem kn_RX3_11 : lkN RX3 11 yX4_init cX4_init 1 0 := ⟨List.mem_of_getElem? (i := 4) rfl, wk39, wk35, wk40, ⟨by decide +kernel, by decide +kernel, by decide +kernel⟩, rfl⟩
theorem kn_RX3_20 : lkN RX3 20 yX1_init cX1_init 1 0 := ⟨List.mem_of_getElem? (i := 5) rfl, wk51, wk49, wk52, ⟨by decide +kernel, by decide +kernel, by decide +kernel⟩, rfl⟩
theorem kn_RX5_13 : lkN RX5 13 yX4_init cX4_init 1 0 := ⟨List.mem_of_getElem? (i := 2) rfl, wk39, wk35, wk40, ⟨by decide +kernel, by decide +kernel, by decide +kernel⟩, rfl⟩
theorem kn_RX6_11 : lkN RX6 11 yX2_init cX2_init 1 0 := ⟨List.mem_of_getElem? (i := 0) rfl, wk25, wk15, wk26, ⟨by decide +kernel, by decide +kernel, by decide +kernel⟩, rfl⟩
theorem kn_RX6_18 : lkN RX6 18 yX5_init cX5_init 1 0 := ⟨List.mem_of_getElem? (i := 1) rfl, wk30, wk19, wk31, ⟨by decide +kernel, by decide +kernel, by decide +kernel⟩, rfl⟩
theorem kn_RX6_25 : lkN RX6 25 yX3_init cX3_init 1 0 := ⟨List.mem_of_getElem? (i := 3) rfl, wk42, wk23, wk43, ⟨by decide +kernel, by decide +kernel, by decide +kernel⟩, rfl⟩
theorem ks_RX0_15 : lkS RX0 15 yX0_areIdleOrError cX0_areIdleOrError 4 (some .boolean) 3 := ⟨wk101, wk102, wk92, wk103, ⟨by decide +kernel, by decide +kernel, by decide +kernel⟩⟩
theorem ks_RX0_23 : lkS RX0 23 yX0_areData cX0_areData 3 (some .boolean) 2 := ⟨wk104, wk105, wk92, wk106, ⟨by decide +kernel, by decide +kernel, by decide +kernel⟩⟩
theorem ks_RX0_27 : lkS RX0 27 yX0_bitsOf cX0_bitsOf 3 (some .long) 3 := ⟨wk114, wk115, wk92, wk116, ⟨by decide +kernel, by decide +kernel, by decide +kernel⟩⟩
theorem ks_RX0_31 : lkS RX0 31 yX0_endPlace cX0_endPlace 2 (some .int) 1 := ⟨wk121, wk122, wk92, wk123, ⟨by decide +kernel, by decide +kernel, by decide +kernel⟩⟩
theorem ks_RX0_35 : lkS RX0 35 yX0_characterByEnd cX0_characterByEnd 5 (some .int) 4 := ⟨wk430, wk431, wk92, wk432, ⟨by decide +kernel, by decide +kernel, by decide +kernel⟩⟩
theorem ks_RX0_39 : lkS RX0 39 yX0_dataAt cX0_dataAt 4 (some .int) 3 := ⟨wk433, wk434, wk92, wk435, ⟨by decide +kernel, by decide +kernel, by decide +kernel⟩⟩
theorem ks_RX0_43 : lkS RX0 43 yX0_codedAt cX0_codedAt 4 (some .int) 2 := ⟨wk436, wk437, wk92, wk438, ⟨by decide +kernel, by decide +kernel, by decide +kernel⟩⟩
theorem ks_RX0_47 : lkS RX0 47 yX0_characterByMiddleStart cX0_characterByMiddleStart 3 (some .int) 2 := ⟨wk439, wk440, wk92, wk441, ⟨by decide +kernel, by decide +kernel, by decide +kernel⟩⟩
theorem ks_RX0_50 : lkS RX0 50 yX0_dataShift cX0_dataShift 2 (some .int) 2 := ⟨wk118, wk119, wk92, wk120, ⟨by decide +kernel, by decide +kernel, by decide +kernel⟩⟩
theorem ks_RX0_54 : lkS RX0 54 yX0_codeShift cX0_codeShift 1 (some .int) 1 := ⟨wk124, wk125, wk92, wk126, ⟨by decide +kernel, by decide +kernel, by decide +kernel⟩⟩
theorem ks_RX0_57 : lkS RX0 57 yX0_isData cX0_isData 1 (some .boolean) 1 := ⟨wk98, wk99, wk92, wk100, ⟨by decide +kernel, by decide +kernel, by decide +kernel⟩⟩
theorem ks_RX0_9 : lkS RX0 9 yX0_leadingData cX0_leadingData 2 (some .int) 1 := ⟨wk95, wk96, wk92, wk97, ⟨by decide +kernel, by decide +kernel, by decide +kernel⟩⟩
theorem ks_RX1_23 : lkS RX1 23 yX1_slotOf cX1_slotOf 1 (some .int) 1 := ⟨wk339, wk340, wk49, wk341, ⟨by decide +kernel, by decide +kernel, by decide +kernel⟩⟩
theorem ks_RX1_31 : lkS RX1 31 yX0_characterOf cX0_characterOf 5 (some .int) 3 := ⟨wk427, wk428, wk92, wk429, ⟨by decide +kernel, by decide +kernel, by decide +kernel⟩⟩
theorem ks_RX1_37 : lkS RX1 37 yJ9_floorMod_7cf53 cJ9_floorMod_7cf53 3 (some .int) 2 := ⟨wk342, wk142, wk143, wk144, ⟨by decide +kernel, by decide +kernel, by decide +kernel⟩⟩
theorem ks_RX2_28 : lkS RX2 28 yJ9_floorMod_7cf53 cJ9_floorMod_7cf53 3 (some .int) 2 := ⟨wk141, wk142, wk143, wk144, ⟨by decide +kernel, by decide +kernel, by decide +kernel⟩⟩
theorem ks_RX3_74 : lkS RX3 74 yX0_typeOfBlock cX0_typeOfBlock 3 (some .int) 2 := ⟨wk332, wk333, wk92, wk334, ⟨by decide +kernel, by decide +kernel, by decide +kernel⟩⟩
theorem ks_RX5_46 : lkS RX5 46 yX0_typeOfGroup cX0_typeOfGroup 2 (some .int) 1 := ⟨wk90, wk91, wk92, wk93, ⟨by decide +kernel, by decide +kernel, by decide +kernel⟩⟩
theorem ks_RX5_50 : lkS RX5 50 yJ7_fill_53178 cJ7_fill_53178 4 none 2 := ⟨wk107, wk108, wk109, wk110, ⟨by decide +kernel, by decide +kernel, by decide +kernel⟩⟩
theorem ks_RX5_56 : lkS RX5 56 yX0_payloadOf cX0_payloadOf 5 (some .long) 2 := ⟨wk111, wk112, wk92, wk113, ⟨by decide +kernel, by decide +kernel, by decide +kernel⟩⟩
theorem ks_RX7_40 : lkS RX7 40 yX7_isData cX7_isData 1 (some .boolean) 1 := ⟨wk177, wk178, wk5, wk179, ⟨by decide +kernel, by decide +kernel, by decide +kernel⟩⟩
theorem ks_RX7_44 : lkS RX7 44 yX7_isQuiet cX7_isQuiet 1 (some .boolean) 1 := ⟨wk180, wk181, wk5, wk182, ⟨by decide +kernel, by decide +kernel, by decide +kernel⟩⟩
theorem ks_RX7_59 : lkS RX7 59 yX7_typeOf cX7_typeOf 1 (some .int) 1 := ⟨wk191, wk192, wk5, wk193, ⟨by decide +kernel, by decide +kernel, by decide +kernel⟩⟩
theorem kv_RL_13 : lkV RL 13 yX6_put cX6_put 2 (some .int) 1 := ⟨wk68, wk69, wk70, wk2, wk71, ⟨by decide +kernel, by decide +kernel, by decide +kernel⟩⟩
theorem kv_RL_17 : lkV RL 17 yX7_put cX7_put 2 (some .int) 1 := ⟨wk159, wk160, wk161, wk5, wk162, ⟨by decide +kernel, by decide +kernel, by decide +kernel⟩⟩
theorem kv_RL_18 : lkV RL 18 yX6_word cX6_word 3 (some .int) 2 := ⟨wk202, wk203, wk204, wk2, wk205, ⟨by decide +kernel, by decide +kernel, by decide +kernel⟩⟩
theorem kv_RL_22 : lkV RL 22 yX7_word cX7_word 4 (some .int) 2 := ⟨wk211, wk212, wk213, wk5, wk214, ⟨by decide +kernel, by decide +kernel, by decide +kernel⟩⟩
theorem kv_RL_23 : lkV RL 23 yX6_idle cX6_idle 2 (some .int) 1 := ⟨wk216, wk217, wk218, wk2, wk219, ⟨by decide +kernel, by decide +kernel, by decide +kernel⟩⟩
theorem kv_RL_26 : lkV RL 26 yX7_idle cX7_idle 4 (some .int) 1 := ⟨wk225, wk226, wk227, wk5, wk228, ⟨by decide +kernel, by decide +kernel, by decide +kernel⟩⟩
theorem kv_RL_29 : lkV RL 29 yX6_state cX6_state 4 (some .long) 2 := ⟨wk229, wk230, wk231, wk2, wk232, ⟨by decide +kernel, by decide +kernel, by decide +kernel⟩⟩
theorem kv_RL_33 : lkV RL 33 yX7_state cX7_state 7 (some .long) 2 := ⟨wk247, wk248, wk249, wk5, wk250, ⟨by decide +kernel, by decide +kernel, by decide +kernel⟩⟩
theorem kv_RL_34 : lkV RL 34 yX6_bits cX6_bits 1 (some .int) 0 := ⟨wk253, wk254, wk255, wk2, wk256, ⟨by decide +kernel, by decide +kernel, by decide +kernel⟩⟩
theorem kv_RL_38 : lkV RL 38 yX7_bits cX7_bits 1 (some .int) 0 := ⟨wk257, wk258, wk259, wk5, wk260, ⟨by decide +kernel, by decide +kernel, by decide +kernel⟩⟩
theorem kv_RL_39 : lkV RL 39 yX6_bit cX6_bit 2 (some .int) 1 := ⟨wk261, wk262, wk263, wk2, wk264, ⟨by decide +kernel, by decide +kernel, by decide +kernel⟩⟩
theorem kv_RL_42 : lkV RL 42 yX7_bit cX7_bit 2 (some .int) 1 := ⟨wk273, wk274, wk275, wk5, wk276, ⟨by decide +kernel, by decide +kernel, by decide +kernel⟩⟩
theorem kv_RL_43 : lkV RL 43 yX6_turn cX6_turn 2 (some .int) 1 := ⟨wk277, wk278, wk279, wk2, wk280, ⟨by decide +kernel, by decide +kernel, by decide +kernel⟩⟩
theorem kv_RL_46 : lkV RL 46 yX7_turn cX7_turn 2 (some .int) 1 := ⟨wk285, wk286, wk287, wk5, wk288, ⟨by decide +kernel, by decide +kernel, by decide +kernel⟩⟩
theorem kv_RL_47 : lkV RL 47 yX6_add cX6_add 2 (some .int) 1 := ⟨wk289, wk290, wk291, wk2, wk292, ⟨by decide +kernel, by decide +kernel, by decide +kernel⟩⟩
theorem kv_RL_50 : lkV RL 50 yX7_add cX7_add 2 (some .int) 1 := ⟨wk294, wk295, wk296, wk5, wk297, ⟨by decide +kernel, by decide +kernel, by decide +kernel⟩⟩
theorem kv_RL_51 : lkV RL 51 yX6_receive cX6_receive 5 (some .int) 1 := ⟨wk298, wk299, wk300, wk2, wk301, ⟨by decide +kernel, by decide +kernel, by decide +kernel⟩⟩
theorem kv_RL_54 : lkV RL 54 yX7_receive cX7_receive 5 (some .int) 1 := ⟨wk371, wk372, wk373, wk5, wk374, ⟨by decide +kernel, by decide +kernel, by decide +kernel⟩⟩
theorem kv_RL_55 : lkV RL 55 yX6_told cX6_told 3 (some .int) 2 := ⟨wk411, wk412, wk413, wk2, wk414, ⟨by decide +kernel, by decide +kernel, by decide +kernel⟩⟩
theorem kv_RL_58 : lkV RL 58 yX7_told cX7_told 3 (some .int) 2 := ⟨wk442, wk443, wk444, wk5, wk445, ⟨by decide +kernel, by decide +kernel, by decide +kernel⟩⟩
theorem kv_RL_59 : lkV RL 59 yX6_receiver cX6_receiver 2 (some .int) 1 := ⟨wk446, wk447, wk448, wk2, wk449, ⟨by decide +kernel, by decide +kernel, by decide +kernel⟩⟩
theorem kv_RL_62 : lkV RL 62 yX7_receiver cX7_receiver 2 (some .int) 1 := ⟨wk470, wk471, wk472, wk5, wk473, ⟨by decide +kernel, by decide +kernel, by decide +kernel⟩⟩
theorem kv_RX1_27 : lkV RX1 27 yX1_isKept cX1_isKept 2 (some .boolean) 1 := ⟨wk423, wk424, wk425, wk49, wk426, ⟨by decide +kernel, by decide +kernel, by decide +kernel⟩⟩
theorem kv_RX2_19 : lkV RX2 19 yX2_ringPlace cX2_ringPlace 2 (some .int) 1 := ⟨wk136, wk137, wk138, wk15, wk139, ⟨by decide +kernel, by decide +kernel, by decide +kernel⟩⟩
theorem kv_RX3_39 : lkV RX3 39 yX1_count cX1_count 1 (some .int) 0 := ⟨wk310, wk311, wk312, wk49, wk313, ⟨by decide +kernel, by decide +kernel, by decide +kernel⟩⟩
theorem kv_RX3_46 : lkV RX3 46 yX1_character cX1_character 4 (some .int) 2 := ⟨wk419, wk420, wk421, wk49, wk422, ⟨by decide +kernel, by decide +kernel, by decide +kernel⟩⟩
theorem kv_RX3_50 : lkV RX3 50 yX4_exchange cX4_exchange 5 (some .long) 1 := ⟨wk246, wk239, wk240, wk35, wk241, ⟨by decide +kernel, by decide +kernel, by decide +kernel⟩⟩
theorem kv_RX3_64 : lkV RX3 64 yX4_unscramble cX4_unscramble 3 (some .int) 1 := ⟨wk323, wk324, wk325, wk35, wk326, ⟨by decide +kernel, by decide +kernel, by decide +kernel⟩⟩
theorem kv_RX3_68 : lkV RX3 68 yX3_endBlock cX3_endBlock 2 none 0 := ⟨wk327, wk328, wk329, wk23, wk330, ⟨by decide +kernel, by decide +kernel, by decide +kernel⟩⟩
theorem kv_RX3_71 : lkV RX3 71 yX3_beginBlock cX3_beginBlock 1 none 0 := ⟨wk363, wk364, wk365, wk23, wk366, ⟨by decide +kernel, by decide +kernel, by decide +kernel⟩⟩
theorem kv_RX3_80 : lkV RX3 80 yX1_keep cX1_keep 5 none 2 := ⟨wk335, wk336, wk337, wk49, wk338, ⟨by decide +kernel, by decide +kernel, by decide +kernel⟩⟩
theorem kv_RX3_84 : lkV RX3 84 yX3_countInRow cX3_countInRow 2 none 1 := ⟨wk343, wk344, wk345, wk23, wk346, ⟨by decide +kernel, by decide +kernel, by decide +kernel⟩⟩
theorem kv_RX3_88 : lkV RX3 88 yX3_countHit cX3_countHit 2 none 1 := ⟨wk359, wk360, wk361, wk23, wk362, ⟨by decide +kernel, by decide +kernel, by decide +kernel⟩⟩
theorem kv_RX3_91 : lkV RX3 91 yX3_slip cX3_slip 1 none 0 := ⟨wk349, wk350, wk351, wk23, wk352, ⟨by decide +kernel, by decide +kernel, by decide +kernel⟩⟩
theorem kv_RX3_97 : lkV RX3 97 yX3_beginRow cX3_beginRow 1 none 0 := ⟨wk355, wk356, wk357, wk23, wk358, ⟨by decide +kernel, by decide +kernel, by decide +kernel⟩⟩
theorem kv_RX4_15 : lkV RX4 15 yX4_mixed cX4_mixed 4 (some .int) 1 := ⟨wk149, wk150, wk151, wk35, wk152, ⟨by decide +kernel, by decide +kernel, by decide +kernel⟩⟩
theorem kv_RX4_19 : lkV RX4 19 yX4_keep cX4_keep 2 none 1 := ⟨wk154, wk155, wk156, wk35, wk157, ⟨by decide +kernel, by decide +kernel, by decide +kernel⟩⟩
theorem kv_RX5_28 : lkV RX5 28 yX4_exchange cX4_exchange 5 (some .long) 1 := ⟨wk238, wk239, wk240, wk35, wk241, ⟨by decide +kernel, by decide +kernel, by decide +kernel⟩⟩
theorem kv_RX5_32 : lkV RX5 32 yX5_sendGroup cX5_sendGroup 4 none 1 := ⟨wk86, wk87, wk88, wk19, wk89, ⟨by decide +kernel, by decide +kernel, by decide +kernel⟩⟩
theorem kv_RX5_36 : lkV RX5 36 yX5_accept cX5_accept 3 none 2 := ⟨wk210, wk83, wk84, wk19, wk85, ⟨by decide +kernel, by decide +kernel, by decide +kernel⟩⟩
theorem kv_RX5_42 : lkV RX5 42 yX5_sendBlock cX5_sendBlock 6 none 3 := ⟨wk127, wk128, wk129, wk19, wk130, ⟨by decide +kernel, by decide +kernel, by decide +kernel⟩⟩
theorem kv_RX5_60 : lkV RX5 60 yX2_append cX2_append 3 none 1 := ⟨wk131, wk132, wk133, wk15, wk134, ⟨by decide +kernel, by decide +kernel, by decide +kernel⟩⟩
theorem kv_RX5_66 : lkV RX5 66 yX4_scramble cX4_scramble 3 (some .int) 1 := ⟨wk145, wk146, wk147, wk35, wk148, ⟨by decide +kernel, by decide +kernel, by decide +kernel⟩⟩
theorem kv_RX6_100 : lkV RX6 100 yX3_wrongHeadCount cX3_wrongHeadCount 1 (some .int) 0 := ⟨wk466, wk467, wk468, wk23, wk469, ⟨by decide +kernel, by decide +kernel, by decide +kernel⟩⟩
theorem kv_RX6_30 : lkV RX6 30 yX5_waitingCount cX5_waitingCount 1 (some .int) 0 := ⟨wk72, wk73, wk74, wk19, wk75, ⟨by decide +kernel, by decide +kernel, by decide +kernel⟩⟩
theorem kv_RX6_34 : lkV RX6 34 yX2_size cX2_size 1 (some .int) 0 := ⟨wk77, wk78, wk79, wk15, wk80, ⟨by decide +kernel, by decide +kernel, by decide +kernel⟩⟩
theorem kv_RX6_37 : lkV RX6 37 yX5_accept cX5_accept 3 none 2 := ⟨wk82, wk83, wk84, wk19, wk85, ⟨by decide +kernel, by decide +kernel, by decide +kernel⟩⟩
theorem kv_RX6_41 : lkV RX6 41 yX5_acceptBytes cX5_acceptBytes 4 none 2 := ⟨wk206, wk207, wk208, wk19, wk209, ⟨by decide +kernel, by decide +kernel, by decide +kernel⟩⟩
theorem kv_RX6_44 : lkV RX6 44 yX5_sendIdleGroups cX5_sendIdleGroups 4 none 2 := ⟨wk220, wk221, wk222, wk19, wk223, ⟨by decide +kernel, by decide +kernel, by decide +kernel⟩⟩
theorem kv_RX6_47 : lkV RX6 47 yX5_exchangeState cX5_exchangeState 3 (some .long) 1 := ⟨wk234, wk235, wk236, wk19, wk237, ⟨by decide +kernel, by decide +kernel, by decide +kernel⟩⟩
theorem kv_RX6_51 : lkV RX6 51 yX3_exchangeState cX3_exchangeState 3 (some .long) 1 := ⟨wk242, wk243, wk244, wk23, wk245, ⟨by decide +kernel, by decide +kernel, by decide +kernel⟩⟩
theorem kv_RX6_54 : lkV RX6 54 yX2_has cX2_has 2 (some .boolean) 1 := ⟨wk265, wk266, wk267, wk15, wk268, ⟨by decide +kernel, by decide +kernel, by decide +kernel⟩⟩
theorem kv_RX6_58 : lkV RX6 58 yX2_at cX2_at 3 (some .int) 1 := ⟨wk269, wk270, wk271, wk15, wk272, ⟨by decide +kernel, by decide +kernel, by decide +kernel⟩⟩
theorem kv_RX6_62 : lkV RX6 62 yX2_flip cX2_flip 3 none 1 := ⟨wk281, wk282, wk283, wk15, wk284, ⟨by decide +kernel, by decide +kernel, by decide +kernel⟩⟩
theorem kv_RX6_66 : lkV RX6 66 yX2_append cX2_append 3 none 1 := ⟨wk293, wk132, wk133, wk15, wk134, ⟨by decide +kernel, by decide +kernel, by decide +kernel⟩⟩
theorem kv_RX6_69 : lkV RX6 69 yX3_groupCount cX3_groupCount 1 (some .int) 0 := ⟨wk306, wk307, wk308, wk23, wk309, ⟨by decide +kernel, by decide +kernel, by decide +kernel⟩⟩
theorem kv_RX6_78 : lkV RX6 78 yX3_take cX3_take 2 none 1 := ⟨wk315, wk316, wk317, wk23, wk318, ⟨by decide +kernel, by decide +kernel, by decide +kernel⟩⟩
theorem kv_RX6_81 : lkV RX6 81 yX2_dropFirst cX2_dropFirst 2 none 1 := ⟨wk367, wk368, wk369, wk15, wk370, ⟨by decide +kernel, by decide +kernel, by decide +kernel⟩⟩
theorem kv_RX6_84 : lkV RX6 84 yX3_character cX3_character 3 (some .int) 2 := ⟨wk415, wk416, wk417, wk23, wk418, ⟨by decide +kernel, by decide +kernel, by decide +kernel⟩⟩
theorem kv_RX6_87 : lkV RX6 87 yX3_isLocked cX3_isLocked 1 (some .boolean) 0 := ⟨wk450, wk451, wk452, wk23, wk453, ⟨by decide +kernel, by decide +kernel, by decide +kernel⟩⟩
theorem kv_RX6_91 : lkV RX6 91 yX3_hitCount cX3_hitCount 1 (some .int) 0 := ⟨wk454, wk455, wk456, wk23, wk457, ⟨by decide +kernel, by decide +kernel, by decide +kernel⟩⟩
theorem kv_RX6_94 : lkV RX6 94 yX3_slipCount cX3_slipCount 1 (some .int) 0 := ⟨wk458, wk459, wk460, wk23, wk461, ⟨by decide +kernel, by decide +kernel, by decide +kernel⟩⟩
theorem kv_RX6_97 : lkV RX6 97 yX3_bitsOfBlock cX3_bitsOfBlock 1 (some .int) 0 := ⟨wk462, wk463, wk464, wk23, wk465, ⟨by decide +kernel, by decide +kernel, by decide +kernel⟩⟩
theorem kv_RX7_113 : lkV RX7 113 yX7_slip cX7_slip 1 none 0 := ⟨wk386, wk387, wk388, wk5, wk389, ⟨by decide +kernel, by decide +kernel, by decide +kernel⟩⟩
theorem kv_RX7_122 : lkV RX7 122 yX7_tell cX7_tell 2 none 0 := ⟨wk391, wk392, wk393, wk5, wk394, ⟨by decide +kernel, by decide +kernel, by decide +kernel⟩⟩
theorem kv_RX7_125 : lkV RX7 125 yX7_whole cX7_whole 3 none 0 := ⟨wk378, wk379, wk380, wk5, wk381, ⟨by decide +kernel, by decide +kernel, by decide +kernel⟩⟩
theorem kv_RX7_47 : lkV RX7 47 yX7_setBits cX7_setBits 5 none 3 := ⟨wk183, wk184, wk185, wk5, wk186, ⟨by decide +kernel, by decide +kernel, by decide +kernel⟩⟩
theorem kv_RX7_51 : lkV RX7 51 yX7_are cX7_are 6 (some .boolean) 3 := ⟨wk173, wk174, wk175, wk5, wk176, ⟨by decide +kernel, by decide +kernel, by decide +kernel⟩⟩
theorem kv_RX7_55 : lkV RX7 55 yX7_putCode cX7_putCode 3 none 2 := ⟨wk187, wk188, wk189, wk5, wk190, ⟨by decide +kernel, by decide +kernel, by decide +kernel⟩⟩
theorem kv_RX7_63 : lkV RX7 63 yX7_encode cX7_encode 4 none 0 := ⟨wk169, wk170, wk171, wk5, wk172, ⟨by decide +kernel, by decide +kernel, by decide +kernel⟩⟩
theorem kv_RX7_66 : lkV RX7 66 yX7_mixed cX7_mixed 3 (some .int) 2 := ⟨wk194, wk195, wk196, wk5, wk197, ⟨by decide +kernel, by decide +kernel, by decide +kernel⟩⟩
theorem kv_RX7_70 : lkV RX7 70 yX7_remember cX7_remember 4 none 2 := ⟨wk198, wk199, wk200, wk5, wk201, ⟨by decide +kernel, by decide +kernel, by decide +kernel⟩⟩
theorem kv_RX7_76 : lkV RX7 76 yX7_send cX7_send 3 none 0 := ⟨wk165, wk166, wk167, wk5, wk168, ⟨by decide +kernel, by decide +kernel, by decide +kernel⟩⟩
theorem kv_RX7_79 : lkV RX7 79 yX7_put cX7_put 2 (some .int) 1 := ⟨wk215, wk160, wk161, wk5, wk162, ⟨by decide +kernel, by decide +kernel, by decide +kernel⟩⟩
theorem kv_RX7_82 : lkV RX7 82 yX7_get cX7_get 5 (some .int) 2 := ⟨wk399, wk400, wk401, wk5, wk402, ⟨by decide +kernel, by decide +kernel, by decide +kernel⟩⟩
theorem kv_RX7_85 : lkV RX7 85 yX7_codeAt cX7_codeAt 2 (some .int) 1 := ⟨wk403, wk404, wk405, wk5, wk406, ⟨by decide +kernel, by decide +kernel, by decide +kernel⟩⟩
theorem kv_RX7_88 : lkV RX7 88 yX7_endOf cX7_endOf 4 (some .int) 1 := ⟨wk407, wk408, wk409, wk5, wk410, ⟨by decide +kernel, by decide +kernel, by decide +kernel⟩⟩
theorem kv_RX7_94 : lkV RX7 94 yX7_character cX7_character 4 (some .int) 1 := ⟨wk395, wk396, wk397, wk5, wk398, ⟨by decide +kernel, by decide +kernel, by decide +kernel⟩⟩
