theorem ab_mem {q : ab_P} {w : Cond} (h : (ab_tb q.1)[q.2]? = some w) (hg : goodWord w = true) : w ∈ ab_BIG := List.mem_filter.mpr ⟨ab_tb_in (List.mem_of_getElem? h), hg⟩
theorem ab_cw0 : Cond.code yX0_init cX0_init 1 none ∈ ab_BIG := ab_mem (q := (1, 237)) rfl rfl
theorem ab_cw1 : Cond.code yX0_split cX0_split 4 none ∈ ab_BIG := ab_mem (q := (3, 197)) rfl rfl
theorem ab_cw2 : Cond.code yX0_firstAtStart cX0_firstAtStart 4 (some .int) ∈ ab_BIG := ab_mem (q := (3, 201)) rfl rfl
theorem ab_cw3 : Cond.code yX0_isHopeful cX0_isHopeful 4 (some .boolean) ∈ ab_BIG := ab_mem (q := (3, 205)) rfl rfl
theorem ab_cw4 : Cond.code yX0_splitOnce cX0_splitOnce 5 (some .boolean) ∈ ab_BIG := ab_mem (q := (3, 210)) rfl rfl
theorem ab_cw5 : Cond.code yX0_areOperandsAlike cX0_areOperandsAlike 6 (some .boolean) ∈ ab_BIG := ab_mem (q := (3, 214)) rfl rfl
theorem ab_cw6 : Cond.code yX0_isAlike cX0_isAlike 6 (some .boolean) ∈ ab_BIG := ab_mem (q := (3, 218)) rfl rfl
theorem ab_cw7 : Cond.code yX0_countClasses cX0_countClasses 4 (some .int) ∈ ab_BIG := ab_mem (q := (3, 223)) rfl rfl
theorem ab_cw8 : Cond.code yX0_greatestClass cX0_greatestClass 4 (some .int) ∈ ab_BIG := ab_mem (q := (3, 227)) rfl rfl
theorem ab_cw9 : Cond.code yX0_sizeOf cX0_sizeOf 5 (some .int) ∈ ab_BIG := ab_mem (q := (3, 231)) rfl rfl
theorem ab_cw10 : Cond.code yX0_leaderOf cX0_leaderOf 5 (some .int) ∈ ab_BIG := ab_mem (q := (4, 11)) rfl rfl
theorem ab_cw11 : Cond.code yX1_init cX1_init 1 none ∈ ab_BIG := ab_mem (q := (2, 15)) rfl rfl
theorem ab_cw12 : Cond.code yX1_find cX1_find 3 none ∈ ab_BIG := ab_mem (q := (4, 20)) rfl rfl
theorem ab_cw13 : Cond.code yX1_nameOf cX1_nameOf 2 (some .int) ∈ ab_BIG := ab_mem (q := (4, 34)) rfl rfl
theorem ab_cw14 : Cond.code yX1_numberOf cX1_numberOf 2 (some .long) ∈ ab_BIG := ab_mem (q := (4, 71)) rfl rfl
theorem ab_cw15 : Cond.code yX1_isName cX1_isName 2 (some .boolean) ∈ ab_BIG := ab_mem (q := (4, 37)) rfl rfl
theorem ab_cw16 : Cond.code yX1_codeOf cX1_codeOf 3 (some .long) ∈ ab_BIG := ab_mem (q := (4, 25)) rfl rfl
theorem ab_cw17 : Cond.code yX1_codeOfNeg cX1_codeOfNeg 5 (some .long) ∈ ab_BIG := ab_mem (q := (4, 53)) rfl rfl
theorem ab_cw18 : Cond.code yX1_codeOfPair cX1_codeOfPair 9 (some .long) ∈ ab_BIG := ab_mem (q := (4, 62)) rfl rfl
theorem ab_cw19 : Cond.code yX1_codeOfPhi cX1_codeOfPhi 6 (some .long) ∈ ab_BIG := ab_mem (q := (4, 58)) rfl rfl
theorem ab_cw20 : Cond.code yX1_earlier cX1_earlier 4 (some .long) ∈ ab_BIG := ab_mem (q := (4, 30)) rfl rfl
theorem ab_cw21 : Cond.code yX1_isSame cX1_isSame 6 (some .boolean) ∈ ab_BIG := ab_mem (q := (4, 41)) rfl rfl
theorem ab_cw22 : Cond.code yX1_isSameOperand cX1_isSameOperand 6 (some .boolean) ∈ ab_BIG := ab_mem (q := (4, 49)) rfl rfl
theorem ab_cw23 : Cond.code yX2_init cX2_init 1 none ∈ ab_BIG := ab_mem (q := (1, 192)) rfl rfl
theorem ab_cw24 : Cond.code yX2_forget cX2_forget 1 none ∈ ab_BIG := ab_mem (q := (3, 72)) rfl rfl
theorem ab_cw25 : Cond.code yX2_give cX2_give 5 none ∈ ab_BIG := ab_mem (q := (3, 144)) rfl rfl
theorem ab_cw26 : Cond.code yX2_giveBySeed cX2_giveBySeed 4 (some .int) ∈ ab_BIG := ab_mem (q := (4, 118)) rfl rfl
theorem ab_cw27 : Cond.code yX2_watch cX2_watch 3 none ∈ ab_BIG := ab_mem (q := (4, 114)) rfl rfl
theorem ab_cw28 : Cond.code yX2_go cX2_go 5 (some .long) ∈ ab_BIG := ab_mem (q := (3, 148)) rfl rfl
theorem ab_cw29 : Cond.code yX2_nextBlock cX2_nextBlock 5 (some .int) ∈ ab_BIG := ab_mem (q := (3, 179)) rfl rfl
theorem ab_cw30 : Cond.code yX2_pass cX2_pass 6 none ∈ ab_BIG := ab_mem (q := (3, 154)) rfl rfl
theorem ab_cw31 : Cond.code yX2_passPhis cX2_passPhis 7 none ∈ ab_BIG := ab_mem (q := (3, 162)) rfl rfl
theorem ab_cw32 : Cond.code yX2_bringOf cX2_bringOf 5 (some .long) ∈ ab_BIG := ab_mem (q := (3, 170)) rfl rfl
theorem ab_cw33 : Cond.code yX2_compare cX2_compare 1 none ∈ ab_BIG := ab_mem (q := (3, 166)) rfl rfl
theorem ab_cw34 : Cond.code yX3_init cX3_init 1 none ∈ ab_BIG := ab_mem (q := (1, 52)) rfl rfl
theorem ab_cw35 : Cond.code yX3_clear cX3_clear 1 none ∈ ab_BIG := ab_mem (q := (2, 187)) rfl rfl
theorem ab_cw36 : Cond.code yX3_openBlock cX3_openBlock 1 (some .boolean) ∈ ab_BIG := ab_mem (q := (2, 203)) rfl rfl
theorem ab_cw37 : Cond.code yX3_openName cX3_openName 2 (some .boolean) ∈ ab_BIG := ab_mem (q := (2, 215)) rfl rfl
theorem ab_cw38 : Cond.code yX3_putFigure cX3_putFigure 2 none ∈ ab_BIG := ab_mem (q := (2, 230)) rfl rfl
theorem ab_cw39 : Cond.code yX3_putOperand cX3_putOperand 3 none ∈ ab_BIG := ab_mem (q := (2, 238)) rfl rfl
theorem ab_cw40 : Cond.code yX3_putEnd cX3_putEnd 2 none ∈ ab_BIG := ab_mem (q := (3, 6)) rfl rfl
theorem ab_cw41 : Cond.code yX3_putAsked cX3_putAsked 2 none ∈ ab_BIG := ab_mem (q := (3, 10)) rfl rfl
theorem ab_cw42 : Cond.code yX3_putGoal cX3_putGoal 2 none ∈ ab_BIG := ab_mem (q := (3, 14)) rfl rfl
theorem ab_cw43 : Cond.code yX3_putOther cX3_putOther 2 none ∈ ab_BIG := ab_mem (q := (3, 18)) rfl rfl
theorem ab_cw44 : Cond.code yX3_copyFrom cX3_copyFrom 3 none ∈ ab_BIG := ab_mem (q := (3, 65)) rfl rfl
theorem ab_cw45 : Cond.code yX3_hasBlock cX3_hasBlock 2 (some .boolean) ∈ ab_BIG := ab_mem (q := (3, 96)) rfl rfl
theorem ab_cw46 : Cond.code yX3_hasName cX3_hasName 2 (some .boolean) ∈ ab_BIG := ab_mem (q := (3, 49)) rfl rfl
theorem ab_cw47 : Cond.code yX3_hasOperand cX3_hasOperand 3 (some .boolean) ∈ ab_BIG := ab_mem (q := (3, 131)) rfl rfl
theorem ab_cw48 : Cond.code yX3_hasFigure cX3_hasFigure 2 (some .boolean) ∈ ab_BIG := ab_mem (q := (3, 119)) rfl rfl
theorem ab_cw49 : Cond.code yX3_successors cX3_successors 2 (some .int) ∈ ab_BIG := ab_mem (q := (3, 26)) rfl rfl
theorem ab_cw50 : Cond.code yX3_reachOutside cX3_reachOutside 5 (some .int) ∈ ab_BIG := ab_mem (q := (3, 30)) rfl rfl
theorem ab_cw51 : Cond.code yX3_findDominators cX3_findDominators 4 none ∈ ab_BIG := ab_mem (q := (3, 41)) rfl rfl
theorem ab_cw52 : Cond.code yX3_findPreds cX3_findPreds 3 none ∈ ab_BIG := ab_mem (q := (3, 37)) rfl rfl
theorem ab_cw53 : Cond.code yX3_nearestDominator cX3_nearestDominator 6 (some .int) ∈ ab_BIG := ab_mem (q := (3, 100)) rfl rfl
theorem ab_cw54 : Cond.code yX3_routeFrom cX3_routeFrom 4 (some .int) ∈ ab_BIG := ab_mem (q := (3, 158)) rfl rfl
theorem ab_cw55 : Cond.code yX3_isSeen cX3_isSeen 3 (some .boolean) ∈ ab_BIG := ab_mem (q := (3, 57)) rfl rfl
theorem ab_cw56 : Cond.code yX3_isSeenAtEnd cX3_isSeenAtEnd 3 (some .boolean) ∈ ab_BIG := ab_mem (q := (3, 61)) rfl rfl
theorem ab_cw57 : Cond.code yX3_isSeenByOperand cX3_isSeenByOperand 5 (some .boolean) ∈ ab_BIG := ab_mem (q := (3, 53)) rfl rfl
theorem ab_cw58 : Cond.code yX3_isSound cX3_isSound 3 (some .boolean) ∈ ab_BIG := ab_mem (q := (3, 22)) rfl rfl
theorem ab_cw59 : Cond.code yX3_areOperandsSound cX3_areOperandsSound 4 (some .boolean) ∈ ab_BIG := ab_mem (q := (3, 45)) rfl rfl
theorem ab_cw60 : Cond.code yX3_looksBehind cX3_looksBehind 3 (some .boolean) ∈ ab_BIG := ab_mem (q := (4, 45)) rfl rfl
theorem ab_cw61 : Cond.code yX3_countKind cX3_countKind 4 (some .int) ∈ ab_BIG := ab_mem (q := (3, 84)) rfl rfl
theorem ab_cw62 : Cond.code yX3_countOperands cX3_countOperands 3 (some .int) ∈ ab_BIG := ab_mem (q := (3, 88)) rfl rfl
theorem ab_cw63 : Cond.code yX3_countUses cX3_countUses 5 (some .int) ∈ ab_BIG := ab_mem (q := (3, 123)) rfl rfl
theorem ab_cw64 : Cond.code yX3_sumOfNumbers cX3_sumOfNumbers 3 (some .int) ∈ ab_BIG := ab_mem (q := (4, 180)) rfl rfl
theorem ab_cw65 : Cond.code yX3_exchange cX3_exchange 6 (some .int) ∈ ab_BIG := ab_mem (q := (4, 80)) rfl rfl
theorem ab_cw66 : Cond.code yX3_dropUnneeded cX3_dropUnneeded 3 (some .int) ∈ ab_BIG := ab_mem (q := (4, 88)) rfl rfl
theorem ab_cw67 : Cond.code yX3_findNeeded cX3_findNeeded 3 none ∈ ab_BIG := ab_mem (q := (4, 92)) rfl rfl
theorem ab_cw68 : Cond.code yX3_markOperands cX3_markOperands 3 none ∈ ab_BIG := ab_mem (q := (4, 96)) rfl rfl
theorem ab_cw69 : Cond.code yX4_init cX4_init 1 none ∈ ab_BIG := ab_mem (q := (1, 29)) rfl rfl
theorem ab_cw70 : Cond.code yX4_readText cX4_readText 3 (some .boolean) ∈ ab_BIG := ab_mem (q := (2, 95)) rfl rfl
theorem ab_cw71 : Cond.code yX4_refuse cX4_refuse 2 (some .boolean) ∈ ab_BIG := ab_mem (q := (2, 199)) rfl rfl
theorem ab_cw72 : Cond.code yX4_readLine cX4_readLine 1 (some .boolean) ∈ ab_BIG := ab_mem (q := (2, 191)) rfl rfl
theorem ab_cw73 : Cond.code yX4_readHead cX4_readHead 1 (some .boolean) ∈ ab_BIG := ab_mem (q := (2, 195)) rfl rfl
theorem ab_cw74 : Cond.code yX4_readName cX4_readName 3 (some .boolean) ∈ ab_BIG := ab_mem (q := (2, 211)) rfl rfl
theorem ab_cw75 : Cond.code yX4_readFigure cX4_readFigure 2 (some .boolean) ∈ ab_BIG := ab_mem (q := (2, 219)) rfl rfl
theorem ab_cw76 : Cond.code yX4_readOperands cX4_readOperands 5 (some .boolean) ∈ ab_BIG := ab_mem (q := (2, 234)) rfl rfl
theorem ab_cw77 : Cond.code yX4_readEnd cX4_readEnd 2 (some .boolean) ∈ ab_BIG := ab_mem (q := (3, 2)) rfl rfl
theorem ab_cw78 : Cond.code yX4_takeSemicolon cX4_takeSemicolon 1 (some .boolean) ∈ ab_BIG := ab_mem (q := (2, 207)) rfl rfl
theorem ab_cw79 : Cond.code yX4_takeNumber cX4_takeNumber 3 (some .boolean) ∈ ab_BIG := ab_mem (q := (2, 226)) rfl rfl
theorem ab_cw80 : Cond.code yX4_scan cX4_scan 3 none ∈ ab_BIG := ab_mem (q := (2, 99)) rfl rfl
theorem ab_cw81 : Cond.code yX4_scanToken cX4_scanToken 2 (some .int) ∈ ab_BIG := ab_mem (q := (2, 111)) rfl rfl
theorem ab_cw82 : Cond.code yX4_skip cX4_skip 4 none ∈ ab_BIG := ab_mem (q := (2, 103)) rfl rfl
theorem ab_cw83 : Cond.code yX4_figureFrom cX4_figureFrom 4 (some .int) ∈ ab_BIG := ab_mem (q := (2, 183)) rfl rfl
theorem ab_cw84 : Cond.code yX4_wordFrom cX4_wordFrom 2 (some .int) ∈ ab_BIG := ab_mem (q := (2, 115)) rfl rfl
theorem ab_cw85 : Cond.code yX4_isWord cX4_isWord 4 (some .boolean) ∈ ab_BIG := ab_mem (q := (2, 120)) rfl rfl
theorem ab_cw86 : Cond.code yX5_init cX5_init 2 none ∈ ab_BIG := ab_mem (q := (2, 25)) rfl rfl
theorem ab_cw87 : Cond.code yX5_renew cX5_renew 5 none ∈ ab_BIG := ab_mem (q := (4, 135)) rfl rfl
theorem ab_cw88 : Cond.code yX5_faultAt cX5_faultAt 3 (some .int) ∈ ab_BIG := ab_mem (q := (4, 143)) rfl rfl
theorem ab_cw89 : Cond.code yX5_faultOfFour cX5_faultOfFour 5 (some .int) ∈ ab_BIG := ab_mem (q := (4, 155)) rfl rfl
theorem ab_cw90 : Cond.code yX5_write cX5_write 4 none ∈ ab_BIG := ab_mem (q := (4, 147)) rfl rfl
theorem ab_cw91 : Cond.code yX5_cellAt cX5_cellAt 3 (some .int) ∈ ab_BIG := ab_mem (q := (4, 164)) rfl rfl
theorem ab_cw92 : Cond.code yX6_init cX6_init 1 none ∈ ab_BIG := ab_mem (q := (1, 35)) rfl rfl
theorem ab_cw93 : Cond.code yX6_push cX6_push 2 (some .boolean) ∈ ab_BIG := ab_mem (q := (2, 83)) rfl rfl
theorem ab_cw94 : Cond.code yX6_has cX6_has 4 (some .boolean) ∈ ab_BIG := ab_mem (q := (2, 107)) rfl rfl
theorem ab_cw95 : Cond.code yX7_init cX7_init 2 none ∈ ab_BIG := ab_mem (q := (1, 21)) rfl rfl
theorem ab_cw96 : Cond.code yX7_feed cX7_feed 2 (some .int) ∈ ab_BIG := ab_mem (q := (2, 79)) rfl rfl
theorem ab_cw97 : Cond.code yX7_end cX7_end 3 (some .int) ∈ ab_BIG := ab_mem (q := (2, 87)) rfl rfl
theorem ab_cw98 : Cond.code yX7_text cX7_text 3 (some .int) ∈ ab_BIG := ab_mem (q := (2, 91)) rfl rfl
theorem ab_cw99 : Cond.code yX7_fault cX7_fault 1 (some .int) ∈ ab_BIG := ab_mem (q := (3, 76)) rfl rfl
theorem ab_cw100 : Cond.code yX7_rule cX7_rule 2 (some .int) ∈ ab_BIG := ab_mem (q := (3, 80)) rfl rfl
theorem ab_cw101 : Cond.code yX7_block cX7_block 3 (some .int) ∈ ab_BIG := ab_mem (q := (3, 92)) rfl rfl
theorem ab_cw102 : Cond.code yX7_pred cX7_pred 3 (some .int) ∈ ab_BIG := ab_mem (q := (3, 110)) rfl rfl
theorem ab_cw103 : Cond.code yX7_name cX7_name 3 (some .int) ∈ ab_BIG := ab_mem (q := (3, 114)) rfl rfl
theorem ab_cw104 : Cond.code yX7_operand cX7_operand 3 (some .int) ∈ ab_BIG := ab_mem (q := (3, 127)) rfl rfl
theorem ab_cw105 : Cond.code yX7_seen cX7_seen 3 (some .int) ∈ ab_BIG := ab_mem (q := (3, 135)) rfl rfl
theorem ab_cw106 : Cond.code yX7_run cX7_run 5 (some .long) ∈ ab_BIG := ab_mem (q := (3, 140)) rfl rfl
theorem ab_cw107 : Cond.code yX7_value cX7_value 2 (some .long) ∈ ab_BIG := ab_mem (q := (3, 183)) rfl rfl
theorem ab_cw108 : Cond.code yX7_went cX7_went 2 (some .int) ∈ ab_BIG := ab_mem (q := (3, 189)) rfl rfl
theorem ab_cw109 : Cond.code yX7_classes cX7_classes 2 (some .int) ∈ ab_BIG := ab_mem (q := (3, 193)) rfl rfl
theorem ab_cw110 : Cond.code yX7_part cX7_part 2 (some .int) ∈ ab_BIG := ab_mem (q := (3, 238)) rfl rfl
theorem ab_cw111 : Cond.code yX7_partAt cX7_partAt 3 (some .int) ∈ ab_BIG := ab_mem (q := (4, 2)) rfl rfl
theorem ab_cw112 : Cond.code yX7_leader cX7_leader 2 (some .int) ∈ ab_BIG := ab_mem (q := (4, 7)) rfl rfl
theorem ab_cw113 : Cond.code yX7_form cX7_form 2 (some .int) ∈ ab_BIG := ab_mem (q := (4, 16)) rfl rfl
theorem ab_cw114 : Cond.code yX7_number cX7_number 2 (some .long) ∈ ab_BIG := ab_mem (q := (4, 67)) rfl rfl
theorem ab_cw115 : Cond.code yX7_replace cX7_replace 2 (some .int) ∈ ab_BIG := ab_mem (q := (4, 76)) rfl rfl
theorem ab_cw116 : Cond.code yX7_sweep cX7_sweep 1 (some .int) ∈ ab_BIG := ab_mem (q := (4, 84)) rfl rfl
theorem ab_cw117 : Cond.code yX7_set cX7_set 5 (some .int) ∈ ab_BIG := ab_mem (q := (4, 100)) rfl rfl
theorem ab_cw118 : Cond.code yX7_alter cX7_alter 4 (some .int) ∈ ab_BIG := ab_mem (q := (4, 105)) rfl rfl
theorem ab_cw119 : Cond.code yX7_agree cX7_agree 9 (some .int) ∈ ab_BIG := ab_mem (q := (4, 110)) rfl rfl
theorem ab_cw120 : Cond.code yX7_keep cX7_keep 3 (some .int) ∈ ab_BIG := ab_mem (q := (4, 123)) rfl rfl
theorem ab_cw121 : Cond.code yX7_back cX7_back 2 (some .int) ∈ ab_BIG := ab_mem (q := (4, 127)) rfl rfl
theorem ab_cw122 : Cond.code yX7_sheet cX7_sheet 4 (some .int) ∈ ab_BIG := ab_mem (q := (4, 131)) rfl rfl
theorem ab_cw123 : Cond.code yX7_lay cX7_lay 5 (some .int) ∈ ab_BIG := ab_mem (q := (4, 139)) rfl rfl
theorem ab_cw124 : Cond.code yX7_read cX7_read 6 (some .int) ∈ ab_BIG := ab_mem (q := (4, 151)) rfl rfl
theorem ab_cw125 : Cond.code yX7_torn cX7_torn 1 (some .int) ∈ ab_BIG := ab_mem (q := (4, 168)) rfl rfl
theorem ab_cw126 : Cond.code yX7_count cX7_count 2 (some .int) ∈ ab_BIG := ab_mem (q := (4, 172)) rfl rfl
theorem ab_cw127 : Cond.code yX7_countImages cX7_countImages 3 (some .int) ∈ ab_BIG := ab_mem (q := (4, 176)) rfl rfl
theorem ab_cw128 : Cond.code yX7_giveCells cX7_giveCells 4 none ∈ ab_BIG := ab_mem (q := (4, 160)) rfl rfl
theorem ab_cw129 : Cond.code yX7_highestFigure cX7_highestFigure 1 (some .int) ∈ ab_BIG := ab_mem (q := (2, 222)) rfl rfl
theorem ab_cw130 : Cond.code yX7_hasBit cX7_hasBit 2 (some .boolean) ∈ ab_BIG := ab_mem (q := (3, 33)) rfl rfl
theorem ab_cw131 : Cond.code yX7_bring cX7_bring 6 (some .long) ∈ ab_BIG := ab_mem (q := (3, 174)) rfl rfl
theorem ab_cw132 : Cond.code yX8_init cX8_init 1 none ∈ ab_BIG := ab_mem (q := (4, 185)) rfl rfl
theorem ab_cw133 : Cond.code yX8_in cX8_in 6 (some .boolean) ∈ ab_BIG := ab_mem (q := (5, 63)) rfl rfl
theorem ab_cw134 : Cond.code yX8_feed cX8_feed 2 (some .int) ∈ ab_BIG := ab_mem (q := (5, 59)) rfl rfl
theorem ab_cw135 : Cond.code yX8_end cX8_end 3 (some .int) ∈ ab_BIG := ab_mem (q := (5, 67)) rfl rfl
theorem ab_cw136 : Cond.code yX8_byteAt cX8_byteAt 2 (some .int) ∈ ab_BIG := ab_mem (q := (5, 79)) rfl rfl
theorem ab_cw137 : Cond.code yX8_fails cX8_fails 2 none ∈ ab_BIG := ab_mem (q := (5, 87)) rfl rfl
theorem ab_cw138 : Cond.code yX8_nameHere cX8_nameHere 4 (some .int) ∈ ab_BIG := ab_mem (q := (5, 95)) rfl rfl
theorem ab_cw139 : Cond.code yX8_readsOn cX8_readsOn 2 none ∈ ab_BIG := ab_mem (q := (5, 75)) rfl rfl
theorem ab_cw140 : Cond.code yX8_numberRead cX8_numberRead 4 (some .int) ∈ ab_BIG := ab_mem (q := (5, 108)) rfl rfl
theorem ab_cw141 : Cond.code yX8_endsLine cX8_endsLine 1 none ∈ ab_BIG := ab_mem (q := (5, 99)) rfl rfl
theorem ab_cw142 : Cond.code yX8_operandsOf cX8_operandsOf 1 (some .int) ∈ ab_BIG := ab_mem (q := (5, 111)) rfl rfl
theorem ab_cw143 : Cond.code yX8_readName cX8_readName 6 none ∈ ab_BIG := ab_mem (q := (5, 104)) rfl rfl
theorem ab_cw144 : Cond.code yX8_readEnd cX8_readEnd 3 none ∈ ab_BIG := ab_mem (q := (5, 117)) rfl rfl
theorem ab_cw145 : Cond.code yX8_readBlock cX8_readBlock 4 none ∈ ab_BIG := ab_mem (q := (5, 91)) rfl rfl
theorem ab_cw146 : Cond.code yX8_text cX8_text 1 (some .int) ∈ ab_BIG := ab_mem (q := (5, 71)) rfl rfl
theorem ab_cw147 : Cond.code yX8_fault cX8_fault 1 (some .int) ∈ ab_BIG := ab_mem (q := (5, 161)) rfl rfl
theorem ab_cw148 : Cond.code yX8_copies cX8_copies 4 none ∈ ab_BIG := ab_mem (q := (5, 157)) rfl rfl
theorem ab_cw149 : Cond.code yX8_comesOn cX8_comesOn 6 (some .int) ∈ ab_BIG := ab_mem (q := (5, 133)) rfl rfl
theorem ab_cw150 : Cond.code yX8_shapesOn cX8_shapesOn 5 none ∈ ab_BIG := ab_mem (q := (5, 129)) rfl rfl
theorem ab_cw151 : Cond.code yX8_isOver cX8_isOver 3 (some .boolean) ∈ ab_BIG := ab_mem (q := (5, 149)) rfl rfl
theorem ab_cw152 : Cond.code yX8_isSeenOn cX8_isSeenOn 6 (some .boolean) ∈ ab_BIG := ab_mem (q := (5, 153)) rfl rfl
theorem ab_cw153 : Cond.code yX8_isSeenAtEnd cX8_isSeenAtEnd 4 (some .boolean) ∈ ab_BIG := ab_mem (q := (5, 145)) rfl rfl
theorem ab_cw154 : Cond.code yX8_isSeenAsOperand cX8_isSeenAsOperand 5 (some .boolean) ∈ ab_BIG := ab_mem (q := (5, 141)) rfl rfl
theorem ab_cw155 : Cond.code yX8_isBlockWhole cX8_isBlockWhole 4 (some .boolean) ∈ ab_BIG := ab_mem (q := (5, 125)) rfl rfl
theorem ab_cw156 : Cond.code yX8_isNameWhole cX8_isNameWhole 5 (some .boolean) ∈ ab_BIG := ab_mem (q := (5, 137)) rfl rfl
theorem ab_cw157 : Cond.code yX8_isWhole cX8_isWhole 4 (some .boolean) ∈ ab_BIG := ab_mem (q := (5, 121)) rfl rfl
theorem ab_cw158 : Cond.code yX8_isBlock cX8_isBlock 2 (some .boolean) ∈ ab_BIG := ab_mem (q := (5, 181)) rfl rfl
theorem ab_cw159 : Cond.code yX8_isName cX8_isName 2 (some .boolean) ∈ ab_BIG := ab_mem (q := (5, 197)) rfl rfl
theorem ab_cw160 : Cond.code yX8_ofKind cX8_ofKind 4 (some .int) ∈ ab_BIG := ab_mem (q := (5, 169)) rfl rfl
theorem ab_cw161 : Cond.code yX8_uses cX8_uses 6 (some .int) ∈ ab_BIG := ab_mem (q := (5, 173)) rfl rfl
theorem ab_cw162 : Cond.code yX8_rule cX8_rule 2 (some .int) ∈ ab_BIG := ab_mem (q := (5, 165)) rfl rfl
theorem ab_cw163 : Cond.code yX8_nearest cX8_nearest 3 (some .int) ∈ ab_BIG := ab_mem (q := (5, 185)) rfl rfl
theorem ab_cw164 : Cond.code yX8_block cX8_block 3 (some .int) ∈ ab_BIG := ab_mem (q := (5, 177)) rfl rfl
theorem ab_cw165 : Cond.code yX8_pred cX8_pred 3 (some .int) ∈ ab_BIG := ab_mem (q := (5, 189)) rfl rfl
theorem ab_cw166 : Cond.code yX8_name cX8_name 4 (some .int) ∈ ab_BIG := ab_mem (q := (5, 193)) rfl rfl
theorem ab_cw167 : Cond.code yX8_isOperand cX8_isOperand 3 (some .boolean) ∈ ab_BIG := ab_mem (q := (5, 205)) rfl rfl
theorem ab_cw168 : Cond.code yX8_operand cX8_operand 3 (some .int) ∈ ab_BIG := ab_mem (q := (5, 201)) rfl rfl
theorem ab_cw169 : Cond.code yX8_seen cX8_seen 3 (some .int) ∈ ab_BIG := ab_mem (q := (5, 209)) rfl rfl
theorem ab_cw170 : Cond.code yX8_brings cX8_brings 5 (some .long) ∈ ab_BIG := ab_mem (q := (5, 238)) rfl rfl
theorem ab_cw171 : Cond.code yX8_valueOf cX8_valueOf 9 (some .long) ∈ ab_BIG := ab_mem (q := (5, 234)) rfl rfl
theorem ab_cw172 : Cond.code yX8_compares cX8_compares 4 none ∈ ab_BIG := ab_mem (q := (5, 230)) rfl rfl
theorem ab_cw173 : Cond.code yX8_goesThrough cX8_goesThrough 11 none ∈ ab_BIG := ab_mem (q := (5, 226)) rfl rfl
theorem ab_cw174 : Cond.code yX8_goes cX8_goes 9 (some .long) ∈ ab_BIG := ab_mem (q := (5, 221)) rfl rfl
theorem ab_cw175 : Cond.code yX8_runsNow cX8_runsNow 3 (some .long) ∈ ab_BIG := ab_mem (q := (5, 217)) rfl rfl
theorem ab_cw176 : Cond.code yX8_run cX8_run 5 (some .long) ∈ ab_BIG := ab_mem (q := (5, 213)) rfl rfl
theorem ab_cw177 : Cond.code yX8_value cX8_value 2 (some .long) ∈ ab_BIG := ab_mem (q := (6, 2)) rfl rfl
theorem ab_cw178 : Cond.code yX8_went cX8_went 2 (some .int) ∈ ab_BIG := ab_mem (q := (6, 7)) rfl rfl
theorem ab_cw179 : Cond.code yX8_isAlikeFirst cX8_isAlikeFirst 4 (some .boolean) ∈ ab_BIG := ab_mem (q := (6, 20)) rfl rfl
theorem ab_cw180 : Cond.code yX8_isAlikeNext cX8_isAlikeNext 7 (some .boolean) ∈ ab_BIG := ab_mem (q := (6, 28)) rfl rfl
theorem ab_cw181 : Cond.code yX8_splits cX8_splits 4 (some .boolean) ∈ ab_BIG := ab_mem (q := (6, 24)) rfl rfl
theorem ab_cw182 : Cond.code yX8_rounds cX8_rounds 4 (some .int) ∈ ab_BIG := ab_mem (q := (6, 16)) rfl rfl
theorem ab_cw183 : Cond.code yX8_classes cX8_classes 8 (some .int) ∈ ab_BIG := ab_mem (q := (6, 12)) rfl rfl
theorem ab_cw184 : Cond.code yX8_part cX8_part 2 (some .int) ∈ ab_BIG := ab_mem (q := (6, 32)) rfl rfl
theorem ab_cw185 : Cond.code yX8_partAt cX8_partAt 3 (some .int) ∈ ab_BIG := ab_mem (q := (6, 36)) rfl rfl
theorem ab_cw186 : Cond.code yX8_isAmong cX8_isAmong 3 (some .boolean) ∈ ab_BIG := ab_mem (q := (6, 50)) rfl rfl
theorem ab_cw187 : Cond.code yX8_leaderOf cX8_leaderOf 5 (some .int) ∈ ab_BIG := ab_mem (q := (6, 46)) rfl rfl
theorem ab_cw188 : Cond.code yX8_leader cX8_leader 2 (some .int) ∈ ab_BIG := ab_mem (q := (6, 42)) rfl rfl
theorem ab_cw189 : Cond.code yX8_isSameForm cX8_isSameForm 3 (some .boolean) ∈ ab_BIG := ab_mem (q := (6, 90)) rfl rfl
theorem ab_cw190 : Cond.code yX8_isNumber cX8_isNumber 4 (some .boolean) ∈ ab_BIG := ab_mem (q := (6, 98)) rfl rfl
theorem ab_cw191 : Cond.code yX8_becomes cX8_becomes 5 none ∈ ab_BIG := ab_mem (q := (6, 62)) rfl rfl
theorem ab_cw192 : Cond.code yX8_becomesAs cX8_becomesAs 3 none ∈ ab_BIG := ab_mem (q := (6, 74)) rfl rfl
theorem ab_cw193 : Cond.code yX8_operandOf cX8_operandOf 3 (some .int) ∈ ab_BIG := ab_mem (q := (6, 70)) rfl rfl
theorem ab_cw194 : Cond.code yX8_isBehindAll cX8_isBehindAll 4 (some .boolean) ∈ ab_BIG := ab_mem (q := (6, 86)) rfl rfl
theorem ab_cw195 : Cond.code yX8_isOfOne cX8_isOfOne 4 (some .boolean) ∈ ab_BIG := ab_mem (q := (6, 102)) rfl rfl
theorem ab_cw196 : Cond.code yX8_isFormAs cX8_isFormAs 6 (some .boolean) ∈ ab_BIG := ab_mem (q := (6, 82)) rfl rfl
theorem ab_cw197 : Cond.code yX8_becomesFirst cX8_becomesFirst 3 none ∈ ab_BIG := ab_mem (q := (6, 78)) rfl rfl
theorem ab_cw198 : Cond.code yX8_formsNegative cX8_formsNegative 4 none ∈ ab_BIG := ab_mem (q := (6, 66)) rfl rfl
theorem ab_cw199 : Cond.code yX8_formsPair cX8_formsPair 5 none ∈ ab_BIG := ab_mem (q := (6, 94)) rfl rfl
theorem ab_cw200 : Cond.code yX8_forms cX8_forms 3 none ∈ ab_BIG := ab_mem (q := (6, 58)) rfl rfl
theorem ab_cw201 : Cond.code yX8_form cX8_form 2 (some .int) ∈ ab_BIG := ab_mem (q := (6, 54)) rfl rfl
theorem ab_cw202 : Cond.code yX8_number cX8_number 2 (some .long) ∈ ab_BIG := ab_mem (q := (6, 106)) rfl rfl
theorem ab_cw203 : Cond.code yX8_replace cX8_replace 4 (some .int) ∈ ab_BIG := ab_mem (q := (6, 110)) rfl rfl
theorem ab_cw204 : Cond.code yX8_sweep cX8_sweep 5 (some .int) ∈ ab_BIG := ab_mem (q := (6, 114)) rfl rfl
theorem ab_cw205 : Cond.code yX8_set cX8_set 5 (some .int) ∈ ab_BIG := ab_mem (q := (6, 118)) rfl rfl
theorem ab_cw206 : Cond.code yX8_alter cX8_alter 4 (some .int) ∈ ab_BIG := ab_mem (q := (6, 122)) rfl rfl
theorem ab_cw207 : Cond.code yX8_agree cX8_agree 10 (some .int) ∈ ab_BIG := ab_mem (q := (6, 128)) rfl rfl
theorem ab_cw208 : Cond.code yX8_keep cX8_keep 3 (some .int) ∈ ab_BIG := ab_mem (q := (6, 134)) rfl rfl
theorem ab_cw209 : Cond.code yX8_back cX8_back 2 (some .int) ∈ ab_BIG := ab_mem (q := (6, 138)) rfl rfl
theorem ab_cw210 : Cond.code yX8_sheet cX8_sheet 5 (some .int) ∈ ab_BIG := ab_mem (q := (6, 142)) rfl rfl
theorem ab_cw211 : Cond.code yX8_lay cX8_lay 4 (some .int) ∈ ab_BIG := ab_mem (q := (6, 146)) rfl rfl
theorem ab_cw212 : Cond.code yX8_foundAt cX8_foundAt 5 (some .int) ∈ ab_BIG := ab_mem (q := (6, 155)) rfl rfl
theorem ab_cw213 : Cond.code yX8_read cX8_read 10 (some .int) ∈ ab_BIG := ab_mem (q := (6, 150)) rfl rfl
theorem ab_cw214 : Cond.code yX8_torn cX8_torn 1 (some .int) ∈ ab_BIG := ab_mem (q := (6, 159)) rfl rfl
theorem ab_cw215 : Cond.code yX8_count cX8_count 4 (some .int) ∈ ab_BIG := ab_mem (q := (6, 163)) rfl rfl
theorem ab_cw216 : Cond.code yJ6_bitCount_0f7a4 cJ6_bitCount_0f7a4 1 (some .int) ∈ ab_BIG := ab_mem (q := (3, 103)) rfl rfl
theorem ab_CW_0_1 : ∀ mi, 0 ≤ mi → mi < 1 → Cond.code (ab_nm mi) (ab_by mi) (ab_mxl mi) (ab_rt mi) ∈ ab_BIG := fun mi h1 h2 => by
  have e : mi = 0 := by omega
  subst e
  exact ab_cw0
theorem ab_CW_1_2 : ∀ mi, 1 ≤ mi → mi < 2 → Cond.code (ab_nm mi) (ab_by mi) (ab_mxl mi) (ab_rt mi) ∈ ab_BIG := fun mi h1 h2 => by
  have e : mi = 1 := by omega
  subst e
  exact ab_cw1
theorem ab_CW_2_3 : ∀ mi, 2 ≤ mi → mi < 3 → Cond.code (ab_nm mi) (ab_by mi) (ab_mxl mi) (ab_rt mi) ∈ ab_BIG := fun mi h1 h2 => by
  have e : mi = 2 := by omega
  subst e
  exact ab_cw2
theorem ab_CW_1_3 : ∀ mi, 1 ≤ mi → mi < 3 → Cond.code (ab_nm mi) (ab_by mi) (ab_mxl mi) (ab_rt mi) ∈ ab_BIG := fun mi h1 h2 => (Nat.lt_or_ge mi 2).elim (fun h => ab_CW_1_2 mi h1 h) (fun h => ab_CW_2_3 mi h h2)
theorem ab_CW_0_3 : ∀ mi, 0 ≤ mi → mi < 3 → Cond.code (ab_nm mi) (ab_by mi) (ab_mxl mi) (ab_rt mi) ∈ ab_BIG := fun mi h1 h2 => (Nat.lt_or_ge mi 1).elim (fun h => ab_CW_0_1 mi h1 h) (fun h => ab_CW_1_3 mi h h2)
theorem ab_CW_3_4 : ∀ mi, 3 ≤ mi → mi < 4 → Cond.code (ab_nm mi) (ab_by mi) (ab_mxl mi) (ab_rt mi) ∈ ab_BIG := fun mi h1 h2 => by
  have e : mi = 3 := by omega
  subst e
  exact ab_cw3
theorem ab_CW_4_5 : ∀ mi, 4 ≤ mi → mi < 5 → Cond.code (ab_nm mi) (ab_by mi) (ab_mxl mi) (ab_rt mi) ∈ ab_BIG := fun mi h1 h2 => by
  have e : mi = 4 := by omega
  subst e
  exact ab_cw4
theorem ab_CW_5_6 : ∀ mi, 5 ≤ mi → mi < 6 → Cond.code (ab_nm mi) (ab_by mi) (ab_mxl mi) (ab_rt mi) ∈ ab_BIG := fun mi h1 h2 => by
  have e : mi = 5 := by omega
  subst e
  exact ab_cw5
theorem ab_CW_4_6 : ∀ mi, 4 ≤ mi → mi < 6 → Cond.code (ab_nm mi) (ab_by mi) (ab_mxl mi) (ab_rt mi) ∈ ab_BIG := fun mi h1 h2 => (Nat.lt_or_ge mi 5).elim (fun h => ab_CW_4_5 mi h1 h) (fun h => ab_CW_5_6 mi h h2)
theorem ab_CW_3_6 : ∀ mi, 3 ≤ mi → mi < 6 → Cond.code (ab_nm mi) (ab_by mi) (ab_mxl mi) (ab_rt mi) ∈ ab_BIG := fun mi h1 h2 => (Nat.lt_or_ge mi 4).elim (fun h => ab_CW_3_4 mi h1 h) (fun h => ab_CW_4_6 mi h h2)
theorem ab_CW_0_6 : ∀ mi, 0 ≤ mi → mi < 6 → Cond.code (ab_nm mi) (ab_by mi) (ab_mxl mi) (ab_rt mi) ∈ ab_BIG := fun mi h1 h2 => (Nat.lt_or_ge mi 3).elim (fun h => ab_CW_0_3 mi h1 h) (fun h => ab_CW_3_6 mi h h2)
theorem ab_CW_6_7 : ∀ mi, 6 ≤ mi → mi < 7 → Cond.code (ab_nm mi) (ab_by mi) (ab_mxl mi) (ab_rt mi) ∈ ab_BIG := fun mi h1 h2 => by
  have e : mi = 6 := by omega
  subst e
  exact ab_cw6
theorem ab_CW_7_8 : ∀ mi, 7 ≤ mi → mi < 8 → Cond.code (ab_nm mi) (ab_by mi) (ab_mxl mi) (ab_rt mi) ∈ ab_BIG := fun mi h1 h2 => by
  have e : mi = 7 := by omega
  subst e
  exact ab_cw7
theorem ab_CW_8_9 : ∀ mi, 8 ≤ mi → mi < 9 → Cond.code (ab_nm mi) (ab_by mi) (ab_mxl mi) (ab_rt mi) ∈ ab_BIG := fun mi h1 h2 => by
  have e : mi = 8 := by omega
  subst e
  exact ab_cw8
theorem ab_CW_7_9 : ∀ mi, 7 ≤ mi → mi < 9 → Cond.code (ab_nm mi) (ab_by mi) (ab_mxl mi) (ab_rt mi) ∈ ab_BIG := fun mi h1 h2 => (Nat.lt_or_ge mi 8).elim (fun h => ab_CW_7_8 mi h1 h) (fun h => ab_CW_8_9 mi h h2)
theorem ab_CW_6_9 : ∀ mi, 6 ≤ mi → mi < 9 → Cond.code (ab_nm mi) (ab_by mi) (ab_mxl mi) (ab_rt mi) ∈ ab_BIG := fun mi h1 h2 => (Nat.lt_or_ge mi 7).elim (fun h => ab_CW_6_7 mi h1 h) (fun h => ab_CW_7_9 mi h h2)
theorem ab_CW_9_10 : ∀ mi, 9 ≤ mi → mi < 10 → Cond.code (ab_nm mi) (ab_by mi) (ab_mxl mi) (ab_rt mi) ∈ ab_BIG := fun mi h1 h2 => by
  have e : mi = 9 := by omega
  subst e
  exact ab_cw9
theorem ab_CW_10_11 : ∀ mi, 10 ≤ mi → mi < 11 → Cond.code (ab_nm mi) (ab_by mi) (ab_mxl mi) (ab_rt mi) ∈ ab_BIG := fun mi h1 h2 => by
  have e : mi = 10 := by omega
  subst e
  exact ab_cw10
theorem ab_CW_9_11 : ∀ mi, 9 ≤ mi → mi < 11 → Cond.code (ab_nm mi) (ab_by mi) (ab_mxl mi) (ab_rt mi) ∈ ab_BIG := fun mi h1 h2 => (Nat.lt_or_ge mi 10).elim (fun h => ab_CW_9_10 mi h1 h) (fun h => ab_CW_10_11 mi h h2)
theorem ab_CW_11_12 : ∀ mi, 11 ≤ mi → mi < 12 → Cond.code (ab_nm mi) (ab_by mi) (ab_mxl mi) (ab_rt mi) ∈ ab_BIG := fun mi h1 h2 => by
  have e : mi = 11 := by omega
  subst e
  exact ab_cw11
theorem ab_CW_12_13 : ∀ mi, 12 ≤ mi → mi < 13 → Cond.code (ab_nm mi) (ab_by mi) (ab_mxl mi) (ab_rt mi) ∈ ab_BIG := fun mi h1 h2 => by
  have e : mi = 12 := by omega
  subst e
  exact ab_cw12
theorem ab_CW_11_13 : ∀ mi, 11 ≤ mi → mi < 13 → Cond.code (ab_nm mi) (ab_by mi) (ab_mxl mi) (ab_rt mi) ∈ ab_BIG := fun mi h1 h2 => (Nat.lt_or_ge mi 12).elim (fun h => ab_CW_11_12 mi h1 h) (fun h => ab_CW_12_13 mi h h2)
theorem ab_CW_9_13 : ∀ mi, 9 ≤ mi → mi < 13 → Cond.code (ab_nm mi) (ab_by mi) (ab_mxl mi) (ab_rt mi) ∈ ab_BIG := fun mi h1 h2 => (Nat.lt_or_ge mi 11).elim (fun h => ab_CW_9_11 mi h1 h) (fun h => ab_CW_11_13 mi h h2)
theorem ab_CW_6_13 : ∀ mi, 6 ≤ mi → mi < 13 → Cond.code (ab_nm mi) (ab_by mi) (ab_mxl mi) (ab_rt mi) ∈ ab_BIG := fun mi h1 h2 => (Nat.lt_or_ge mi 9).elim (fun h => ab_CW_6_9 mi h1 h) (fun h => ab_CW_9_13 mi h h2)
theorem ab_CW_0_13 : ∀ mi, 0 ≤ mi → mi < 13 → Cond.code (ab_nm mi) (ab_by mi) (ab_mxl mi) (ab_rt mi) ∈ ab_BIG := fun mi h1 h2 => (Nat.lt_or_ge mi 6).elim (fun h => ab_CW_0_6 mi h1 h) (fun h => ab_CW_6_13 mi h h2)
theorem ab_CW_13_14 : ∀ mi, 13 ≤ mi → mi < 14 → Cond.code (ab_nm mi) (ab_by mi) (ab_mxl mi) (ab_rt mi) ∈ ab_BIG := fun mi h1 h2 => by
  have e : mi = 13 := by omega
  subst e
  exact ab_cw13
theorem ab_CW_14_15 : ∀ mi, 14 ≤ mi → mi < 15 → Cond.code (ab_nm mi) (ab_by mi) (ab_mxl mi) (ab_rt mi) ∈ ab_BIG := fun mi h1 h2 => by
  have e : mi = 14 := by omega
  subst e
  exact ab_cw14
theorem ab_CW_15_16 : ∀ mi, 15 ≤ mi → mi < 16 → Cond.code (ab_nm mi) (ab_by mi) (ab_mxl mi) (ab_rt mi) ∈ ab_BIG := fun mi h1 h2 => by
  have e : mi = 15 := by omega
  subst e
  exact ab_cw15
theorem ab_CW_14_16 : ∀ mi, 14 ≤ mi → mi < 16 → Cond.code (ab_nm mi) (ab_by mi) (ab_mxl mi) (ab_rt mi) ∈ ab_BIG := fun mi h1 h2 => (Nat.lt_or_ge mi 15).elim (fun h => ab_CW_14_15 mi h1 h) (fun h => ab_CW_15_16 mi h h2)
theorem ab_CW_13_16 : ∀ mi, 13 ≤ mi → mi < 16 → Cond.code (ab_nm mi) (ab_by mi) (ab_mxl mi) (ab_rt mi) ∈ ab_BIG := fun mi h1 h2 => (Nat.lt_or_ge mi 14).elim (fun h => ab_CW_13_14 mi h1 h) (fun h => ab_CW_14_16 mi h h2)
theorem ab_CW_16_17 : ∀ mi, 16 ≤ mi → mi < 17 → Cond.code (ab_nm mi) (ab_by mi) (ab_mxl mi) (ab_rt mi) ∈ ab_BIG := fun mi h1 h2 => by
  have e : mi = 16 := by omega
  subst e
  exact ab_cw16
theorem ab_CW_17_18 : ∀ mi, 17 ≤ mi → mi < 18 → Cond.code (ab_nm mi) (ab_by mi) (ab_mxl mi) (ab_rt mi) ∈ ab_BIG := fun mi h1 h2 => by
  have e : mi = 17 := by omega
  subst e
  exact ab_cw17
theorem ab_CW_16_18 : ∀ mi, 16 ≤ mi → mi < 18 → Cond.code (ab_nm mi) (ab_by mi) (ab_mxl mi) (ab_rt mi) ∈ ab_BIG := fun mi h1 h2 => (Nat.lt_or_ge mi 17).elim (fun h => ab_CW_16_17 mi h1 h) (fun h => ab_CW_17_18 mi h h2)
theorem ab_CW_18_19 : ∀ mi, 18 ≤ mi → mi < 19 → Cond.code (ab_nm mi) (ab_by mi) (ab_mxl mi) (ab_rt mi) ∈ ab_BIG := fun mi h1 h2 => by
  have e : mi = 18 := by omega
  subst e
  exact ab_cw18
theorem ab_CW_19_20 : ∀ mi, 19 ≤ mi → mi < 20 → Cond.code (ab_nm mi) (ab_by mi) (ab_mxl mi) (ab_rt mi) ∈ ab_BIG := fun mi h1 h2 => by
  have e : mi = 19 := by omega
  subst e
  exact ab_cw19
theorem ab_CW_18_20 : ∀ mi, 18 ≤ mi → mi < 20 → Cond.code (ab_nm mi) (ab_by mi) (ab_mxl mi) (ab_rt mi) ∈ ab_BIG := fun mi h1 h2 => (Nat.lt_or_ge mi 19).elim (fun h => ab_CW_18_19 mi h1 h) (fun h => ab_CW_19_20 mi h h2)
theorem ab_CW_16_20 : ∀ mi, 16 ≤ mi → mi < 20 → Cond.code (ab_nm mi) (ab_by mi) (ab_mxl mi) (ab_rt mi) ∈ ab_BIG := fun mi h1 h2 => (Nat.lt_or_ge mi 18).elim (fun h => ab_CW_16_18 mi h1 h) (fun h => ab_CW_18_20 mi h h2)
theorem ab_CW_13_20 : ∀ mi, 13 ≤ mi → mi < 20 → Cond.code (ab_nm mi) (ab_by mi) (ab_mxl mi) (ab_rt mi) ∈ ab_BIG := fun mi h1 h2 => (Nat.lt_or_ge mi 16).elim (fun h => ab_CW_13_16 mi h1 h) (fun h => ab_CW_16_20 mi h h2)
theorem ab_CW_20_21 : ∀ mi, 20 ≤ mi → mi < 21 → Cond.code (ab_nm mi) (ab_by mi) (ab_mxl mi) (ab_rt mi) ∈ ab_BIG := fun mi h1 h2 => by
  have e : mi = 20 := by omega
  subst e
  exact ab_cw20
theorem ab_CW_21_22 : ∀ mi, 21 ≤ mi → mi < 22 → Cond.code (ab_nm mi) (ab_by mi) (ab_mxl mi) (ab_rt mi) ∈ ab_BIG := fun mi h1 h2 => by
  have e : mi = 21 := by omega
  subst e
  exact ab_cw21
theorem ab_CW_22_23 : ∀ mi, 22 ≤ mi → mi < 23 → Cond.code (ab_nm mi) (ab_by mi) (ab_mxl mi) (ab_rt mi) ∈ ab_BIG := fun mi h1 h2 => by
  have e : mi = 22 := by omega
  subst e
  exact ab_cw22
theorem ab_CW_21_23 : ∀ mi, 21 ≤ mi → mi < 23 → Cond.code (ab_nm mi) (ab_by mi) (ab_mxl mi) (ab_rt mi) ∈ ab_BIG := fun mi h1 h2 => (Nat.lt_or_ge mi 22).elim (fun h => ab_CW_21_22 mi h1 h) (fun h => ab_CW_22_23 mi h h2)
theorem ab_CW_20_23 : ∀ mi, 20 ≤ mi → mi < 23 → Cond.code (ab_nm mi) (ab_by mi) (ab_mxl mi) (ab_rt mi) ∈ ab_BIG := fun mi h1 h2 => (Nat.lt_or_ge mi 21).elim (fun h => ab_CW_20_21 mi h1 h) (fun h => ab_CW_21_23 mi h h2)
theorem ab_CW_23_24 : ∀ mi, 23 ≤ mi → mi < 24 → Cond.code (ab_nm mi) (ab_by mi) (ab_mxl mi) (ab_rt mi) ∈ ab_BIG := fun mi h1 h2 => by
  have e : mi = 23 := by omega
  subst e
  exact ab_cw23
theorem ab_CW_24_25 : ∀ mi, 24 ≤ mi → mi < 25 → Cond.code (ab_nm mi) (ab_by mi) (ab_mxl mi) (ab_rt mi) ∈ ab_BIG := fun mi h1 h2 => by
  have e : mi = 24 := by omega
  subst e
  exact ab_cw24
theorem ab_CW_23_25 : ∀ mi, 23 ≤ mi → mi < 25 → Cond.code (ab_nm mi) (ab_by mi) (ab_mxl mi) (ab_rt mi) ∈ ab_BIG := fun mi h1 h2 => (Nat.lt_or_ge mi 24).elim (fun h => ab_CW_23_24 mi h1 h) (fun h => ab_CW_24_25 mi h h2)
theorem ab_CW_25_26 : ∀ mi, 25 ≤ mi → mi < 26 → Cond.code (ab_nm mi) (ab_by mi) (ab_mxl mi) (ab_rt mi) ∈ ab_BIG := fun mi h1 h2 => by
  have e : mi = 25 := by omega
  subst e
  exact ab_cw25
theorem ab_CW_26_27 : ∀ mi, 26 ≤ mi → mi < 27 → Cond.code (ab_nm mi) (ab_by mi) (ab_mxl mi) (ab_rt mi) ∈ ab_BIG := fun mi h1 h2 => by
  have e : mi = 26 := by omega
  subst e
  exact ab_cw26
theorem ab_CW_25_27 : ∀ mi, 25 ≤ mi → mi < 27 → Cond.code (ab_nm mi) (ab_by mi) (ab_mxl mi) (ab_rt mi) ∈ ab_BIG := fun mi h1 h2 => (Nat.lt_or_ge mi 26).elim (fun h => ab_CW_25_26 mi h1 h) (fun h => ab_CW_26_27 mi h h2)
theorem ab_CW_23_27 : ∀ mi, 23 ≤ mi → mi < 27 → Cond.code (ab_nm mi) (ab_by mi) (ab_mxl mi) (ab_rt mi) ∈ ab_BIG := fun mi h1 h2 => (Nat.lt_or_ge mi 25).elim (fun h => ab_CW_23_25 mi h1 h) (fun h => ab_CW_25_27 mi h h2)
theorem ab_CW_20_27 : ∀ mi, 20 ≤ mi → mi < 27 → Cond.code (ab_nm mi) (ab_by mi) (ab_mxl mi) (ab_rt mi) ∈ ab_BIG := fun mi h1 h2 => (Nat.lt_or_ge mi 23).elim (fun h => ab_CW_20_23 mi h1 h) (fun h => ab_CW_23_27 mi h h2)
theorem ab_CW_13_27 : ∀ mi, 13 ≤ mi → mi < 27 → Cond.code (ab_nm mi) (ab_by mi) (ab_mxl mi) (ab_rt mi) ∈ ab_BIG := fun mi h1 h2 => (Nat.lt_or_ge mi 20).elim (fun h => ab_CW_13_20 mi h1 h) (fun h => ab_CW_20_27 mi h h2)
theorem ab_CW_0_27 : ∀ mi, 0 ≤ mi → mi < 27 → Cond.code (ab_nm mi) (ab_by mi) (ab_mxl mi) (ab_rt mi) ∈ ab_BIG := fun mi h1 h2 => (Nat.lt_or_ge mi 13).elim (fun h => ab_CW_0_13 mi h1 h) (fun h => ab_CW_13_27 mi h h2)
theorem ab_CW_27_28 : ∀ mi, 27 ≤ mi → mi < 28 → Cond.code (ab_nm mi) (ab_by mi) (ab_mxl mi) (ab_rt mi) ∈ ab_BIG := fun mi h1 h2 => by
  have e : mi = 27 := by omega
  subst e
  exact ab_cw27
theorem ab_CW_28_29 : ∀ mi, 28 ≤ mi → mi < 29 → Cond.code (ab_nm mi) (ab_by mi) (ab_mxl mi) (ab_rt mi) ∈ ab_BIG := fun mi h1 h2 => by
  have e : mi = 28 := by omega
  subst e
  exact ab_cw28
theorem ab_CW_29_30 : ∀ mi, 29 ≤ mi → mi < 30 → Cond.code (ab_nm mi) (ab_by mi) (ab_mxl mi) (ab_rt mi) ∈ ab_BIG := fun mi h1 h2 => by
  have e : mi = 29 := by omega
  subst e
  exact ab_cw29
theorem ab_CW_28_30 : ∀ mi, 28 ≤ mi → mi < 30 → Cond.code (ab_nm mi) (ab_by mi) (ab_mxl mi) (ab_rt mi) ∈ ab_BIG := fun mi h1 h2 => (Nat.lt_or_ge mi 29).elim (fun h => ab_CW_28_29 mi h1 h) (fun h => ab_CW_29_30 mi h h2)
theorem ab_CW_27_30 : ∀ mi, 27 ≤ mi → mi < 30 → Cond.code (ab_nm mi) (ab_by mi) (ab_mxl mi) (ab_rt mi) ∈ ab_BIG := fun mi h1 h2 => (Nat.lt_or_ge mi 28).elim (fun h => ab_CW_27_28 mi h1 h) (fun h => ab_CW_28_30 mi h h2)
theorem ab_CW_30_31 : ∀ mi, 30 ≤ mi → mi < 31 → Cond.code (ab_nm mi) (ab_by mi) (ab_mxl mi) (ab_rt mi) ∈ ab_BIG := fun mi h1 h2 => by
  have e : mi = 30 := by omega
  subst e
  exact ab_cw30
theorem ab_CW_31_32 : ∀ mi, 31 ≤ mi → mi < 32 → Cond.code (ab_nm mi) (ab_by mi) (ab_mxl mi) (ab_rt mi) ∈ ab_BIG := fun mi h1 h2 => by
  have e : mi = 31 := by omega
  subst e
  exact ab_cw31
theorem ab_CW_32_33 : ∀ mi, 32 ≤ mi → mi < 33 → Cond.code (ab_nm mi) (ab_by mi) (ab_mxl mi) (ab_rt mi) ∈ ab_BIG := fun mi h1 h2 => by
  have e : mi = 32 := by omega
  subst e
  exact ab_cw32
theorem ab_CW_31_33 : ∀ mi, 31 ≤ mi → mi < 33 → Cond.code (ab_nm mi) (ab_by mi) (ab_mxl mi) (ab_rt mi) ∈ ab_BIG := fun mi h1 h2 => (Nat.lt_or_ge mi 32).elim (fun h => ab_CW_31_32 mi h1 h) (fun h => ab_CW_32_33 mi h h2)
theorem ab_CW_30_33 : ∀ mi, 30 ≤ mi → mi < 33 → Cond.code (ab_nm mi) (ab_by mi) (ab_mxl mi) (ab_rt mi) ∈ ab_BIG := fun mi h1 h2 => (Nat.lt_or_ge mi 31).elim (fun h => ab_CW_30_31 mi h1 h) (fun h => ab_CW_31_33 mi h h2)
theorem ab_CW_27_33 : ∀ mi, 27 ≤ mi → mi < 33 → Cond.code (ab_nm mi) (ab_by mi) (ab_mxl mi) (ab_rt mi) ∈ ab_BIG := fun mi h1 h2 => (Nat.lt_or_ge mi 30).elim (fun h => ab_CW_27_30 mi h1 h) (fun h => ab_CW_30_33 mi h h2)
theorem ab_CW_33_34 : ∀ mi, 33 ≤ mi → mi < 34 → Cond.code (ab_nm mi) (ab_by mi) (ab_mxl mi) (ab_rt mi) ∈ ab_BIG := fun mi h1 h2 => by
  have e : mi = 33 := by omega
  subst e
  exact ab_cw33
theorem ab_CW_34_35 : ∀ mi, 34 ≤ mi → mi < 35 → Cond.code (ab_nm mi) (ab_by mi) (ab_mxl mi) (ab_rt mi) ∈ ab_BIG := fun mi h1 h2 => by
  have e : mi = 34 := by omega
  subst e
  exact ab_cw34
theorem ab_CW_35_36 : ∀ mi, 35 ≤ mi → mi < 36 → Cond.code (ab_nm mi) (ab_by mi) (ab_mxl mi) (ab_rt mi) ∈ ab_BIG := fun mi h1 h2 => by
  have e : mi = 35 := by omega
  subst e
  exact ab_cw35
theorem ab_CW_34_36 : ∀ mi, 34 ≤ mi → mi < 36 → Cond.code (ab_nm mi) (ab_by mi) (ab_mxl mi) (ab_rt mi) ∈ ab_BIG := fun mi h1 h2 => (Nat.lt_or_ge mi 35).elim (fun h => ab_CW_34_35 mi h1 h) (fun h => ab_CW_35_36 mi h h2)
theorem ab_CW_33_36 : ∀ mi, 33 ≤ mi → mi < 36 → Cond.code (ab_nm mi) (ab_by mi) (ab_mxl mi) (ab_rt mi) ∈ ab_BIG := fun mi h1 h2 => (Nat.lt_or_ge mi 34).elim (fun h => ab_CW_33_34 mi h1 h) (fun h => ab_CW_34_36 mi h h2)
theorem ab_CW_36_37 : ∀ mi, 36 ≤ mi → mi < 37 → Cond.code (ab_nm mi) (ab_by mi) (ab_mxl mi) (ab_rt mi) ∈ ab_BIG := fun mi h1 h2 => by
  have e : mi = 36 := by omega
  subst e
  exact ab_cw36
theorem ab_CW_37_38 : ∀ mi, 37 ≤ mi → mi < 38 → Cond.code (ab_nm mi) (ab_by mi) (ab_mxl mi) (ab_rt mi) ∈ ab_BIG := fun mi h1 h2 => by
  have e : mi = 37 := by omega
  subst e
  exact ab_cw37
theorem ab_CW_36_38 : ∀ mi, 36 ≤ mi → mi < 38 → Cond.code (ab_nm mi) (ab_by mi) (ab_mxl mi) (ab_rt mi) ∈ ab_BIG := fun mi h1 h2 => (Nat.lt_or_ge mi 37).elim (fun h => ab_CW_36_37 mi h1 h) (fun h => ab_CW_37_38 mi h h2)
theorem ab_CW_38_39 : ∀ mi, 38 ≤ mi → mi < 39 → Cond.code (ab_nm mi) (ab_by mi) (ab_mxl mi) (ab_rt mi) ∈ ab_BIG := fun mi h1 h2 => by
  have e : mi = 38 := by omega
  subst e
  exact ab_cw38
theorem ab_CW_39_40 : ∀ mi, 39 ≤ mi → mi < 40 → Cond.code (ab_nm mi) (ab_by mi) (ab_mxl mi) (ab_rt mi) ∈ ab_BIG := fun mi h1 h2 => by
  have e : mi = 39 := by omega
  subst e
  exact ab_cw39
theorem ab_CW_38_40 : ∀ mi, 38 ≤ mi → mi < 40 → Cond.code (ab_nm mi) (ab_by mi) (ab_mxl mi) (ab_rt mi) ∈ ab_BIG := fun mi h1 h2 => (Nat.lt_or_ge mi 39).elim (fun h => ab_CW_38_39 mi h1 h) (fun h => ab_CW_39_40 mi h h2)
theorem ab_CW_36_40 : ∀ mi, 36 ≤ mi → mi < 40 → Cond.code (ab_nm mi) (ab_by mi) (ab_mxl mi) (ab_rt mi) ∈ ab_BIG := fun mi h1 h2 => (Nat.lt_or_ge mi 38).elim (fun h => ab_CW_36_38 mi h1 h) (fun h => ab_CW_38_40 mi h h2)
theorem ab_CW_33_40 : ∀ mi, 33 ≤ mi → mi < 40 → Cond.code (ab_nm mi) (ab_by mi) (ab_mxl mi) (ab_rt mi) ∈ ab_BIG := fun mi h1 h2 => (Nat.lt_or_ge mi 36).elim (fun h => ab_CW_33_36 mi h1 h) (fun h => ab_CW_36_40 mi h h2)
theorem ab_CW_27_40 : ∀ mi, 27 ≤ mi → mi < 40 → Cond.code (ab_nm mi) (ab_by mi) (ab_mxl mi) (ab_rt mi) ∈ ab_BIG := fun mi h1 h2 => (Nat.lt_or_ge mi 33).elim (fun h => ab_CW_27_33 mi h1 h) (fun h => ab_CW_33_40 mi h h2)
theorem ab_CW_40_41 : ∀ mi, 40 ≤ mi → mi < 41 → Cond.code (ab_nm mi) (ab_by mi) (ab_mxl mi) (ab_rt mi) ∈ ab_BIG := fun mi h1 h2 => by
  have e : mi = 40 := by omega
  subst e
  exact ab_cw40
theorem ab_CW_41_42 : ∀ mi, 41 ≤ mi → mi < 42 → Cond.code (ab_nm mi) (ab_by mi) (ab_mxl mi) (ab_rt mi) ∈ ab_BIG := fun mi h1 h2 => by
  have e : mi = 41 := by omega
  subst e
  exact ab_cw41
theorem ab_CW_42_43 : ∀ mi, 42 ≤ mi → mi < 43 → Cond.code (ab_nm mi) (ab_by mi) (ab_mxl mi) (ab_rt mi) ∈ ab_BIG := fun mi h1 h2 => by
  have e : mi = 42 := by omega
  subst e
  exact ab_cw42
theorem ab_CW_41_43 : ∀ mi, 41 ≤ mi → mi < 43 → Cond.code (ab_nm mi) (ab_by mi) (ab_mxl mi) (ab_rt mi) ∈ ab_BIG := fun mi h1 h2 => (Nat.lt_or_ge mi 42).elim (fun h => ab_CW_41_42 mi h1 h) (fun h => ab_CW_42_43 mi h h2)
theorem ab_CW_40_43 : ∀ mi, 40 ≤ mi → mi < 43 → Cond.code (ab_nm mi) (ab_by mi) (ab_mxl mi) (ab_rt mi) ∈ ab_BIG := fun mi h1 h2 => (Nat.lt_or_ge mi 41).elim (fun h => ab_CW_40_41 mi h1 h) (fun h => ab_CW_41_43 mi h h2)
theorem ab_CW_43_44 : ∀ mi, 43 ≤ mi → mi < 44 → Cond.code (ab_nm mi) (ab_by mi) (ab_mxl mi) (ab_rt mi) ∈ ab_BIG := fun mi h1 h2 => by
  have e : mi = 43 := by omega
  subst e
  exact ab_cw43
theorem ab_CW_44_45 : ∀ mi, 44 ≤ mi → mi < 45 → Cond.code (ab_nm mi) (ab_by mi) (ab_mxl mi) (ab_rt mi) ∈ ab_BIG := fun mi h1 h2 => by
  have e : mi = 44 := by omega
  subst e
  exact ab_cw44
theorem ab_CW_43_45 : ∀ mi, 43 ≤ mi → mi < 45 → Cond.code (ab_nm mi) (ab_by mi) (ab_mxl mi) (ab_rt mi) ∈ ab_BIG := fun mi h1 h2 => (Nat.lt_or_ge mi 44).elim (fun h => ab_CW_43_44 mi h1 h) (fun h => ab_CW_44_45 mi h h2)
theorem ab_CW_45_46 : ∀ mi, 45 ≤ mi → mi < 46 → Cond.code (ab_nm mi) (ab_by mi) (ab_mxl mi) (ab_rt mi) ∈ ab_BIG := fun mi h1 h2 => by
  have e : mi = 45 := by omega
  subst e
  exact ab_cw45
theorem ab_CW_46_47 : ∀ mi, 46 ≤ mi → mi < 47 → Cond.code (ab_nm mi) (ab_by mi) (ab_mxl mi) (ab_rt mi) ∈ ab_BIG := fun mi h1 h2 => by
  have e : mi = 46 := by omega
  subst e
  exact ab_cw46
theorem ab_CW_45_47 : ∀ mi, 45 ≤ mi → mi < 47 → Cond.code (ab_nm mi) (ab_by mi) (ab_mxl mi) (ab_rt mi) ∈ ab_BIG := fun mi h1 h2 => (Nat.lt_or_ge mi 46).elim (fun h => ab_CW_45_46 mi h1 h) (fun h => ab_CW_46_47 mi h h2)
theorem ab_CW_43_47 : ∀ mi, 43 ≤ mi → mi < 47 → Cond.code (ab_nm mi) (ab_by mi) (ab_mxl mi) (ab_rt mi) ∈ ab_BIG := fun mi h1 h2 => (Nat.lt_or_ge mi 45).elim (fun h => ab_CW_43_45 mi h1 h) (fun h => ab_CW_45_47 mi h h2)
theorem ab_CW_40_47 : ∀ mi, 40 ≤ mi → mi < 47 → Cond.code (ab_nm mi) (ab_by mi) (ab_mxl mi) (ab_rt mi) ∈ ab_BIG := fun mi h1 h2 => (Nat.lt_or_ge mi 43).elim (fun h => ab_CW_40_43 mi h1 h) (fun h => ab_CW_43_47 mi h h2)
theorem ab_CW_47_48 : ∀ mi, 47 ≤ mi → mi < 48 → Cond.code (ab_nm mi) (ab_by mi) (ab_mxl mi) (ab_rt mi) ∈ ab_BIG := fun mi h1 h2 => by
  have e : mi = 47 := by omega
  subst e
  exact ab_cw47
theorem ab_CW_48_49 : ∀ mi, 48 ≤ mi → mi < 49 → Cond.code (ab_nm mi) (ab_by mi) (ab_mxl mi) (ab_rt mi) ∈ ab_BIG := fun mi h1 h2 => by
  have e : mi = 48 := by omega
  subst e
  exact ab_cw48
theorem ab_CW_49_50 : ∀ mi, 49 ≤ mi → mi < 50 → Cond.code (ab_nm mi) (ab_by mi) (ab_mxl mi) (ab_rt mi) ∈ ab_BIG := fun mi h1 h2 => by
  have e : mi = 49 := by omega
  subst e
  exact ab_cw49
theorem ab_CW_48_50 : ∀ mi, 48 ≤ mi → mi < 50 → Cond.code (ab_nm mi) (ab_by mi) (ab_mxl mi) (ab_rt mi) ∈ ab_BIG := fun mi h1 h2 => (Nat.lt_or_ge mi 49).elim (fun h => ab_CW_48_49 mi h1 h) (fun h => ab_CW_49_50 mi h h2)
theorem ab_CW_47_50 : ∀ mi, 47 ≤ mi → mi < 50 → Cond.code (ab_nm mi) (ab_by mi) (ab_mxl mi) (ab_rt mi) ∈ ab_BIG := fun mi h1 h2 => (Nat.lt_or_ge mi 48).elim (fun h => ab_CW_47_48 mi h1 h) (fun h => ab_CW_48_50 mi h h2)
theorem ab_CW_50_51 : ∀ mi, 50 ≤ mi → mi < 51 → Cond.code (ab_nm mi) (ab_by mi) (ab_mxl mi) (ab_rt mi) ∈ ab_BIG := fun mi h1 h2 => by
  have e : mi = 50 := by omega
  subst e
  exact ab_cw50
theorem ab_CW_51_52 : ∀ mi, 51 ≤ mi → mi < 52 → Cond.code (ab_nm mi) (ab_by mi) (ab_mxl mi) (ab_rt mi) ∈ ab_BIG := fun mi h1 h2 => by
  have e : mi = 51 := by omega
  subst e
  exact ab_cw51
theorem ab_CW_50_52 : ∀ mi, 50 ≤ mi → mi < 52 → Cond.code (ab_nm mi) (ab_by mi) (ab_mxl mi) (ab_rt mi) ∈ ab_BIG := fun mi h1 h2 => (Nat.lt_or_ge mi 51).elim (fun h => ab_CW_50_51 mi h1 h) (fun h => ab_CW_51_52 mi h h2)
theorem ab_CW_52_53 : ∀ mi, 52 ≤ mi → mi < 53 → Cond.code (ab_nm mi) (ab_by mi) (ab_mxl mi) (ab_rt mi) ∈ ab_BIG := fun mi h1 h2 => by
  have e : mi = 52 := by omega
  subst e
  exact ab_cw52
theorem ab_CW_53_54 : ∀ mi, 53 ≤ mi → mi < 54 → Cond.code (ab_nm mi) (ab_by mi) (ab_mxl mi) (ab_rt mi) ∈ ab_BIG := fun mi h1 h2 => by
  have e : mi = 53 := by omega
  subst e
  exact ab_cw53
theorem ab_CW_52_54 : ∀ mi, 52 ≤ mi → mi < 54 → Cond.code (ab_nm mi) (ab_by mi) (ab_mxl mi) (ab_rt mi) ∈ ab_BIG := fun mi h1 h2 => (Nat.lt_or_ge mi 53).elim (fun h => ab_CW_52_53 mi h1 h) (fun h => ab_CW_53_54 mi h h2)
theorem ab_CW_50_54 : ∀ mi, 50 ≤ mi → mi < 54 → Cond.code (ab_nm mi) (ab_by mi) (ab_mxl mi) (ab_rt mi) ∈ ab_BIG := fun mi h1 h2 => (Nat.lt_or_ge mi 52).elim (fun h => ab_CW_50_52 mi h1 h) (fun h => ab_CW_52_54 mi h h2)
theorem ab_CW_47_54 : ∀ mi, 47 ≤ mi → mi < 54 → Cond.code (ab_nm mi) (ab_by mi) (ab_mxl mi) (ab_rt mi) ∈ ab_BIG := fun mi h1 h2 => (Nat.lt_or_ge mi 50).elim (fun h => ab_CW_47_50 mi h1 h) (fun h => ab_CW_50_54 mi h h2)
theorem ab_CW_40_54 : ∀ mi, 40 ≤ mi → mi < 54 → Cond.code (ab_nm mi) (ab_by mi) (ab_mxl mi) (ab_rt mi) ∈ ab_BIG := fun mi h1 h2 => (Nat.lt_or_ge mi 47).elim (fun h => ab_CW_40_47 mi h1 h) (fun h => ab_CW_47_54 mi h h2)
theorem ab_CW_27_54 : ∀ mi, 27 ≤ mi → mi < 54 → Cond.code (ab_nm mi) (ab_by mi) (ab_mxl mi) (ab_rt mi) ∈ ab_BIG := fun mi h1 h2 => (Nat.lt_or_ge mi 40).elim (fun h => ab_CW_27_40 mi h1 h) (fun h => ab_CW_40_54 mi h h2)
theorem ab_CW_0_54 : ∀ mi, 0 ≤ mi → mi < 54 → Cond.code (ab_nm mi) (ab_by mi) (ab_mxl mi) (ab_rt mi) ∈ ab_BIG := fun mi h1 h2 => (Nat.lt_or_ge mi 27).elim (fun h => ab_CW_0_27 mi h1 h) (fun h => ab_CW_27_54 mi h h2)
theorem ab_CW_54_55 : ∀ mi, 54 ≤ mi → mi < 55 → Cond.code (ab_nm mi) (ab_by mi) (ab_mxl mi) (ab_rt mi) ∈ ab_BIG := fun mi h1 h2 => by
  have e : mi = 54 := by omega
  subst e
  exact ab_cw54
theorem ab_CW_55_56 : ∀ mi, 55 ≤ mi → mi < 56 → Cond.code (ab_nm mi) (ab_by mi) (ab_mxl mi) (ab_rt mi) ∈ ab_BIG := fun mi h1 h2 => by
  have e : mi = 55 := by omega
  subst e
  exact ab_cw55
theorem ab_CW_56_57 : ∀ mi, 56 ≤ mi → mi < 57 → Cond.code (ab_nm mi) (ab_by mi) (ab_mxl mi) (ab_rt mi) ∈ ab_BIG := fun mi h1 h2 => by
  have e : mi = 56 := by omega
  subst e
  exact ab_cw56
theorem ab_CW_55_57 : ∀ mi, 55 ≤ mi → mi < 57 → Cond.code (ab_nm mi) (ab_by mi) (ab_mxl mi) (ab_rt mi) ∈ ab_BIG := fun mi h1 h2 => (Nat.lt_or_ge mi 56).elim (fun h => ab_CW_55_56 mi h1 h) (fun h => ab_CW_56_57 mi h h2)
theorem ab_CW_54_57 : ∀ mi, 54 ≤ mi → mi < 57 → Cond.code (ab_nm mi) (ab_by mi) (ab_mxl mi) (ab_rt mi) ∈ ab_BIG := fun mi h1 h2 => (Nat.lt_or_ge mi 55).elim (fun h => ab_CW_54_55 mi h1 h) (fun h => ab_CW_55_57 mi h h2)
theorem ab_CW_57_58 : ∀ mi, 57 ≤ mi → mi < 58 → Cond.code (ab_nm mi) (ab_by mi) (ab_mxl mi) (ab_rt mi) ∈ ab_BIG := fun mi h1 h2 => by
  have e : mi = 57 := by omega
  subst e
  exact ab_cw57
theorem ab_CW_58_59 : ∀ mi, 58 ≤ mi → mi < 59 → Cond.code (ab_nm mi) (ab_by mi) (ab_mxl mi) (ab_rt mi) ∈ ab_BIG := fun mi h1 h2 => by
  have e : mi = 58 := by omega
  subst e
  exact ab_cw58
theorem ab_CW_59_60 : ∀ mi, 59 ≤ mi → mi < 60 → Cond.code (ab_nm mi) (ab_by mi) (ab_mxl mi) (ab_rt mi) ∈ ab_BIG := fun mi h1 h2 => by
  have e : mi = 59 := by omega
  subst e
  exact ab_cw59
theorem ab_CW_58_60 : ∀ mi, 58 ≤ mi → mi < 60 → Cond.code (ab_nm mi) (ab_by mi) (ab_mxl mi) (ab_rt mi) ∈ ab_BIG := fun mi h1 h2 => (Nat.lt_or_ge mi 59).elim (fun h => ab_CW_58_59 mi h1 h) (fun h => ab_CW_59_60 mi h h2)
theorem ab_CW_57_60 : ∀ mi, 57 ≤ mi → mi < 60 → Cond.code (ab_nm mi) (ab_by mi) (ab_mxl mi) (ab_rt mi) ∈ ab_BIG := fun mi h1 h2 => (Nat.lt_or_ge mi 58).elim (fun h => ab_CW_57_58 mi h1 h) (fun h => ab_CW_58_60 mi h h2)
theorem ab_CW_54_60 : ∀ mi, 54 ≤ mi → mi < 60 → Cond.code (ab_nm mi) (ab_by mi) (ab_mxl mi) (ab_rt mi) ∈ ab_BIG := fun mi h1 h2 => (Nat.lt_or_ge mi 57).elim (fun h => ab_CW_54_57 mi h1 h) (fun h => ab_CW_57_60 mi h h2)
theorem ab_CW_60_61 : ∀ mi, 60 ≤ mi → mi < 61 → Cond.code (ab_nm mi) (ab_by mi) (ab_mxl mi) (ab_rt mi) ∈ ab_BIG := fun mi h1 h2 => by
  have e : mi = 60 := by omega
  subst e
  exact ab_cw60
theorem ab_CW_61_62 : ∀ mi, 61 ≤ mi → mi < 62 → Cond.code (ab_nm mi) (ab_by mi) (ab_mxl mi) (ab_rt mi) ∈ ab_BIG := fun mi h1 h2 => by
  have e : mi = 61 := by omega
  subst e
  exact ab_cw61
theorem ab_CW_62_63 : ∀ mi, 62 ≤ mi → mi < 63 → Cond.code (ab_nm mi) (ab_by mi) (ab_mxl mi) (ab_rt mi) ∈ ab_BIG := fun mi h1 h2 => by
  have e : mi = 62 := by omega
  subst e
  exact ab_cw62
theorem ab_CW_61_63 : ∀ mi, 61 ≤ mi → mi < 63 → Cond.code (ab_nm mi) (ab_by mi) (ab_mxl mi) (ab_rt mi) ∈ ab_BIG := fun mi h1 h2 => (Nat.lt_or_ge mi 62).elim (fun h => ab_CW_61_62 mi h1 h) (fun h => ab_CW_62_63 mi h h2)
theorem ab_CW_60_63 : ∀ mi, 60 ≤ mi → mi < 63 → Cond.code (ab_nm mi) (ab_by mi) (ab_mxl mi) (ab_rt mi) ∈ ab_BIG := fun mi h1 h2 => (Nat.lt_or_ge mi 61).elim (fun h => ab_CW_60_61 mi h1 h) (fun h => ab_CW_61_63 mi h h2)
theorem ab_CW_63_64 : ∀ mi, 63 ≤ mi → mi < 64 → Cond.code (ab_nm mi) (ab_by mi) (ab_mxl mi) (ab_rt mi) ∈ ab_BIG := fun mi h1 h2 => by
  have e : mi = 63 := by omega
  subst e
  exact ab_cw63
theorem ab_CW_64_65 : ∀ mi, 64 ≤ mi → mi < 65 → Cond.code (ab_nm mi) (ab_by mi) (ab_mxl mi) (ab_rt mi) ∈ ab_BIG := fun mi h1 h2 => by
  have e : mi = 64 := by omega
  subst e
  exact ab_cw64
theorem ab_CW_63_65 : ∀ mi, 63 ≤ mi → mi < 65 → Cond.code (ab_nm mi) (ab_by mi) (ab_mxl mi) (ab_rt mi) ∈ ab_BIG := fun mi h1 h2 => (Nat.lt_or_ge mi 64).elim (fun h => ab_CW_63_64 mi h1 h) (fun h => ab_CW_64_65 mi h h2)
theorem ab_CW_65_66 : ∀ mi, 65 ≤ mi → mi < 66 → Cond.code (ab_nm mi) (ab_by mi) (ab_mxl mi) (ab_rt mi) ∈ ab_BIG := fun mi h1 h2 => by
  have e : mi = 65 := by omega
  subst e
  exact ab_cw65
theorem ab_CW_66_67 : ∀ mi, 66 ≤ mi → mi < 67 → Cond.code (ab_nm mi) (ab_by mi) (ab_mxl mi) (ab_rt mi) ∈ ab_BIG := fun mi h1 h2 => by
  have e : mi = 66 := by omega
  subst e
  exact ab_cw66
theorem ab_CW_65_67 : ∀ mi, 65 ≤ mi → mi < 67 → Cond.code (ab_nm mi) (ab_by mi) (ab_mxl mi) (ab_rt mi) ∈ ab_BIG := fun mi h1 h2 => (Nat.lt_or_ge mi 66).elim (fun h => ab_CW_65_66 mi h1 h) (fun h => ab_CW_66_67 mi h h2)
theorem ab_CW_63_67 : ∀ mi, 63 ≤ mi → mi < 67 → Cond.code (ab_nm mi) (ab_by mi) (ab_mxl mi) (ab_rt mi) ∈ ab_BIG := fun mi h1 h2 => (Nat.lt_or_ge mi 65).elim (fun h => ab_CW_63_65 mi h1 h) (fun h => ab_CW_65_67 mi h h2)
theorem ab_CW_60_67 : ∀ mi, 60 ≤ mi → mi < 67 → Cond.code (ab_nm mi) (ab_by mi) (ab_mxl mi) (ab_rt mi) ∈ ab_BIG := fun mi h1 h2 => (Nat.lt_or_ge mi 63).elim (fun h => ab_CW_60_63 mi h1 h) (fun h => ab_CW_63_67 mi h h2)
theorem ab_CW_54_67 : ∀ mi, 54 ≤ mi → mi < 67 → Cond.code (ab_nm mi) (ab_by mi) (ab_mxl mi) (ab_rt mi) ∈ ab_BIG := fun mi h1 h2 => (Nat.lt_or_ge mi 60).elim (fun h => ab_CW_54_60 mi h1 h) (fun h => ab_CW_60_67 mi h h2)
theorem ab_CW_67_68 : ∀ mi, 67 ≤ mi → mi < 68 → Cond.code (ab_nm mi) (ab_by mi) (ab_mxl mi) (ab_rt mi) ∈ ab_BIG := fun mi h1 h2 => by
  have e : mi = 67 := by omega
  subst e
  exact ab_cw67
theorem ab_CW_68_69 : ∀ mi, 68 ≤ mi → mi < 69 → Cond.code (ab_nm mi) (ab_by mi) (ab_mxl mi) (ab_rt mi) ∈ ab_BIG := fun mi h1 h2 => by
  have e : mi = 68 := by omega
  subst e
  exact ab_cw68
theorem ab_CW_69_70 : ∀ mi, 69 ≤ mi → mi < 70 → Cond.code (ab_nm mi) (ab_by mi) (ab_mxl mi) (ab_rt mi) ∈ ab_BIG := fun mi h1 h2 => by
  have e : mi = 69 := by omega
  subst e
  exact ab_cw69
theorem ab_CW_68_70 : ∀ mi, 68 ≤ mi → mi < 70 → Cond.code (ab_nm mi) (ab_by mi) (ab_mxl mi) (ab_rt mi) ∈ ab_BIG := fun mi h1 h2 => (Nat.lt_or_ge mi 69).elim (fun h => ab_CW_68_69 mi h1 h) (fun h => ab_CW_69_70 mi h h2)
theorem ab_CW_67_70 : ∀ mi, 67 ≤ mi → mi < 70 → Cond.code (ab_nm mi) (ab_by mi) (ab_mxl mi) (ab_rt mi) ∈ ab_BIG := fun mi h1 h2 => (Nat.lt_or_ge mi 68).elim (fun h => ab_CW_67_68 mi h1 h) (fun h => ab_CW_68_70 mi h h2)
theorem ab_CW_70_71 : ∀ mi, 70 ≤ mi → mi < 71 → Cond.code (ab_nm mi) (ab_by mi) (ab_mxl mi) (ab_rt mi) ∈ ab_BIG := fun mi h1 h2 => by
  have e : mi = 70 := by omega
  subst e
  exact ab_cw70
theorem ab_CW_71_72 : ∀ mi, 71 ≤ mi → mi < 72 → Cond.code (ab_nm mi) (ab_by mi) (ab_mxl mi) (ab_rt mi) ∈ ab_BIG := fun mi h1 h2 => by
  have e : mi = 71 := by omega
  subst e
  exact ab_cw71
theorem ab_CW_70_72 : ∀ mi, 70 ≤ mi → mi < 72 → Cond.code (ab_nm mi) (ab_by mi) (ab_mxl mi) (ab_rt mi) ∈ ab_BIG := fun mi h1 h2 => (Nat.lt_or_ge mi 71).elim (fun h => ab_CW_70_71 mi h1 h) (fun h => ab_CW_71_72 mi h h2)
theorem ab_CW_72_73 : ∀ mi, 72 ≤ mi → mi < 73 → Cond.code (ab_nm mi) (ab_by mi) (ab_mxl mi) (ab_rt mi) ∈ ab_BIG := fun mi h1 h2 => by
  have e : mi = 72 := by omega
  subst e
  exact ab_cw72
theorem ab_CW_73_74 : ∀ mi, 73 ≤ mi → mi < 74 → Cond.code (ab_nm mi) (ab_by mi) (ab_mxl mi) (ab_rt mi) ∈ ab_BIG := fun mi h1 h2 => by
  have e : mi = 73 := by omega
  subst e
  exact ab_cw73
theorem ab_CW_72_74 : ∀ mi, 72 ≤ mi → mi < 74 → Cond.code (ab_nm mi) (ab_by mi) (ab_mxl mi) (ab_rt mi) ∈ ab_BIG := fun mi h1 h2 => (Nat.lt_or_ge mi 73).elim (fun h => ab_CW_72_73 mi h1 h) (fun h => ab_CW_73_74 mi h h2)
theorem ab_CW_70_74 : ∀ mi, 70 ≤ mi → mi < 74 → Cond.code (ab_nm mi) (ab_by mi) (ab_mxl mi) (ab_rt mi) ∈ ab_BIG := fun mi h1 h2 => (Nat.lt_or_ge mi 72).elim (fun h => ab_CW_70_72 mi h1 h) (fun h => ab_CW_72_74 mi h h2)
theorem ab_CW_67_74 : ∀ mi, 67 ≤ mi → mi < 74 → Cond.code (ab_nm mi) (ab_by mi) (ab_mxl mi) (ab_rt mi) ∈ ab_BIG := fun mi h1 h2 => (Nat.lt_or_ge mi 70).elim (fun h => ab_CW_67_70 mi h1 h) (fun h => ab_CW_70_74 mi h h2)
theorem ab_CW_74_75 : ∀ mi, 74 ≤ mi → mi < 75 → Cond.code (ab_nm mi) (ab_by mi) (ab_mxl mi) (ab_rt mi) ∈ ab_BIG := fun mi h1 h2 => by
  have e : mi = 74 := by omega
  subst e
  exact ab_cw74
theorem ab_CW_75_76 : ∀ mi, 75 ≤ mi → mi < 76 → Cond.code (ab_nm mi) (ab_by mi) (ab_mxl mi) (ab_rt mi) ∈ ab_BIG := fun mi h1 h2 => by
  have e : mi = 75 := by omega
  subst e
  exact ab_cw75
theorem ab_CW_76_77 : ∀ mi, 76 ≤ mi → mi < 77 → Cond.code (ab_nm mi) (ab_by mi) (ab_mxl mi) (ab_rt mi) ∈ ab_BIG := fun mi h1 h2 => by
  have e : mi = 76 := by omega
  subst e
  exact ab_cw76
theorem ab_CW_75_77 : ∀ mi, 75 ≤ mi → mi < 77 → Cond.code (ab_nm mi) (ab_by mi) (ab_mxl mi) (ab_rt mi) ∈ ab_BIG := fun mi h1 h2 => (Nat.lt_or_ge mi 76).elim (fun h => ab_CW_75_76 mi h1 h) (fun h => ab_CW_76_77 mi h h2)
theorem ab_CW_74_77 : ∀ mi, 74 ≤ mi → mi < 77 → Cond.code (ab_nm mi) (ab_by mi) (ab_mxl mi) (ab_rt mi) ∈ ab_BIG := fun mi h1 h2 => (Nat.lt_or_ge mi 75).elim (fun h => ab_CW_74_75 mi h1 h) (fun h => ab_CW_75_77 mi h h2)
theorem ab_CW_77_78 : ∀ mi, 77 ≤ mi → mi < 78 → Cond.code (ab_nm mi) (ab_by mi) (ab_mxl mi) (ab_rt mi) ∈ ab_BIG := fun mi h1 h2 => by
  have e : mi = 77 := by omega
  subst e
  exact ab_cw77
theorem ab_CW_78_79 : ∀ mi, 78 ≤ mi → mi < 79 → Cond.code (ab_nm mi) (ab_by mi) (ab_mxl mi) (ab_rt mi) ∈ ab_BIG := fun mi h1 h2 => by
  have e : mi = 78 := by omega
  subst e
  exact ab_cw78
theorem ab_CW_77_79 : ∀ mi, 77 ≤ mi → mi < 79 → Cond.code (ab_nm mi) (ab_by mi) (ab_mxl mi) (ab_rt mi) ∈ ab_BIG := fun mi h1 h2 => (Nat.lt_or_ge mi 78).elim (fun h => ab_CW_77_78 mi h1 h) (fun h => ab_CW_78_79 mi h h2)
theorem ab_CW_79_80 : ∀ mi, 79 ≤ mi → mi < 80 → Cond.code (ab_nm mi) (ab_by mi) (ab_mxl mi) (ab_rt mi) ∈ ab_BIG := fun mi h1 h2 => by
  have e : mi = 79 := by omega
  subst e
  exact ab_cw79
theorem ab_CW_80_81 : ∀ mi, 80 ≤ mi → mi < 81 → Cond.code (ab_nm mi) (ab_by mi) (ab_mxl mi) (ab_rt mi) ∈ ab_BIG := fun mi h1 h2 => by
  have e : mi = 80 := by omega
  subst e
  exact ab_cw80
theorem ab_CW_79_81 : ∀ mi, 79 ≤ mi → mi < 81 → Cond.code (ab_nm mi) (ab_by mi) (ab_mxl mi) (ab_rt mi) ∈ ab_BIG := fun mi h1 h2 => (Nat.lt_or_ge mi 80).elim (fun h => ab_CW_79_80 mi h1 h) (fun h => ab_CW_80_81 mi h h2)
theorem ab_CW_77_81 : ∀ mi, 77 ≤ mi → mi < 81 → Cond.code (ab_nm mi) (ab_by mi) (ab_mxl mi) (ab_rt mi) ∈ ab_BIG := fun mi h1 h2 => (Nat.lt_or_ge mi 79).elim (fun h => ab_CW_77_79 mi h1 h) (fun h => ab_CW_79_81 mi h h2)
theorem ab_CW_74_81 : ∀ mi, 74 ≤ mi → mi < 81 → Cond.code (ab_nm mi) (ab_by mi) (ab_mxl mi) (ab_rt mi) ∈ ab_BIG := fun mi h1 h2 => (Nat.lt_or_ge mi 77).elim (fun h => ab_CW_74_77 mi h1 h) (fun h => ab_CW_77_81 mi h h2)
theorem ab_CW_67_81 : ∀ mi, 67 ≤ mi → mi < 81 → Cond.code (ab_nm mi) (ab_by mi) (ab_mxl mi) (ab_rt mi) ∈ ab_BIG := fun mi h1 h2 => (Nat.lt_or_ge mi 74).elim (fun h => ab_CW_67_74 mi h1 h) (fun h => ab_CW_74_81 mi h h2)
theorem ab_CW_54_81 : ∀ mi, 54 ≤ mi → mi < 81 → Cond.code (ab_nm mi) (ab_by mi) (ab_mxl mi) (ab_rt mi) ∈ ab_BIG := fun mi h1 h2 => (Nat.lt_or_ge mi 67).elim (fun h => ab_CW_54_67 mi h1 h) (fun h => ab_CW_67_81 mi h h2)
theorem ab_CW_81_82 : ∀ mi, 81 ≤ mi → mi < 82 → Cond.code (ab_nm mi) (ab_by mi) (ab_mxl mi) (ab_rt mi) ∈ ab_BIG := fun mi h1 h2 => by
  have e : mi = 81 := by omega
  subst e
  exact ab_cw81
theorem ab_CW_82_83 : ∀ mi, 82 ≤ mi → mi < 83 → Cond.code (ab_nm mi) (ab_by mi) (ab_mxl mi) (ab_rt mi) ∈ ab_BIG := fun mi h1 h2 => by
  have e : mi = 82 := by omega
  subst e
  exact ab_cw82
theorem ab_CW_83_84 : ∀ mi, 83 ≤ mi → mi < 84 → Cond.code (ab_nm mi) (ab_by mi) (ab_mxl mi) (ab_rt mi) ∈ ab_BIG := fun mi h1 h2 => by
  have e : mi = 83 := by omega
  subst e
  exact ab_cw83
theorem ab_CW_82_84 : ∀ mi, 82 ≤ mi → mi < 84 → Cond.code (ab_nm mi) (ab_by mi) (ab_mxl mi) (ab_rt mi) ∈ ab_BIG := fun mi h1 h2 => (Nat.lt_or_ge mi 83).elim (fun h => ab_CW_82_83 mi h1 h) (fun h => ab_CW_83_84 mi h h2)
theorem ab_CW_81_84 : ∀ mi, 81 ≤ mi → mi < 84 → Cond.code (ab_nm mi) (ab_by mi) (ab_mxl mi) (ab_rt mi) ∈ ab_BIG := fun mi h1 h2 => (Nat.lt_or_ge mi 82).elim (fun h => ab_CW_81_82 mi h1 h) (fun h => ab_CW_82_84 mi h h2)
theorem ab_CW_84_85 : ∀ mi, 84 ≤ mi → mi < 85 → Cond.code (ab_nm mi) (ab_by mi) (ab_mxl mi) (ab_rt mi) ∈ ab_BIG := fun mi h1 h2 => by
  have e : mi = 84 := by omega
  subst e
  exact ab_cw84
theorem ab_CW_85_86 : ∀ mi, 85 ≤ mi → mi < 86 → Cond.code (ab_nm mi) (ab_by mi) (ab_mxl mi) (ab_rt mi) ∈ ab_BIG := fun mi h1 h2 => by
  have e : mi = 85 := by omega
  subst e
  exact ab_cw85
theorem ab_CW_86_87 : ∀ mi, 86 ≤ mi → mi < 87 → Cond.code (ab_nm mi) (ab_by mi) (ab_mxl mi) (ab_rt mi) ∈ ab_BIG := fun mi h1 h2 => by
  have e : mi = 86 := by omega
  subst e
  exact ab_cw86
theorem ab_CW_85_87 : ∀ mi, 85 ≤ mi → mi < 87 → Cond.code (ab_nm mi) (ab_by mi) (ab_mxl mi) (ab_rt mi) ∈ ab_BIG := fun mi h1 h2 => (Nat.lt_or_ge mi 86).elim (fun h => ab_CW_85_86 mi h1 h) (fun h => ab_CW_86_87 mi h h2)
theorem ab_CW_84_87 : ∀ mi, 84 ≤ mi → mi < 87 → Cond.code (ab_nm mi) (ab_by mi) (ab_mxl mi) (ab_rt mi) ∈ ab_BIG := fun mi h1 h2 => (Nat.lt_or_ge mi 85).elim (fun h => ab_CW_84_85 mi h1 h) (fun h => ab_CW_85_87 mi h h2)
theorem ab_CW_81_87 : ∀ mi, 81 ≤ mi → mi < 87 → Cond.code (ab_nm mi) (ab_by mi) (ab_mxl mi) (ab_rt mi) ∈ ab_BIG := fun mi h1 h2 => (Nat.lt_or_ge mi 84).elim (fun h => ab_CW_81_84 mi h1 h) (fun h => ab_CW_84_87 mi h h2)
theorem ab_CW_87_88 : ∀ mi, 87 ≤ mi → mi < 88 → Cond.code (ab_nm mi) (ab_by mi) (ab_mxl mi) (ab_rt mi) ∈ ab_BIG := fun mi h1 h2 => by
  have e : mi = 87 := by omega
  subst e
  exact ab_cw87
theorem ab_CW_88_89 : ∀ mi, 88 ≤ mi → mi < 89 → Cond.code (ab_nm mi) (ab_by mi) (ab_mxl mi) (ab_rt mi) ∈ ab_BIG := fun mi h1 h2 => by
  have e : mi = 88 := by omega
  subst e
  exact ab_cw88
theorem ab_CW_89_90 : ∀ mi, 89 ≤ mi → mi < 90 → Cond.code (ab_nm mi) (ab_by mi) (ab_mxl mi) (ab_rt mi) ∈ ab_BIG := fun mi h1 h2 => by
  have e : mi = 89 := by omega
  subst e
  exact ab_cw89
theorem ab_CW_88_90 : ∀ mi, 88 ≤ mi → mi < 90 → Cond.code (ab_nm mi) (ab_by mi) (ab_mxl mi) (ab_rt mi) ∈ ab_BIG := fun mi h1 h2 => (Nat.lt_or_ge mi 89).elim (fun h => ab_CW_88_89 mi h1 h) (fun h => ab_CW_89_90 mi h h2)
theorem ab_CW_87_90 : ∀ mi, 87 ≤ mi → mi < 90 → Cond.code (ab_nm mi) (ab_by mi) (ab_mxl mi) (ab_rt mi) ∈ ab_BIG := fun mi h1 h2 => (Nat.lt_or_ge mi 88).elim (fun h => ab_CW_87_88 mi h1 h) (fun h => ab_CW_88_90 mi h h2)
theorem ab_CW_90_91 : ∀ mi, 90 ≤ mi → mi < 91 → Cond.code (ab_nm mi) (ab_by mi) (ab_mxl mi) (ab_rt mi) ∈ ab_BIG := fun mi h1 h2 => by
  have e : mi = 90 := by omega
  subst e
  exact ab_cw90
theorem ab_CW_91_92 : ∀ mi, 91 ≤ mi → mi < 92 → Cond.code (ab_nm mi) (ab_by mi) (ab_mxl mi) (ab_rt mi) ∈ ab_BIG := fun mi h1 h2 => by
  have e : mi = 91 := by omega
  subst e
  exact ab_cw91
theorem ab_CW_90_92 : ∀ mi, 90 ≤ mi → mi < 92 → Cond.code (ab_nm mi) (ab_by mi) (ab_mxl mi) (ab_rt mi) ∈ ab_BIG := fun mi h1 h2 => (Nat.lt_or_ge mi 91).elim (fun h => ab_CW_90_91 mi h1 h) (fun h => ab_CW_91_92 mi h h2)
theorem ab_CW_92_93 : ∀ mi, 92 ≤ mi → mi < 93 → Cond.code (ab_nm mi) (ab_by mi) (ab_mxl mi) (ab_rt mi) ∈ ab_BIG := fun mi h1 h2 => by
  have e : mi = 92 := by omega
  subst e
  exact ab_cw92
theorem ab_CW_93_94 : ∀ mi, 93 ≤ mi → mi < 94 → Cond.code (ab_nm mi) (ab_by mi) (ab_mxl mi) (ab_rt mi) ∈ ab_BIG := fun mi h1 h2 => by
  have e : mi = 93 := by omega
  subst e
  exact ab_cw93
theorem ab_CW_92_94 : ∀ mi, 92 ≤ mi → mi < 94 → Cond.code (ab_nm mi) (ab_by mi) (ab_mxl mi) (ab_rt mi) ∈ ab_BIG := fun mi h1 h2 => (Nat.lt_or_ge mi 93).elim (fun h => ab_CW_92_93 mi h1 h) (fun h => ab_CW_93_94 mi h h2)
theorem ab_CW_90_94 : ∀ mi, 90 ≤ mi → mi < 94 → Cond.code (ab_nm mi) (ab_by mi) (ab_mxl mi) (ab_rt mi) ∈ ab_BIG := fun mi h1 h2 => (Nat.lt_or_ge mi 92).elim (fun h => ab_CW_90_92 mi h1 h) (fun h => ab_CW_92_94 mi h h2)
theorem ab_CW_87_94 : ∀ mi, 87 ≤ mi → mi < 94 → Cond.code (ab_nm mi) (ab_by mi) (ab_mxl mi) (ab_rt mi) ∈ ab_BIG := fun mi h1 h2 => (Nat.lt_or_ge mi 90).elim (fun h => ab_CW_87_90 mi h1 h) (fun h => ab_CW_90_94 mi h h2)
theorem ab_CW_81_94 : ∀ mi, 81 ≤ mi → mi < 94 → Cond.code (ab_nm mi) (ab_by mi) (ab_mxl mi) (ab_rt mi) ∈ ab_BIG := fun mi h1 h2 => (Nat.lt_or_ge mi 87).elim (fun h => ab_CW_81_87 mi h1 h) (fun h => ab_CW_87_94 mi h h2)
theorem ab_CW_94_95 : ∀ mi, 94 ≤ mi → mi < 95 → Cond.code (ab_nm mi) (ab_by mi) (ab_mxl mi) (ab_rt mi) ∈ ab_BIG := fun mi h1 h2 => by
  have e : mi = 94 := by omega
  subst e
  exact ab_cw94
theorem ab_CW_95_96 : ∀ mi, 95 ≤ mi → mi < 96 → Cond.code (ab_nm mi) (ab_by mi) (ab_mxl mi) (ab_rt mi) ∈ ab_BIG := fun mi h1 h2 => by
  have e : mi = 95 := by omega
  subst e
  exact ab_cw95
theorem ab_CW_96_97 : ∀ mi, 96 ≤ mi → mi < 97 → Cond.code (ab_nm mi) (ab_by mi) (ab_mxl mi) (ab_rt mi) ∈ ab_BIG := fun mi h1 h2 => by
  have e : mi = 96 := by omega
  subst e
  exact ab_cw96
theorem ab_CW_95_97 : ∀ mi, 95 ≤ mi → mi < 97 → Cond.code (ab_nm mi) (ab_by mi) (ab_mxl mi) (ab_rt mi) ∈ ab_BIG := fun mi h1 h2 => (Nat.lt_or_ge mi 96).elim (fun h => ab_CW_95_96 mi h1 h) (fun h => ab_CW_96_97 mi h h2)
theorem ab_CW_94_97 : ∀ mi, 94 ≤ mi → mi < 97 → Cond.code (ab_nm mi) (ab_by mi) (ab_mxl mi) (ab_rt mi) ∈ ab_BIG := fun mi h1 h2 => (Nat.lt_or_ge mi 95).elim (fun h => ab_CW_94_95 mi h1 h) (fun h => ab_CW_95_97 mi h h2)
theorem ab_CW_97_98 : ∀ mi, 97 ≤ mi → mi < 98 → Cond.code (ab_nm mi) (ab_by mi) (ab_mxl mi) (ab_rt mi) ∈ ab_BIG := fun mi h1 h2 => by
  have e : mi = 97 := by omega
  subst e
  exact ab_cw97
theorem ab_CW_98_99 : ∀ mi, 98 ≤ mi → mi < 99 → Cond.code (ab_nm mi) (ab_by mi) (ab_mxl mi) (ab_rt mi) ∈ ab_BIG := fun mi h1 h2 => by
  have e : mi = 98 := by omega
  subst e
  exact ab_cw98
theorem ab_CW_97_99 : ∀ mi, 97 ≤ mi → mi < 99 → Cond.code (ab_nm mi) (ab_by mi) (ab_mxl mi) (ab_rt mi) ∈ ab_BIG := fun mi h1 h2 => (Nat.lt_or_ge mi 98).elim (fun h => ab_CW_97_98 mi h1 h) (fun h => ab_CW_98_99 mi h h2)
theorem ab_CW_99_100 : ∀ mi, 99 ≤ mi → mi < 100 → Cond.code (ab_nm mi) (ab_by mi) (ab_mxl mi) (ab_rt mi) ∈ ab_BIG := fun mi h1 h2 => by
  have e : mi = 99 := by omega
  subst e
  exact ab_cw99
theorem ab_CW_100_101 : ∀ mi, 100 ≤ mi → mi < 101 → Cond.code (ab_nm mi) (ab_by mi) (ab_mxl mi) (ab_rt mi) ∈ ab_BIG := fun mi h1 h2 => by
  have e : mi = 100 := by omega
  subst e
  exact ab_cw100
theorem ab_CW_99_101 : ∀ mi, 99 ≤ mi → mi < 101 → Cond.code (ab_nm mi) (ab_by mi) (ab_mxl mi) (ab_rt mi) ∈ ab_BIG := fun mi h1 h2 => (Nat.lt_or_ge mi 100).elim (fun h => ab_CW_99_100 mi h1 h) (fun h => ab_CW_100_101 mi h h2)
theorem ab_CW_97_101 : ∀ mi, 97 ≤ mi → mi < 101 → Cond.code (ab_nm mi) (ab_by mi) (ab_mxl mi) (ab_rt mi) ∈ ab_BIG := fun mi h1 h2 => (Nat.lt_or_ge mi 99).elim (fun h => ab_CW_97_99 mi h1 h) (fun h => ab_CW_99_101 mi h h2)
theorem ab_CW_94_101 : ∀ mi, 94 ≤ mi → mi < 101 → Cond.code (ab_nm mi) (ab_by mi) (ab_mxl mi) (ab_rt mi) ∈ ab_BIG := fun mi h1 h2 => (Nat.lt_or_ge mi 97).elim (fun h => ab_CW_94_97 mi h1 h) (fun h => ab_CW_97_101 mi h h2)
theorem ab_CW_101_102 : ∀ mi, 101 ≤ mi → mi < 102 → Cond.code (ab_nm mi) (ab_by mi) (ab_mxl mi) (ab_rt mi) ∈ ab_BIG := fun mi h1 h2 => by
  have e : mi = 101 := by omega
  subst e
  exact ab_cw101
theorem ab_CW_102_103 : ∀ mi, 102 ≤ mi → mi < 103 → Cond.code (ab_nm mi) (ab_by mi) (ab_mxl mi) (ab_rt mi) ∈ ab_BIG := fun mi h1 h2 => by
  have e : mi = 102 := by omega
  subst e
  exact ab_cw102
theorem ab_CW_103_104 : ∀ mi, 103 ≤ mi → mi < 104 → Cond.code (ab_nm mi) (ab_by mi) (ab_mxl mi) (ab_rt mi) ∈ ab_BIG := fun mi h1 h2 => by
  have e : mi = 103 := by omega
  subst e
  exact ab_cw103
theorem ab_CW_102_104 : ∀ mi, 102 ≤ mi → mi < 104 → Cond.code (ab_nm mi) (ab_by mi) (ab_mxl mi) (ab_rt mi) ∈ ab_BIG := fun mi h1 h2 => (Nat.lt_or_ge mi 103).elim (fun h => ab_CW_102_103 mi h1 h) (fun h => ab_CW_103_104 mi h h2)
theorem ab_CW_101_104 : ∀ mi, 101 ≤ mi → mi < 104 → Cond.code (ab_nm mi) (ab_by mi) (ab_mxl mi) (ab_rt mi) ∈ ab_BIG := fun mi h1 h2 => (Nat.lt_or_ge mi 102).elim (fun h => ab_CW_101_102 mi h1 h) (fun h => ab_CW_102_104 mi h h2)
theorem ab_CW_104_105 : ∀ mi, 104 ≤ mi → mi < 105 → Cond.code (ab_nm mi) (ab_by mi) (ab_mxl mi) (ab_rt mi) ∈ ab_BIG := fun mi h1 h2 => by
  have e : mi = 104 := by omega
  subst e
  exact ab_cw104
theorem ab_CW_105_106 : ∀ mi, 105 ≤ mi → mi < 106 → Cond.code (ab_nm mi) (ab_by mi) (ab_mxl mi) (ab_rt mi) ∈ ab_BIG := fun mi h1 h2 => by
  have e : mi = 105 := by omega
  subst e
  exact ab_cw105
theorem ab_CW_104_106 : ∀ mi, 104 ≤ mi → mi < 106 → Cond.code (ab_nm mi) (ab_by mi) (ab_mxl mi) (ab_rt mi) ∈ ab_BIG := fun mi h1 h2 => (Nat.lt_or_ge mi 105).elim (fun h => ab_CW_104_105 mi h1 h) (fun h => ab_CW_105_106 mi h h2)
theorem ab_CW_106_107 : ∀ mi, 106 ≤ mi → mi < 107 → Cond.code (ab_nm mi) (ab_by mi) (ab_mxl mi) (ab_rt mi) ∈ ab_BIG := fun mi h1 h2 => by
  have e : mi = 106 := by omega
  subst e
  exact ab_cw106
theorem ab_CW_107_108 : ∀ mi, 107 ≤ mi → mi < 108 → Cond.code (ab_nm mi) (ab_by mi) (ab_mxl mi) (ab_rt mi) ∈ ab_BIG := fun mi h1 h2 => by
  have e : mi = 107 := by omega
  subst e
  exact ab_cw107
theorem ab_CW_106_108 : ∀ mi, 106 ≤ mi → mi < 108 → Cond.code (ab_nm mi) (ab_by mi) (ab_mxl mi) (ab_rt mi) ∈ ab_BIG := fun mi h1 h2 => (Nat.lt_or_ge mi 107).elim (fun h => ab_CW_106_107 mi h1 h) (fun h => ab_CW_107_108 mi h h2)
theorem ab_CW_104_108 : ∀ mi, 104 ≤ mi → mi < 108 → Cond.code (ab_nm mi) (ab_by mi) (ab_mxl mi) (ab_rt mi) ∈ ab_BIG := fun mi h1 h2 => (Nat.lt_or_ge mi 106).elim (fun h => ab_CW_104_106 mi h1 h) (fun h => ab_CW_106_108 mi h h2)
theorem ab_CW_101_108 : ∀ mi, 101 ≤ mi → mi < 108 → Cond.code (ab_nm mi) (ab_by mi) (ab_mxl mi) (ab_rt mi) ∈ ab_BIG := fun mi h1 h2 => (Nat.lt_or_ge mi 104).elim (fun h => ab_CW_101_104 mi h1 h) (fun h => ab_CW_104_108 mi h h2)
theorem ab_CW_94_108 : ∀ mi, 94 ≤ mi → mi < 108 → Cond.code (ab_nm mi) (ab_by mi) (ab_mxl mi) (ab_rt mi) ∈ ab_BIG := fun mi h1 h2 => (Nat.lt_or_ge mi 101).elim (fun h => ab_CW_94_101 mi h1 h) (fun h => ab_CW_101_108 mi h h2)
theorem ab_CW_81_108 : ∀ mi, 81 ≤ mi → mi < 108 → Cond.code (ab_nm mi) (ab_by mi) (ab_mxl mi) (ab_rt mi) ∈ ab_BIG := fun mi h1 h2 => (Nat.lt_or_ge mi 94).elim (fun h => ab_CW_81_94 mi h1 h) (fun h => ab_CW_94_108 mi h h2)
theorem ab_CW_54_108 : ∀ mi, 54 ≤ mi → mi < 108 → Cond.code (ab_nm mi) (ab_by mi) (ab_mxl mi) (ab_rt mi) ∈ ab_BIG := fun mi h1 h2 => (Nat.lt_or_ge mi 81).elim (fun h => ab_CW_54_81 mi h1 h) (fun h => ab_CW_81_108 mi h h2)
theorem ab_CW_0_108 : ∀ mi, 0 ≤ mi → mi < 108 → Cond.code (ab_nm mi) (ab_by mi) (ab_mxl mi) (ab_rt mi) ∈ ab_BIG := fun mi h1 h2 => (Nat.lt_or_ge mi 54).elim (fun h => ab_CW_0_54 mi h1 h) (fun h => ab_CW_54_108 mi h h2)
theorem ab_CW_108_109 : ∀ mi, 108 ≤ mi → mi < 109 → Cond.code (ab_nm mi) (ab_by mi) (ab_mxl mi) (ab_rt mi) ∈ ab_BIG := fun mi h1 h2 => by
  have e : mi = 108 := by omega
  subst e
  exact ab_cw108
theorem ab_CW_109_110 : ∀ mi, 109 ≤ mi → mi < 110 → Cond.code (ab_nm mi) (ab_by mi) (ab_mxl mi) (ab_rt mi) ∈ ab_BIG := fun mi h1 h2 => by
  have e : mi = 109 := by omega
  subst e
  exact ab_cw109
theorem ab_CW_110_111 : ∀ mi, 110 ≤ mi → mi < 111 → Cond.code (ab_nm mi) (ab_by mi) (ab_mxl mi) (ab_rt mi) ∈ ab_BIG := fun mi h1 h2 => by
  have e : mi = 110 := by omega
  subst e
  exact ab_cw110
theorem ab_CW_109_111 : ∀ mi, 109 ≤ mi → mi < 111 → Cond.code (ab_nm mi) (ab_by mi) (ab_mxl mi) (ab_rt mi) ∈ ab_BIG := fun mi h1 h2 => (Nat.lt_or_ge mi 110).elim (fun h => ab_CW_109_110 mi h1 h) (fun h => ab_CW_110_111 mi h h2)
theorem ab_CW_108_111 : ∀ mi, 108 ≤ mi → mi < 111 → Cond.code (ab_nm mi) (ab_by mi) (ab_mxl mi) (ab_rt mi) ∈ ab_BIG := fun mi h1 h2 => (Nat.lt_or_ge mi 109).elim (fun h => ab_CW_108_109 mi h1 h) (fun h => ab_CW_109_111 mi h h2)
theorem ab_CW_111_112 : ∀ mi, 111 ≤ mi → mi < 112 → Cond.code (ab_nm mi) (ab_by mi) (ab_mxl mi) (ab_rt mi) ∈ ab_BIG := fun mi h1 h2 => by
  have e : mi = 111 := by omega
  subst e
  exact ab_cw111
theorem ab_CW_112_113 : ∀ mi, 112 ≤ mi → mi < 113 → Cond.code (ab_nm mi) (ab_by mi) (ab_mxl mi) (ab_rt mi) ∈ ab_BIG := fun mi h1 h2 => by
  have e : mi = 112 := by omega
  subst e
  exact ab_cw112
theorem ab_CW_113_114 : ∀ mi, 113 ≤ mi → mi < 114 → Cond.code (ab_nm mi) (ab_by mi) (ab_mxl mi) (ab_rt mi) ∈ ab_BIG := fun mi h1 h2 => by
  have e : mi = 113 := by omega
  subst e
  exact ab_cw113
theorem ab_CW_112_114 : ∀ mi, 112 ≤ mi → mi < 114 → Cond.code (ab_nm mi) (ab_by mi) (ab_mxl mi) (ab_rt mi) ∈ ab_BIG := fun mi h1 h2 => (Nat.lt_or_ge mi 113).elim (fun h => ab_CW_112_113 mi h1 h) (fun h => ab_CW_113_114 mi h h2)
theorem ab_CW_111_114 : ∀ mi, 111 ≤ mi → mi < 114 → Cond.code (ab_nm mi) (ab_by mi) (ab_mxl mi) (ab_rt mi) ∈ ab_BIG := fun mi h1 h2 => (Nat.lt_or_ge mi 112).elim (fun h => ab_CW_111_112 mi h1 h) (fun h => ab_CW_112_114 mi h h2)
theorem ab_CW_108_114 : ∀ mi, 108 ≤ mi → mi < 114 → Cond.code (ab_nm mi) (ab_by mi) (ab_mxl mi) (ab_rt mi) ∈ ab_BIG := fun mi h1 h2 => (Nat.lt_or_ge mi 111).elim (fun h => ab_CW_108_111 mi h1 h) (fun h => ab_CW_111_114 mi h h2)
theorem ab_CW_114_115 : ∀ mi, 114 ≤ mi → mi < 115 → Cond.code (ab_nm mi) (ab_by mi) (ab_mxl mi) (ab_rt mi) ∈ ab_BIG := fun mi h1 h2 => by
  have e : mi = 114 := by omega
  subst e
  exact ab_cw114
theorem ab_CW_115_116 : ∀ mi, 115 ≤ mi → mi < 116 → Cond.code (ab_nm mi) (ab_by mi) (ab_mxl mi) (ab_rt mi) ∈ ab_BIG := fun mi h1 h2 => by
  have e : mi = 115 := by omega
  subst e
  exact ab_cw115
theorem ab_CW_116_117 : ∀ mi, 116 ≤ mi → mi < 117 → Cond.code (ab_nm mi) (ab_by mi) (ab_mxl mi) (ab_rt mi) ∈ ab_BIG := fun mi h1 h2 => by
  have e : mi = 116 := by omega
  subst e
  exact ab_cw116
theorem ab_CW_115_117 : ∀ mi, 115 ≤ mi → mi < 117 → Cond.code (ab_nm mi) (ab_by mi) (ab_mxl mi) (ab_rt mi) ∈ ab_BIG := fun mi h1 h2 => (Nat.lt_or_ge mi 116).elim (fun h => ab_CW_115_116 mi h1 h) (fun h => ab_CW_116_117 mi h h2)
theorem ab_CW_114_117 : ∀ mi, 114 ≤ mi → mi < 117 → Cond.code (ab_nm mi) (ab_by mi) (ab_mxl mi) (ab_rt mi) ∈ ab_BIG := fun mi h1 h2 => (Nat.lt_or_ge mi 115).elim (fun h => ab_CW_114_115 mi h1 h) (fun h => ab_CW_115_117 mi h h2)
theorem ab_CW_117_118 : ∀ mi, 117 ≤ mi → mi < 118 → Cond.code (ab_nm mi) (ab_by mi) (ab_mxl mi) (ab_rt mi) ∈ ab_BIG := fun mi h1 h2 => by
  have e : mi = 117 := by omega
  subst e
  exact ab_cw117
theorem ab_CW_118_119 : ∀ mi, 118 ≤ mi → mi < 119 → Cond.code (ab_nm mi) (ab_by mi) (ab_mxl mi) (ab_rt mi) ∈ ab_BIG := fun mi h1 h2 => by
  have e : mi = 118 := by omega
  subst e
  exact ab_cw118
theorem ab_CW_117_119 : ∀ mi, 117 ≤ mi → mi < 119 → Cond.code (ab_nm mi) (ab_by mi) (ab_mxl mi) (ab_rt mi) ∈ ab_BIG := fun mi h1 h2 => (Nat.lt_or_ge mi 118).elim (fun h => ab_CW_117_118 mi h1 h) (fun h => ab_CW_118_119 mi h h2)
theorem ab_CW_119_120 : ∀ mi, 119 ≤ mi → mi < 120 → Cond.code (ab_nm mi) (ab_by mi) (ab_mxl mi) (ab_rt mi) ∈ ab_BIG := fun mi h1 h2 => by
  have e : mi = 119 := by omega
  subst e
  exact ab_cw119
theorem ab_CW_120_121 : ∀ mi, 120 ≤ mi → mi < 121 → Cond.code (ab_nm mi) (ab_by mi) (ab_mxl mi) (ab_rt mi) ∈ ab_BIG := fun mi h1 h2 => by
  have e : mi = 120 := by omega
  subst e
  exact ab_cw120
theorem ab_CW_119_121 : ∀ mi, 119 ≤ mi → mi < 121 → Cond.code (ab_nm mi) (ab_by mi) (ab_mxl mi) (ab_rt mi) ∈ ab_BIG := fun mi h1 h2 => (Nat.lt_or_ge mi 120).elim (fun h => ab_CW_119_120 mi h1 h) (fun h => ab_CW_120_121 mi h h2)
theorem ab_CW_117_121 : ∀ mi, 117 ≤ mi → mi < 121 → Cond.code (ab_nm mi) (ab_by mi) (ab_mxl mi) (ab_rt mi) ∈ ab_BIG := fun mi h1 h2 => (Nat.lt_or_ge mi 119).elim (fun h => ab_CW_117_119 mi h1 h) (fun h => ab_CW_119_121 mi h h2)
theorem ab_CW_114_121 : ∀ mi, 114 ≤ mi → mi < 121 → Cond.code (ab_nm mi) (ab_by mi) (ab_mxl mi) (ab_rt mi) ∈ ab_BIG := fun mi h1 h2 => (Nat.lt_or_ge mi 117).elim (fun h => ab_CW_114_117 mi h1 h) (fun h => ab_CW_117_121 mi h h2)
theorem ab_CW_108_121 : ∀ mi, 108 ≤ mi → mi < 121 → Cond.code (ab_nm mi) (ab_by mi) (ab_mxl mi) (ab_rt mi) ∈ ab_BIG := fun mi h1 h2 => (Nat.lt_or_ge mi 114).elim (fun h => ab_CW_108_114 mi h1 h) (fun h => ab_CW_114_121 mi h h2)
theorem ab_CW_121_122 : ∀ mi, 121 ≤ mi → mi < 122 → Cond.code (ab_nm mi) (ab_by mi) (ab_mxl mi) (ab_rt mi) ∈ ab_BIG := fun mi h1 h2 => by
  have e : mi = 121 := by omega
  subst e
  exact ab_cw121
theorem ab_CW_122_123 : ∀ mi, 122 ≤ mi → mi < 123 → Cond.code (ab_nm mi) (ab_by mi) (ab_mxl mi) (ab_rt mi) ∈ ab_BIG := fun mi h1 h2 => by
  have e : mi = 122 := by omega
  subst e
  exact ab_cw122
theorem ab_CW_123_124 : ∀ mi, 123 ≤ mi → mi < 124 → Cond.code (ab_nm mi) (ab_by mi) (ab_mxl mi) (ab_rt mi) ∈ ab_BIG := fun mi h1 h2 => by
  have e : mi = 123 := by omega
  subst e
  exact ab_cw123
theorem ab_CW_122_124 : ∀ mi, 122 ≤ mi → mi < 124 → Cond.code (ab_nm mi) (ab_by mi) (ab_mxl mi) (ab_rt mi) ∈ ab_BIG := fun mi h1 h2 => (Nat.lt_or_ge mi 123).elim (fun h => ab_CW_122_123 mi h1 h) (fun h => ab_CW_123_124 mi h h2)
theorem ab_CW_121_124 : ∀ mi, 121 ≤ mi → mi < 124 → Cond.code (ab_nm mi) (ab_by mi) (ab_mxl mi) (ab_rt mi) ∈ ab_BIG := fun mi h1 h2 => (Nat.lt_or_ge mi 122).elim (fun h => ab_CW_121_122 mi h1 h) (fun h => ab_CW_122_124 mi h h2)
theorem ab_CW_124_125 : ∀ mi, 124 ≤ mi → mi < 125 → Cond.code (ab_nm mi) (ab_by mi) (ab_mxl mi) (ab_rt mi) ∈ ab_BIG := fun mi h1 h2 => by
  have e : mi = 124 := by omega
  subst e
  exact ab_cw124
theorem ab_CW_125_126 : ∀ mi, 125 ≤ mi → mi < 126 → Cond.code (ab_nm mi) (ab_by mi) (ab_mxl mi) (ab_rt mi) ∈ ab_BIG := fun mi h1 h2 => by
  have e : mi = 125 := by omega
  subst e
  exact ab_cw125
theorem ab_CW_124_126 : ∀ mi, 124 ≤ mi → mi < 126 → Cond.code (ab_nm mi) (ab_by mi) (ab_mxl mi) (ab_rt mi) ∈ ab_BIG := fun mi h1 h2 => (Nat.lt_or_ge mi 125).elim (fun h => ab_CW_124_125 mi h1 h) (fun h => ab_CW_125_126 mi h h2)
theorem ab_CW_126_127 : ∀ mi, 126 ≤ mi → mi < 127 → Cond.code (ab_nm mi) (ab_by mi) (ab_mxl mi) (ab_rt mi) ∈ ab_BIG := fun mi h1 h2 => by
  have e : mi = 126 := by omega
  subst e
  exact ab_cw126
theorem ab_CW_127_128 : ∀ mi, 127 ≤ mi → mi < 128 → Cond.code (ab_nm mi) (ab_by mi) (ab_mxl mi) (ab_rt mi) ∈ ab_BIG := fun mi h1 h2 => by
  have e : mi = 127 := by omega
  subst e
  exact ab_cw127
theorem ab_CW_126_128 : ∀ mi, 126 ≤ mi → mi < 128 → Cond.code (ab_nm mi) (ab_by mi) (ab_mxl mi) (ab_rt mi) ∈ ab_BIG := fun mi h1 h2 => (Nat.lt_or_ge mi 127).elim (fun h => ab_CW_126_127 mi h1 h) (fun h => ab_CW_127_128 mi h h2)
theorem ab_CW_124_128 : ∀ mi, 124 ≤ mi → mi < 128 → Cond.code (ab_nm mi) (ab_by mi) (ab_mxl mi) (ab_rt mi) ∈ ab_BIG := fun mi h1 h2 => (Nat.lt_or_ge mi 126).elim (fun h => ab_CW_124_126 mi h1 h) (fun h => ab_CW_126_128 mi h h2)
theorem ab_CW_121_128 : ∀ mi, 121 ≤ mi → mi < 128 → Cond.code (ab_nm mi) (ab_by mi) (ab_mxl mi) (ab_rt mi) ∈ ab_BIG := fun mi h1 h2 => (Nat.lt_or_ge mi 124).elim (fun h => ab_CW_121_124 mi h1 h) (fun h => ab_CW_124_128 mi h h2)
theorem ab_CW_128_129 : ∀ mi, 128 ≤ mi → mi < 129 → Cond.code (ab_nm mi) (ab_by mi) (ab_mxl mi) (ab_rt mi) ∈ ab_BIG := fun mi h1 h2 => by
  have e : mi = 128 := by omega
  subst e
  exact ab_cw128
theorem ab_CW_129_130 : ∀ mi, 129 ≤ mi → mi < 130 → Cond.code (ab_nm mi) (ab_by mi) (ab_mxl mi) (ab_rt mi) ∈ ab_BIG := fun mi h1 h2 => by
  have e : mi = 129 := by omega
  subst e
  exact ab_cw129
theorem ab_CW_130_131 : ∀ mi, 130 ≤ mi → mi < 131 → Cond.code (ab_nm mi) (ab_by mi) (ab_mxl mi) (ab_rt mi) ∈ ab_BIG := fun mi h1 h2 => by
  have e : mi = 130 := by omega
  subst e
  exact ab_cw130
theorem ab_CW_129_131 : ∀ mi, 129 ≤ mi → mi < 131 → Cond.code (ab_nm mi) (ab_by mi) (ab_mxl mi) (ab_rt mi) ∈ ab_BIG := fun mi h1 h2 => (Nat.lt_or_ge mi 130).elim (fun h => ab_CW_129_130 mi h1 h) (fun h => ab_CW_130_131 mi h h2)
theorem ab_CW_128_131 : ∀ mi, 128 ≤ mi → mi < 131 → Cond.code (ab_nm mi) (ab_by mi) (ab_mxl mi) (ab_rt mi) ∈ ab_BIG := fun mi h1 h2 => (Nat.lt_or_ge mi 129).elim (fun h => ab_CW_128_129 mi h1 h) (fun h => ab_CW_129_131 mi h h2)
theorem ab_CW_131_132 : ∀ mi, 131 ≤ mi → mi < 132 → Cond.code (ab_nm mi) (ab_by mi) (ab_mxl mi) (ab_rt mi) ∈ ab_BIG := fun mi h1 h2 => by
  have e : mi = 131 := by omega
  subst e
  exact ab_cw131
theorem ab_CW_132_133 : ∀ mi, 132 ≤ mi → mi < 133 → Cond.code (ab_nm mi) (ab_by mi) (ab_mxl mi) (ab_rt mi) ∈ ab_BIG := fun mi h1 h2 => by
  have e : mi = 132 := by omega
  subst e
  exact ab_cw132
theorem ab_CW_131_133 : ∀ mi, 131 ≤ mi → mi < 133 → Cond.code (ab_nm mi) (ab_by mi) (ab_mxl mi) (ab_rt mi) ∈ ab_BIG := fun mi h1 h2 => (Nat.lt_or_ge mi 132).elim (fun h => ab_CW_131_132 mi h1 h) (fun h => ab_CW_132_133 mi h h2)
theorem ab_CW_133_134 : ∀ mi, 133 ≤ mi → mi < 134 → Cond.code (ab_nm mi) (ab_by mi) (ab_mxl mi) (ab_rt mi) ∈ ab_BIG := fun mi h1 h2 => by
  have e : mi = 133 := by omega
  subst e
  exact ab_cw133
theorem ab_CW_134_135 : ∀ mi, 134 ≤ mi → mi < 135 → Cond.code (ab_nm mi) (ab_by mi) (ab_mxl mi) (ab_rt mi) ∈ ab_BIG := fun mi h1 h2 => by
  have e : mi = 134 := by omega
  subst e
  exact ab_cw134
theorem ab_CW_133_135 : ∀ mi, 133 ≤ mi → mi < 135 → Cond.code (ab_nm mi) (ab_by mi) (ab_mxl mi) (ab_rt mi) ∈ ab_BIG := fun mi h1 h2 => (Nat.lt_or_ge mi 134).elim (fun h => ab_CW_133_134 mi h1 h) (fun h => ab_CW_134_135 mi h h2)
theorem ab_CW_131_135 : ∀ mi, 131 ≤ mi → mi < 135 → Cond.code (ab_nm mi) (ab_by mi) (ab_mxl mi) (ab_rt mi) ∈ ab_BIG := fun mi h1 h2 => (Nat.lt_or_ge mi 133).elim (fun h => ab_CW_131_133 mi h1 h) (fun h => ab_CW_133_135 mi h h2)
theorem ab_CW_128_135 : ∀ mi, 128 ≤ mi → mi < 135 → Cond.code (ab_nm mi) (ab_by mi) (ab_mxl mi) (ab_rt mi) ∈ ab_BIG := fun mi h1 h2 => (Nat.lt_or_ge mi 131).elim (fun h => ab_CW_128_131 mi h1 h) (fun h => ab_CW_131_135 mi h h2)
theorem ab_CW_121_135 : ∀ mi, 121 ≤ mi → mi < 135 → Cond.code (ab_nm mi) (ab_by mi) (ab_mxl mi) (ab_rt mi) ∈ ab_BIG := fun mi h1 h2 => (Nat.lt_or_ge mi 128).elim (fun h => ab_CW_121_128 mi h1 h) (fun h => ab_CW_128_135 mi h h2)
theorem ab_CW_108_135 : ∀ mi, 108 ≤ mi → mi < 135 → Cond.code (ab_nm mi) (ab_by mi) (ab_mxl mi) (ab_rt mi) ∈ ab_BIG := fun mi h1 h2 => (Nat.lt_or_ge mi 121).elim (fun h => ab_CW_108_121 mi h1 h) (fun h => ab_CW_121_135 mi h h2)
theorem ab_CW_135_136 : ∀ mi, 135 ≤ mi → mi < 136 → Cond.code (ab_nm mi) (ab_by mi) (ab_mxl mi) (ab_rt mi) ∈ ab_BIG := fun mi h1 h2 => by
  have e : mi = 135 := by omega
  subst e
  exact ab_cw135
theorem ab_CW_136_137 : ∀ mi, 136 ≤ mi → mi < 137 → Cond.code (ab_nm mi) (ab_by mi) (ab_mxl mi) (ab_rt mi) ∈ ab_BIG := fun mi h1 h2 => by
  have e : mi = 136 := by omega
  subst e
  exact ab_cw136
theorem ab_CW_137_138 : ∀ mi, 137 ≤ mi → mi < 138 → Cond.code (ab_nm mi) (ab_by mi) (ab_mxl mi) (ab_rt mi) ∈ ab_BIG := fun mi h1 h2 => by
  have e : mi = 137 := by omega
  subst e
  exact ab_cw137
theorem ab_CW_136_138 : ∀ mi, 136 ≤ mi → mi < 138 → Cond.code (ab_nm mi) (ab_by mi) (ab_mxl mi) (ab_rt mi) ∈ ab_BIG := fun mi h1 h2 => (Nat.lt_or_ge mi 137).elim (fun h => ab_CW_136_137 mi h1 h) (fun h => ab_CW_137_138 mi h h2)
theorem ab_CW_135_138 : ∀ mi, 135 ≤ mi → mi < 138 → Cond.code (ab_nm mi) (ab_by mi) (ab_mxl mi) (ab_rt mi) ∈ ab_BIG := fun mi h1 h2 => (Nat.lt_or_ge mi 136).elim (fun h => ab_CW_135_136 mi h1 h) (fun h => ab_CW_136_138 mi h h2)
theorem ab_CW_138_139 : ∀ mi, 138 ≤ mi → mi < 139 → Cond.code (ab_nm mi) (ab_by mi) (ab_mxl mi) (ab_rt mi) ∈ ab_BIG := fun mi h1 h2 => by
  have e : mi = 138 := by omega
  subst e
  exact ab_cw138
theorem ab_CW_139_140 : ∀ mi, 139 ≤ mi → mi < 140 → Cond.code (ab_nm mi) (ab_by mi) (ab_mxl mi) (ab_rt mi) ∈ ab_BIG := fun mi h1 h2 => by
  have e : mi = 139 := by omega
  subst e
  exact ab_cw139
theorem ab_CW_140_141 : ∀ mi, 140 ≤ mi → mi < 141 → Cond.code (ab_nm mi) (ab_by mi) (ab_mxl mi) (ab_rt mi) ∈ ab_BIG := fun mi h1 h2 => by
  have e : mi = 140 := by omega
  subst e
  exact ab_cw140
theorem ab_CW_139_141 : ∀ mi, 139 ≤ mi → mi < 141 → Cond.code (ab_nm mi) (ab_by mi) (ab_mxl mi) (ab_rt mi) ∈ ab_BIG := fun mi h1 h2 => (Nat.lt_or_ge mi 140).elim (fun h => ab_CW_139_140 mi h1 h) (fun h => ab_CW_140_141 mi h h2)
theorem ab_CW_138_141 : ∀ mi, 138 ≤ mi → mi < 141 → Cond.code (ab_nm mi) (ab_by mi) (ab_mxl mi) (ab_rt mi) ∈ ab_BIG := fun mi h1 h2 => (Nat.lt_or_ge mi 139).elim (fun h => ab_CW_138_139 mi h1 h) (fun h => ab_CW_139_141 mi h h2)
theorem ab_CW_135_141 : ∀ mi, 135 ≤ mi → mi < 141 → Cond.code (ab_nm mi) (ab_by mi) (ab_mxl mi) (ab_rt mi) ∈ ab_BIG := fun mi h1 h2 => (Nat.lt_or_ge mi 138).elim (fun h => ab_CW_135_138 mi h1 h) (fun h => ab_CW_138_141 mi h h2)
theorem ab_CW_141_142 : ∀ mi, 141 ≤ mi → mi < 142 → Cond.code (ab_nm mi) (ab_by mi) (ab_mxl mi) (ab_rt mi) ∈ ab_BIG := fun mi h1 h2 => by
  have e : mi = 141 := by omega
  subst e
  exact ab_cw141
theorem ab_CW_142_143 : ∀ mi, 142 ≤ mi → mi < 143 → Cond.code (ab_nm mi) (ab_by mi) (ab_mxl mi) (ab_rt mi) ∈ ab_BIG := fun mi h1 h2 => by
  have e : mi = 142 := by omega
  subst e
  exact ab_cw142
theorem ab_CW_143_144 : ∀ mi, 143 ≤ mi → mi < 144 → Cond.code (ab_nm mi) (ab_by mi) (ab_mxl mi) (ab_rt mi) ∈ ab_BIG := fun mi h1 h2 => by
  have e : mi = 143 := by omega
  subst e
  exact ab_cw143
theorem ab_CW_142_144 : ∀ mi, 142 ≤ mi → mi < 144 → Cond.code (ab_nm mi) (ab_by mi) (ab_mxl mi) (ab_rt mi) ∈ ab_BIG := fun mi h1 h2 => (Nat.lt_or_ge mi 143).elim (fun h => ab_CW_142_143 mi h1 h) (fun h => ab_CW_143_144 mi h h2)
theorem ab_CW_141_144 : ∀ mi, 141 ≤ mi → mi < 144 → Cond.code (ab_nm mi) (ab_by mi) (ab_mxl mi) (ab_rt mi) ∈ ab_BIG := fun mi h1 h2 => (Nat.lt_or_ge mi 142).elim (fun h => ab_CW_141_142 mi h1 h) (fun h => ab_CW_142_144 mi h h2)
theorem ab_CW_144_145 : ∀ mi, 144 ≤ mi → mi < 145 → Cond.code (ab_nm mi) (ab_by mi) (ab_mxl mi) (ab_rt mi) ∈ ab_BIG := fun mi h1 h2 => by
  have e : mi = 144 := by omega
  subst e
  exact ab_cw144
theorem ab_CW_145_146 : ∀ mi, 145 ≤ mi → mi < 146 → Cond.code (ab_nm mi) (ab_by mi) (ab_mxl mi) (ab_rt mi) ∈ ab_BIG := fun mi h1 h2 => by
  have e : mi = 145 := by omega
  subst e
  exact ab_cw145
theorem ab_CW_144_146 : ∀ mi, 144 ≤ mi → mi < 146 → Cond.code (ab_nm mi) (ab_by mi) (ab_mxl mi) (ab_rt mi) ∈ ab_BIG := fun mi h1 h2 => (Nat.lt_or_ge mi 145).elim (fun h => ab_CW_144_145 mi h1 h) (fun h => ab_CW_145_146 mi h h2)
theorem ab_CW_146_147 : ∀ mi, 146 ≤ mi → mi < 147 → Cond.code (ab_nm mi) (ab_by mi) (ab_mxl mi) (ab_rt mi) ∈ ab_BIG := fun mi h1 h2 => by
  have e : mi = 146 := by omega
  subst e
  exact ab_cw146
theorem ab_CW_147_148 : ∀ mi, 147 ≤ mi → mi < 148 → Cond.code (ab_nm mi) (ab_by mi) (ab_mxl mi) (ab_rt mi) ∈ ab_BIG := fun mi h1 h2 => by
  have e : mi = 147 := by omega
  subst e
  exact ab_cw147
theorem ab_CW_146_148 : ∀ mi, 146 ≤ mi → mi < 148 → Cond.code (ab_nm mi) (ab_by mi) (ab_mxl mi) (ab_rt mi) ∈ ab_BIG := fun mi h1 h2 => (Nat.lt_or_ge mi 147).elim (fun h => ab_CW_146_147 mi h1 h) (fun h => ab_CW_147_148 mi h h2)
theorem ab_CW_144_148 : ∀ mi, 144 ≤ mi → mi < 148 → Cond.code (ab_nm mi) (ab_by mi) (ab_mxl mi) (ab_rt mi) ∈ ab_BIG := fun mi h1 h2 => (Nat.lt_or_ge mi 146).elim (fun h => ab_CW_144_146 mi h1 h) (fun h => ab_CW_146_148 mi h h2)
theorem ab_CW_141_148 : ∀ mi, 141 ≤ mi → mi < 148 → Cond.code (ab_nm mi) (ab_by mi) (ab_mxl mi) (ab_rt mi) ∈ ab_BIG := fun mi h1 h2 => (Nat.lt_or_ge mi 144).elim (fun h => ab_CW_141_144 mi h1 h) (fun h => ab_CW_144_148 mi h h2)
theorem ab_CW_135_148 : ∀ mi, 135 ≤ mi → mi < 148 → Cond.code (ab_nm mi) (ab_by mi) (ab_mxl mi) (ab_rt mi) ∈ ab_BIG := fun mi h1 h2 => (Nat.lt_or_ge mi 141).elim (fun h => ab_CW_135_141 mi h1 h) (fun h => ab_CW_141_148 mi h h2)
theorem ab_CW_148_149 : ∀ mi, 148 ≤ mi → mi < 149 → Cond.code (ab_nm mi) (ab_by mi) (ab_mxl mi) (ab_rt mi) ∈ ab_BIG := fun mi h1 h2 => by
  have e : mi = 148 := by omega
  subst e
  exact ab_cw148
theorem ab_CW_149_150 : ∀ mi, 149 ≤ mi → mi < 150 → Cond.code (ab_nm mi) (ab_by mi) (ab_mxl mi) (ab_rt mi) ∈ ab_BIG := fun mi h1 h2 => by
  have e : mi = 149 := by omega
  subst e
  exact ab_cw149
theorem ab_CW_150_151 : ∀ mi, 150 ≤ mi → mi < 151 → Cond.code (ab_nm mi) (ab_by mi) (ab_mxl mi) (ab_rt mi) ∈ ab_BIG := fun mi h1 h2 => by
  have e : mi = 150 := by omega
  subst e
  exact ab_cw150
theorem ab_CW_149_151 : ∀ mi, 149 ≤ mi → mi < 151 → Cond.code (ab_nm mi) (ab_by mi) (ab_mxl mi) (ab_rt mi) ∈ ab_BIG := fun mi h1 h2 => (Nat.lt_or_ge mi 150).elim (fun h => ab_CW_149_150 mi h1 h) (fun h => ab_CW_150_151 mi h h2)
theorem ab_CW_148_151 : ∀ mi, 148 ≤ mi → mi < 151 → Cond.code (ab_nm mi) (ab_by mi) (ab_mxl mi) (ab_rt mi) ∈ ab_BIG := fun mi h1 h2 => (Nat.lt_or_ge mi 149).elim (fun h => ab_CW_148_149 mi h1 h) (fun h => ab_CW_149_151 mi h h2)
theorem ab_CW_151_152 : ∀ mi, 151 ≤ mi → mi < 152 → Cond.code (ab_nm mi) (ab_by mi) (ab_mxl mi) (ab_rt mi) ∈ ab_BIG := fun mi h1 h2 => by
  have e : mi = 151 := by omega
  subst e
  exact ab_cw151
theorem ab_CW_152_153 : ∀ mi, 152 ≤ mi → mi < 153 → Cond.code (ab_nm mi) (ab_by mi) (ab_mxl mi) (ab_rt mi) ∈ ab_BIG := fun mi h1 h2 => by
  have e : mi = 152 := by omega
  subst e
  exact ab_cw152
theorem ab_CW_151_153 : ∀ mi, 151 ≤ mi → mi < 153 → Cond.code (ab_nm mi) (ab_by mi) (ab_mxl mi) (ab_rt mi) ∈ ab_BIG := fun mi h1 h2 => (Nat.lt_or_ge mi 152).elim (fun h => ab_CW_151_152 mi h1 h) (fun h => ab_CW_152_153 mi h h2)
theorem ab_CW_153_154 : ∀ mi, 153 ≤ mi → mi < 154 → Cond.code (ab_nm mi) (ab_by mi) (ab_mxl mi) (ab_rt mi) ∈ ab_BIG := fun mi h1 h2 => by
  have e : mi = 153 := by omega
  subst e
  exact ab_cw153
theorem ab_CW_154_155 : ∀ mi, 154 ≤ mi → mi < 155 → Cond.code (ab_nm mi) (ab_by mi) (ab_mxl mi) (ab_rt mi) ∈ ab_BIG := fun mi h1 h2 => by
  have e : mi = 154 := by omega
  subst e
  exact ab_cw154
theorem ab_CW_153_155 : ∀ mi, 153 ≤ mi → mi < 155 → Cond.code (ab_nm mi) (ab_by mi) (ab_mxl mi) (ab_rt mi) ∈ ab_BIG := fun mi h1 h2 => (Nat.lt_or_ge mi 154).elim (fun h => ab_CW_153_154 mi h1 h) (fun h => ab_CW_154_155 mi h h2)
theorem ab_CW_151_155 : ∀ mi, 151 ≤ mi → mi < 155 → Cond.code (ab_nm mi) (ab_by mi) (ab_mxl mi) (ab_rt mi) ∈ ab_BIG := fun mi h1 h2 => (Nat.lt_or_ge mi 153).elim (fun h => ab_CW_151_153 mi h1 h) (fun h => ab_CW_153_155 mi h h2)
theorem ab_CW_148_155 : ∀ mi, 148 ≤ mi → mi < 155 → Cond.code (ab_nm mi) (ab_by mi) (ab_mxl mi) (ab_rt mi) ∈ ab_BIG := fun mi h1 h2 => (Nat.lt_or_ge mi 151).elim (fun h => ab_CW_148_151 mi h1 h) (fun h => ab_CW_151_155 mi h h2)
theorem ab_CW_155_156 : ∀ mi, 155 ≤ mi → mi < 156 → Cond.code (ab_nm mi) (ab_by mi) (ab_mxl mi) (ab_rt mi) ∈ ab_BIG := fun mi h1 h2 => by
  have e : mi = 155 := by omega
  subst e
  exact ab_cw155
theorem ab_CW_156_157 : ∀ mi, 156 ≤ mi → mi < 157 → Cond.code (ab_nm mi) (ab_by mi) (ab_mxl mi) (ab_rt mi) ∈ ab_BIG := fun mi h1 h2 => by
  have e : mi = 156 := by omega
  subst e
  exact ab_cw156
theorem ab_CW_157_158 : ∀ mi, 157 ≤ mi → mi < 158 → Cond.code (ab_nm mi) (ab_by mi) (ab_mxl mi) (ab_rt mi) ∈ ab_BIG := fun mi h1 h2 => by
  have e : mi = 157 := by omega
  subst e
  exact ab_cw157
theorem ab_CW_156_158 : ∀ mi, 156 ≤ mi → mi < 158 → Cond.code (ab_nm mi) (ab_by mi) (ab_mxl mi) (ab_rt mi) ∈ ab_BIG := fun mi h1 h2 => (Nat.lt_or_ge mi 157).elim (fun h => ab_CW_156_157 mi h1 h) (fun h => ab_CW_157_158 mi h h2)
theorem ab_CW_155_158 : ∀ mi, 155 ≤ mi → mi < 158 → Cond.code (ab_nm mi) (ab_by mi) (ab_mxl mi) (ab_rt mi) ∈ ab_BIG := fun mi h1 h2 => (Nat.lt_or_ge mi 156).elim (fun h => ab_CW_155_156 mi h1 h) (fun h => ab_CW_156_158 mi h h2)
theorem ab_CW_158_159 : ∀ mi, 158 ≤ mi → mi < 159 → Cond.code (ab_nm mi) (ab_by mi) (ab_mxl mi) (ab_rt mi) ∈ ab_BIG := fun mi h1 h2 => by
  have e : mi = 158 := by omega
  subst e
  exact ab_cw158
theorem ab_CW_159_160 : ∀ mi, 159 ≤ mi → mi < 160 → Cond.code (ab_nm mi) (ab_by mi) (ab_mxl mi) (ab_rt mi) ∈ ab_BIG := fun mi h1 h2 => by
  have e : mi = 159 := by omega
  subst e
  exact ab_cw159
theorem ab_CW_158_160 : ∀ mi, 158 ≤ mi → mi < 160 → Cond.code (ab_nm mi) (ab_by mi) (ab_mxl mi) (ab_rt mi) ∈ ab_BIG := fun mi h1 h2 => (Nat.lt_or_ge mi 159).elim (fun h => ab_CW_158_159 mi h1 h) (fun h => ab_CW_159_160 mi h h2)
theorem ab_CW_160_161 : ∀ mi, 160 ≤ mi → mi < 161 → Cond.code (ab_nm mi) (ab_by mi) (ab_mxl mi) (ab_rt mi) ∈ ab_BIG := fun mi h1 h2 => by
  have e : mi = 160 := by omega
  subst e
  exact ab_cw160
theorem ab_CW_161_162 : ∀ mi, 161 ≤ mi → mi < 162 → Cond.code (ab_nm mi) (ab_by mi) (ab_mxl mi) (ab_rt mi) ∈ ab_BIG := fun mi h1 h2 => by
  have e : mi = 161 := by omega
  subst e
  exact ab_cw161
theorem ab_CW_160_162 : ∀ mi, 160 ≤ mi → mi < 162 → Cond.code (ab_nm mi) (ab_by mi) (ab_mxl mi) (ab_rt mi) ∈ ab_BIG := fun mi h1 h2 => (Nat.lt_or_ge mi 161).elim (fun h => ab_CW_160_161 mi h1 h) (fun h => ab_CW_161_162 mi h h2)
theorem ab_CW_158_162 : ∀ mi, 158 ≤ mi → mi < 162 → Cond.code (ab_nm mi) (ab_by mi) (ab_mxl mi) (ab_rt mi) ∈ ab_BIG := fun mi h1 h2 => (Nat.lt_or_ge mi 160).elim (fun h => ab_CW_158_160 mi h1 h) (fun h => ab_CW_160_162 mi h h2)
theorem ab_CW_155_162 : ∀ mi, 155 ≤ mi → mi < 162 → Cond.code (ab_nm mi) (ab_by mi) (ab_mxl mi) (ab_rt mi) ∈ ab_BIG := fun mi h1 h2 => (Nat.lt_or_ge mi 158).elim (fun h => ab_CW_155_158 mi h1 h) (fun h => ab_CW_158_162 mi h h2)
theorem ab_CW_148_162 : ∀ mi, 148 ≤ mi → mi < 162 → Cond.code (ab_nm mi) (ab_by mi) (ab_mxl mi) (ab_rt mi) ∈ ab_BIG := fun mi h1 h2 => (Nat.lt_or_ge mi 155).elim (fun h => ab_CW_148_155 mi h1 h) (fun h => ab_CW_155_162 mi h h2)
theorem ab_CW_135_162 : ∀ mi, 135 ≤ mi → mi < 162 → Cond.code (ab_nm mi) (ab_by mi) (ab_mxl mi) (ab_rt mi) ∈ ab_BIG := fun mi h1 h2 => (Nat.lt_or_ge mi 148).elim (fun h => ab_CW_135_148 mi h1 h) (fun h => ab_CW_148_162 mi h h2)
theorem ab_CW_108_162 : ∀ mi, 108 ≤ mi → mi < 162 → Cond.code (ab_nm mi) (ab_by mi) (ab_mxl mi) (ab_rt mi) ∈ ab_BIG := fun mi h1 h2 => (Nat.lt_or_ge mi 135).elim (fun h => ab_CW_108_135 mi h1 h) (fun h => ab_CW_135_162 mi h h2)
theorem ab_CW_162_163 : ∀ mi, 162 ≤ mi → mi < 163 → Cond.code (ab_nm mi) (ab_by mi) (ab_mxl mi) (ab_rt mi) ∈ ab_BIG := fun mi h1 h2 => by
  have e : mi = 162 := by omega
  subst e
  exact ab_cw162
theorem ab_CW_163_164 : ∀ mi, 163 ≤ mi → mi < 164 → Cond.code (ab_nm mi) (ab_by mi) (ab_mxl mi) (ab_rt mi) ∈ ab_BIG := fun mi h1 h2 => by
  have e : mi = 163 := by omega
  subst e
  exact ab_cw163
theorem ab_CW_164_165 : ∀ mi, 164 ≤ mi → mi < 165 → Cond.code (ab_nm mi) (ab_by mi) (ab_mxl mi) (ab_rt mi) ∈ ab_BIG := fun mi h1 h2 => by
  have e : mi = 164 := by omega
  subst e
  exact ab_cw164
theorem ab_CW_163_165 : ∀ mi, 163 ≤ mi → mi < 165 → Cond.code (ab_nm mi) (ab_by mi) (ab_mxl mi) (ab_rt mi) ∈ ab_BIG := fun mi h1 h2 => (Nat.lt_or_ge mi 164).elim (fun h => ab_CW_163_164 mi h1 h) (fun h => ab_CW_164_165 mi h h2)
theorem ab_CW_162_165 : ∀ mi, 162 ≤ mi → mi < 165 → Cond.code (ab_nm mi) (ab_by mi) (ab_mxl mi) (ab_rt mi) ∈ ab_BIG := fun mi h1 h2 => (Nat.lt_or_ge mi 163).elim (fun h => ab_CW_162_163 mi h1 h) (fun h => ab_CW_163_165 mi h h2)
theorem ab_CW_165_166 : ∀ mi, 165 ≤ mi → mi < 166 → Cond.code (ab_nm mi) (ab_by mi) (ab_mxl mi) (ab_rt mi) ∈ ab_BIG := fun mi h1 h2 => by
  have e : mi = 165 := by omega
  subst e
  exact ab_cw165
theorem ab_CW_166_167 : ∀ mi, 166 ≤ mi → mi < 167 → Cond.code (ab_nm mi) (ab_by mi) (ab_mxl mi) (ab_rt mi) ∈ ab_BIG := fun mi h1 h2 => by
  have e : mi = 166 := by omega
  subst e
  exact ab_cw166
theorem ab_CW_167_168 : ∀ mi, 167 ≤ mi → mi < 168 → Cond.code (ab_nm mi) (ab_by mi) (ab_mxl mi) (ab_rt mi) ∈ ab_BIG := fun mi h1 h2 => by
  have e : mi = 167 := by omega
  subst e
  exact ab_cw167
theorem ab_CW_166_168 : ∀ mi, 166 ≤ mi → mi < 168 → Cond.code (ab_nm mi) (ab_by mi) (ab_mxl mi) (ab_rt mi) ∈ ab_BIG := fun mi h1 h2 => (Nat.lt_or_ge mi 167).elim (fun h => ab_CW_166_167 mi h1 h) (fun h => ab_CW_167_168 mi h h2)
theorem ab_CW_165_168 : ∀ mi, 165 ≤ mi → mi < 168 → Cond.code (ab_nm mi) (ab_by mi) (ab_mxl mi) (ab_rt mi) ∈ ab_BIG := fun mi h1 h2 => (Nat.lt_or_ge mi 166).elim (fun h => ab_CW_165_166 mi h1 h) (fun h => ab_CW_166_168 mi h h2)
theorem ab_CW_162_168 : ∀ mi, 162 ≤ mi → mi < 168 → Cond.code (ab_nm mi) (ab_by mi) (ab_mxl mi) (ab_rt mi) ∈ ab_BIG := fun mi h1 h2 => (Nat.lt_or_ge mi 165).elim (fun h => ab_CW_162_165 mi h1 h) (fun h => ab_CW_165_168 mi h h2)
theorem ab_CW_168_169 : ∀ mi, 168 ≤ mi → mi < 169 → Cond.code (ab_nm mi) (ab_by mi) (ab_mxl mi) (ab_rt mi) ∈ ab_BIG := fun mi h1 h2 => by
  have e : mi = 168 := by omega
  subst e
  exact ab_cw168
theorem ab_CW_169_170 : ∀ mi, 169 ≤ mi → mi < 170 → Cond.code (ab_nm mi) (ab_by mi) (ab_mxl mi) (ab_rt mi) ∈ ab_BIG := fun mi h1 h2 => by
  have e : mi = 169 := by omega
  subst e
  exact ab_cw169
theorem ab_CW_170_171 : ∀ mi, 170 ≤ mi → mi < 171 → Cond.code (ab_nm mi) (ab_by mi) (ab_mxl mi) (ab_rt mi) ∈ ab_BIG := fun mi h1 h2 => by
  have e : mi = 170 := by omega
  subst e
  exact ab_cw170
theorem ab_CW_169_171 : ∀ mi, 169 ≤ mi → mi < 171 → Cond.code (ab_nm mi) (ab_by mi) (ab_mxl mi) (ab_rt mi) ∈ ab_BIG := fun mi h1 h2 => (Nat.lt_or_ge mi 170).elim (fun h => ab_CW_169_170 mi h1 h) (fun h => ab_CW_170_171 mi h h2)
theorem ab_CW_168_171 : ∀ mi, 168 ≤ mi → mi < 171 → Cond.code (ab_nm mi) (ab_by mi) (ab_mxl mi) (ab_rt mi) ∈ ab_BIG := fun mi h1 h2 => (Nat.lt_or_ge mi 169).elim (fun h => ab_CW_168_169 mi h1 h) (fun h => ab_CW_169_171 mi h h2)
theorem ab_CW_171_172 : ∀ mi, 171 ≤ mi → mi < 172 → Cond.code (ab_nm mi) (ab_by mi) (ab_mxl mi) (ab_rt mi) ∈ ab_BIG := fun mi h1 h2 => by
  have e : mi = 171 := by omega
  subst e
  exact ab_cw171
theorem ab_CW_172_173 : ∀ mi, 172 ≤ mi → mi < 173 → Cond.code (ab_nm mi) (ab_by mi) (ab_mxl mi) (ab_rt mi) ∈ ab_BIG := fun mi h1 h2 => by
  have e : mi = 172 := by omega
  subst e
  exact ab_cw172
theorem ab_CW_171_173 : ∀ mi, 171 ≤ mi → mi < 173 → Cond.code (ab_nm mi) (ab_by mi) (ab_mxl mi) (ab_rt mi) ∈ ab_BIG := fun mi h1 h2 => (Nat.lt_or_ge mi 172).elim (fun h => ab_CW_171_172 mi h1 h) (fun h => ab_CW_172_173 mi h h2)
theorem ab_CW_173_174 : ∀ mi, 173 ≤ mi → mi < 174 → Cond.code (ab_nm mi) (ab_by mi) (ab_mxl mi) (ab_rt mi) ∈ ab_BIG := fun mi h1 h2 => by
  have e : mi = 173 := by omega
  subst e
  exact ab_cw173
theorem ab_CW_174_175 : ∀ mi, 174 ≤ mi → mi < 175 → Cond.code (ab_nm mi) (ab_by mi) (ab_mxl mi) (ab_rt mi) ∈ ab_BIG := fun mi h1 h2 => by
  have e : mi = 174 := by omega
  subst e
  exact ab_cw174
theorem ab_CW_173_175 : ∀ mi, 173 ≤ mi → mi < 175 → Cond.code (ab_nm mi) (ab_by mi) (ab_mxl mi) (ab_rt mi) ∈ ab_BIG := fun mi h1 h2 => (Nat.lt_or_ge mi 174).elim (fun h => ab_CW_173_174 mi h1 h) (fun h => ab_CW_174_175 mi h h2)
theorem ab_CW_171_175 : ∀ mi, 171 ≤ mi → mi < 175 → Cond.code (ab_nm mi) (ab_by mi) (ab_mxl mi) (ab_rt mi) ∈ ab_BIG := fun mi h1 h2 => (Nat.lt_or_ge mi 173).elim (fun h => ab_CW_171_173 mi h1 h) (fun h => ab_CW_173_175 mi h h2)
theorem ab_CW_168_175 : ∀ mi, 168 ≤ mi → mi < 175 → Cond.code (ab_nm mi) (ab_by mi) (ab_mxl mi) (ab_rt mi) ∈ ab_BIG := fun mi h1 h2 => (Nat.lt_or_ge mi 171).elim (fun h => ab_CW_168_171 mi h1 h) (fun h => ab_CW_171_175 mi h h2)
theorem ab_CW_162_175 : ∀ mi, 162 ≤ mi → mi < 175 → Cond.code (ab_nm mi) (ab_by mi) (ab_mxl mi) (ab_rt mi) ∈ ab_BIG := fun mi h1 h2 => (Nat.lt_or_ge mi 168).elim (fun h => ab_CW_162_168 mi h1 h) (fun h => ab_CW_168_175 mi h h2)
theorem ab_CW_175_176 : ∀ mi, 175 ≤ mi → mi < 176 → Cond.code (ab_nm mi) (ab_by mi) (ab_mxl mi) (ab_rt mi) ∈ ab_BIG := fun mi h1 h2 => by
  have e : mi = 175 := by omega
  subst e
  exact ab_cw175
theorem ab_CW_176_177 : ∀ mi, 176 ≤ mi → mi < 177 → Cond.code (ab_nm mi) (ab_by mi) (ab_mxl mi) (ab_rt mi) ∈ ab_BIG := fun mi h1 h2 => by
  have e : mi = 176 := by omega
  subst e
  exact ab_cw176
theorem ab_CW_177_178 : ∀ mi, 177 ≤ mi → mi < 178 → Cond.code (ab_nm mi) (ab_by mi) (ab_mxl mi) (ab_rt mi) ∈ ab_BIG := fun mi h1 h2 => by
  have e : mi = 177 := by omega
  subst e
  exact ab_cw177
theorem ab_CW_176_178 : ∀ mi, 176 ≤ mi → mi < 178 → Cond.code (ab_nm mi) (ab_by mi) (ab_mxl mi) (ab_rt mi) ∈ ab_BIG := fun mi h1 h2 => (Nat.lt_or_ge mi 177).elim (fun h => ab_CW_176_177 mi h1 h) (fun h => ab_CW_177_178 mi h h2)
theorem ab_CW_175_178 : ∀ mi, 175 ≤ mi → mi < 178 → Cond.code (ab_nm mi) (ab_by mi) (ab_mxl mi) (ab_rt mi) ∈ ab_BIG := fun mi h1 h2 => (Nat.lt_or_ge mi 176).elim (fun h => ab_CW_175_176 mi h1 h) (fun h => ab_CW_176_178 mi h h2)
theorem ab_CW_178_179 : ∀ mi, 178 ≤ mi → mi < 179 → Cond.code (ab_nm mi) (ab_by mi) (ab_mxl mi) (ab_rt mi) ∈ ab_BIG := fun mi h1 h2 => by
  have e : mi = 178 := by omega
  subst e
  exact ab_cw178
theorem ab_CW_179_180 : ∀ mi, 179 ≤ mi → mi < 180 → Cond.code (ab_nm mi) (ab_by mi) (ab_mxl mi) (ab_rt mi) ∈ ab_BIG := fun mi h1 h2 => by
  have e : mi = 179 := by omega
  subst e
  exact ab_cw179
theorem ab_CW_178_180 : ∀ mi, 178 ≤ mi → mi < 180 → Cond.code (ab_nm mi) (ab_by mi) (ab_mxl mi) (ab_rt mi) ∈ ab_BIG := fun mi h1 h2 => (Nat.lt_or_ge mi 179).elim (fun h => ab_CW_178_179 mi h1 h) (fun h => ab_CW_179_180 mi h h2)
theorem ab_CW_180_181 : ∀ mi, 180 ≤ mi → mi < 181 → Cond.code (ab_nm mi) (ab_by mi) (ab_mxl mi) (ab_rt mi) ∈ ab_BIG := fun mi h1 h2 => by
  have e : mi = 180 := by omega
  subst e
  exact ab_cw180
theorem ab_CW_181_182 : ∀ mi, 181 ≤ mi → mi < 182 → Cond.code (ab_nm mi) (ab_by mi) (ab_mxl mi) (ab_rt mi) ∈ ab_BIG := fun mi h1 h2 => by
  have e : mi = 181 := by omega
  subst e
  exact ab_cw181
theorem ab_CW_180_182 : ∀ mi, 180 ≤ mi → mi < 182 → Cond.code (ab_nm mi) (ab_by mi) (ab_mxl mi) (ab_rt mi) ∈ ab_BIG := fun mi h1 h2 => (Nat.lt_or_ge mi 181).elim (fun h => ab_CW_180_181 mi h1 h) (fun h => ab_CW_181_182 mi h h2)
theorem ab_CW_178_182 : ∀ mi, 178 ≤ mi → mi < 182 → Cond.code (ab_nm mi) (ab_by mi) (ab_mxl mi) (ab_rt mi) ∈ ab_BIG := fun mi h1 h2 => (Nat.lt_or_ge mi 180).elim (fun h => ab_CW_178_180 mi h1 h) (fun h => ab_CW_180_182 mi h h2)
theorem ab_CW_175_182 : ∀ mi, 175 ≤ mi → mi < 182 → Cond.code (ab_nm mi) (ab_by mi) (ab_mxl mi) (ab_rt mi) ∈ ab_BIG := fun mi h1 h2 => (Nat.lt_or_ge mi 178).elim (fun h => ab_CW_175_178 mi h1 h) (fun h => ab_CW_178_182 mi h h2)
theorem ab_CW_182_183 : ∀ mi, 182 ≤ mi → mi < 183 → Cond.code (ab_nm mi) (ab_by mi) (ab_mxl mi) (ab_rt mi) ∈ ab_BIG := fun mi h1 h2 => by
  have e : mi = 182 := by omega
  subst e
  exact ab_cw182
theorem ab_CW_183_184 : ∀ mi, 183 ≤ mi → mi < 184 → Cond.code (ab_nm mi) (ab_by mi) (ab_mxl mi) (ab_rt mi) ∈ ab_BIG := fun mi h1 h2 => by
  have e : mi = 183 := by omega
  subst e
  exact ab_cw183
theorem ab_CW_184_185 : ∀ mi, 184 ≤ mi → mi < 185 → Cond.code (ab_nm mi) (ab_by mi) (ab_mxl mi) (ab_rt mi) ∈ ab_BIG := fun mi h1 h2 => by
  have e : mi = 184 := by omega
  subst e
  exact ab_cw184
theorem ab_CW_183_185 : ∀ mi, 183 ≤ mi → mi < 185 → Cond.code (ab_nm mi) (ab_by mi) (ab_mxl mi) (ab_rt mi) ∈ ab_BIG := fun mi h1 h2 => (Nat.lt_or_ge mi 184).elim (fun h => ab_CW_183_184 mi h1 h) (fun h => ab_CW_184_185 mi h h2)
theorem ab_CW_182_185 : ∀ mi, 182 ≤ mi → mi < 185 → Cond.code (ab_nm mi) (ab_by mi) (ab_mxl mi) (ab_rt mi) ∈ ab_BIG := fun mi h1 h2 => (Nat.lt_or_ge mi 183).elim (fun h => ab_CW_182_183 mi h1 h) (fun h => ab_CW_183_185 mi h h2)
theorem ab_CW_185_186 : ∀ mi, 185 ≤ mi → mi < 186 → Cond.code (ab_nm mi) (ab_by mi) (ab_mxl mi) (ab_rt mi) ∈ ab_BIG := fun mi h1 h2 => by
  have e : mi = 185 := by omega
  subst e
  exact ab_cw185
theorem ab_CW_186_187 : ∀ mi, 186 ≤ mi → mi < 187 → Cond.code (ab_nm mi) (ab_by mi) (ab_mxl mi) (ab_rt mi) ∈ ab_BIG := fun mi h1 h2 => by
  have e : mi = 186 := by omega
  subst e
  exact ab_cw186
theorem ab_CW_185_187 : ∀ mi, 185 ≤ mi → mi < 187 → Cond.code (ab_nm mi) (ab_by mi) (ab_mxl mi) (ab_rt mi) ∈ ab_BIG := fun mi h1 h2 => (Nat.lt_or_ge mi 186).elim (fun h => ab_CW_185_186 mi h1 h) (fun h => ab_CW_186_187 mi h h2)
theorem ab_CW_187_188 : ∀ mi, 187 ≤ mi → mi < 188 → Cond.code (ab_nm mi) (ab_by mi) (ab_mxl mi) (ab_rt mi) ∈ ab_BIG := fun mi h1 h2 => by
  have e : mi = 187 := by omega
  subst e
  exact ab_cw187
theorem ab_CW_188_189 : ∀ mi, 188 ≤ mi → mi < 189 → Cond.code (ab_nm mi) (ab_by mi) (ab_mxl mi) (ab_rt mi) ∈ ab_BIG := fun mi h1 h2 => by
  have e : mi = 188 := by omega
  subst e
  exact ab_cw188
theorem ab_CW_187_189 : ∀ mi, 187 ≤ mi → mi < 189 → Cond.code (ab_nm mi) (ab_by mi) (ab_mxl mi) (ab_rt mi) ∈ ab_BIG := fun mi h1 h2 => (Nat.lt_or_ge mi 188).elim (fun h => ab_CW_187_188 mi h1 h) (fun h => ab_CW_188_189 mi h h2)
theorem ab_CW_185_189 : ∀ mi, 185 ≤ mi → mi < 189 → Cond.code (ab_nm mi) (ab_by mi) (ab_mxl mi) (ab_rt mi) ∈ ab_BIG := fun mi h1 h2 => (Nat.lt_or_ge mi 187).elim (fun h => ab_CW_185_187 mi h1 h) (fun h => ab_CW_187_189 mi h h2)
theorem ab_CW_182_189 : ∀ mi, 182 ≤ mi → mi < 189 → Cond.code (ab_nm mi) (ab_by mi) (ab_mxl mi) (ab_rt mi) ∈ ab_BIG := fun mi h1 h2 => (Nat.lt_or_ge mi 185).elim (fun h => ab_CW_182_185 mi h1 h) (fun h => ab_CW_185_189 mi h h2)
theorem ab_CW_175_189 : ∀ mi, 175 ≤ mi → mi < 189 → Cond.code (ab_nm mi) (ab_by mi) (ab_mxl mi) (ab_rt mi) ∈ ab_BIG := fun mi h1 h2 => (Nat.lt_or_ge mi 182).elim (fun h => ab_CW_175_182 mi h1 h) (fun h => ab_CW_182_189 mi h h2)
theorem ab_CW_162_189 : ∀ mi, 162 ≤ mi → mi < 189 → Cond.code (ab_nm mi) (ab_by mi) (ab_mxl mi) (ab_rt mi) ∈ ab_BIG := fun mi h1 h2 => (Nat.lt_or_ge mi 175).elim (fun h => ab_CW_162_175 mi h1 h) (fun h => ab_CW_175_189 mi h h2)
theorem ab_CW_189_190 : ∀ mi, 189 ≤ mi → mi < 190 → Cond.code (ab_nm mi) (ab_by mi) (ab_mxl mi) (ab_rt mi) ∈ ab_BIG := fun mi h1 h2 => by
  have e : mi = 189 := by omega
  subst e
  exact ab_cw189
theorem ab_CW_190_191 : ∀ mi, 190 ≤ mi → mi < 191 → Cond.code (ab_nm mi) (ab_by mi) (ab_mxl mi) (ab_rt mi) ∈ ab_BIG := fun mi h1 h2 => by
  have e : mi = 190 := by omega
  subst e
  exact ab_cw190
theorem ab_CW_191_192 : ∀ mi, 191 ≤ mi → mi < 192 → Cond.code (ab_nm mi) (ab_by mi) (ab_mxl mi) (ab_rt mi) ∈ ab_BIG := fun mi h1 h2 => by
  have e : mi = 191 := by omega
  subst e
  exact ab_cw191
theorem ab_CW_190_192 : ∀ mi, 190 ≤ mi → mi < 192 → Cond.code (ab_nm mi) (ab_by mi) (ab_mxl mi) (ab_rt mi) ∈ ab_BIG := fun mi h1 h2 => (Nat.lt_or_ge mi 191).elim (fun h => ab_CW_190_191 mi h1 h) (fun h => ab_CW_191_192 mi h h2)
theorem ab_CW_189_192 : ∀ mi, 189 ≤ mi → mi < 192 → Cond.code (ab_nm mi) (ab_by mi) (ab_mxl mi) (ab_rt mi) ∈ ab_BIG := fun mi h1 h2 => (Nat.lt_or_ge mi 190).elim (fun h => ab_CW_189_190 mi h1 h) (fun h => ab_CW_190_192 mi h h2)
theorem ab_CW_192_193 : ∀ mi, 192 ≤ mi → mi < 193 → Cond.code (ab_nm mi) (ab_by mi) (ab_mxl mi) (ab_rt mi) ∈ ab_BIG := fun mi h1 h2 => by
  have e : mi = 192 := by omega
  subst e
  exact ab_cw192
theorem ab_CW_193_194 : ∀ mi, 193 ≤ mi → mi < 194 → Cond.code (ab_nm mi) (ab_by mi) (ab_mxl mi) (ab_rt mi) ∈ ab_BIG := fun mi h1 h2 => by
  have e : mi = 193 := by omega
  subst e
  exact ab_cw193
theorem ab_CW_192_194 : ∀ mi, 192 ≤ mi → mi < 194 → Cond.code (ab_nm mi) (ab_by mi) (ab_mxl mi) (ab_rt mi) ∈ ab_BIG := fun mi h1 h2 => (Nat.lt_or_ge mi 193).elim (fun h => ab_CW_192_193 mi h1 h) (fun h => ab_CW_193_194 mi h h2)
theorem ab_CW_194_195 : ∀ mi, 194 ≤ mi → mi < 195 → Cond.code (ab_nm mi) (ab_by mi) (ab_mxl mi) (ab_rt mi) ∈ ab_BIG := fun mi h1 h2 => by
  have e : mi = 194 := by omega
  subst e
  exact ab_cw194
theorem ab_CW_195_196 : ∀ mi, 195 ≤ mi → mi < 196 → Cond.code (ab_nm mi) (ab_by mi) (ab_mxl mi) (ab_rt mi) ∈ ab_BIG := fun mi h1 h2 => by
  have e : mi = 195 := by omega
  subst e
  exact ab_cw195
theorem ab_CW_194_196 : ∀ mi, 194 ≤ mi → mi < 196 → Cond.code (ab_nm mi) (ab_by mi) (ab_mxl mi) (ab_rt mi) ∈ ab_BIG := fun mi h1 h2 => (Nat.lt_or_ge mi 195).elim (fun h => ab_CW_194_195 mi h1 h) (fun h => ab_CW_195_196 mi h h2)
theorem ab_CW_192_196 : ∀ mi, 192 ≤ mi → mi < 196 → Cond.code (ab_nm mi) (ab_by mi) (ab_mxl mi) (ab_rt mi) ∈ ab_BIG := fun mi h1 h2 => (Nat.lt_or_ge mi 194).elim (fun h => ab_CW_192_194 mi h1 h) (fun h => ab_CW_194_196 mi h h2)
theorem ab_CW_189_196 : ∀ mi, 189 ≤ mi → mi < 196 → Cond.code (ab_nm mi) (ab_by mi) (ab_mxl mi) (ab_rt mi) ∈ ab_BIG := fun mi h1 h2 => (Nat.lt_or_ge mi 192).elim (fun h => ab_CW_189_192 mi h1 h) (fun h => ab_CW_192_196 mi h h2)
theorem ab_CW_196_197 : ∀ mi, 196 ≤ mi → mi < 197 → Cond.code (ab_nm mi) (ab_by mi) (ab_mxl mi) (ab_rt mi) ∈ ab_BIG := fun mi h1 h2 => by
  have e : mi = 196 := by omega
  subst e
  exact ab_cw196
theorem ab_CW_197_198 : ∀ mi, 197 ≤ mi → mi < 198 → Cond.code (ab_nm mi) (ab_by mi) (ab_mxl mi) (ab_rt mi) ∈ ab_BIG := fun mi h1 h2 => by
  have e : mi = 197 := by omega
  subst e
  exact ab_cw197
theorem ab_CW_198_199 : ∀ mi, 198 ≤ mi → mi < 199 → Cond.code (ab_nm mi) (ab_by mi) (ab_mxl mi) (ab_rt mi) ∈ ab_BIG := fun mi h1 h2 => by
  have e : mi = 198 := by omega
  subst e
  exact ab_cw198
theorem ab_CW_197_199 : ∀ mi, 197 ≤ mi → mi < 199 → Cond.code (ab_nm mi) (ab_by mi) (ab_mxl mi) (ab_rt mi) ∈ ab_BIG := fun mi h1 h2 => (Nat.lt_or_ge mi 198).elim (fun h => ab_CW_197_198 mi h1 h) (fun h => ab_CW_198_199 mi h h2)
theorem ab_CW_196_199 : ∀ mi, 196 ≤ mi → mi < 199 → Cond.code (ab_nm mi) (ab_by mi) (ab_mxl mi) (ab_rt mi) ∈ ab_BIG := fun mi h1 h2 => (Nat.lt_or_ge mi 197).elim (fun h => ab_CW_196_197 mi h1 h) (fun h => ab_CW_197_199 mi h h2)
theorem ab_CW_199_200 : ∀ mi, 199 ≤ mi → mi < 200 → Cond.code (ab_nm mi) (ab_by mi) (ab_mxl mi) (ab_rt mi) ∈ ab_BIG := fun mi h1 h2 => by
  have e : mi = 199 := by omega
  subst e
  exact ab_cw199
theorem ab_CW_200_201 : ∀ mi, 200 ≤ mi → mi < 201 → Cond.code (ab_nm mi) (ab_by mi) (ab_mxl mi) (ab_rt mi) ∈ ab_BIG := fun mi h1 h2 => by
  have e : mi = 200 := by omega
  subst e
  exact ab_cw200
theorem ab_CW_199_201 : ∀ mi, 199 ≤ mi → mi < 201 → Cond.code (ab_nm mi) (ab_by mi) (ab_mxl mi) (ab_rt mi) ∈ ab_BIG := fun mi h1 h2 => (Nat.lt_or_ge mi 200).elim (fun h => ab_CW_199_200 mi h1 h) (fun h => ab_CW_200_201 mi h h2)
theorem ab_CW_201_202 : ∀ mi, 201 ≤ mi → mi < 202 → Cond.code (ab_nm mi) (ab_by mi) (ab_mxl mi) (ab_rt mi) ∈ ab_BIG := fun mi h1 h2 => by
  have e : mi = 201 := by omega
  subst e
  exact ab_cw201
theorem ab_CW_202_203 : ∀ mi, 202 ≤ mi → mi < 203 → Cond.code (ab_nm mi) (ab_by mi) (ab_mxl mi) (ab_rt mi) ∈ ab_BIG := fun mi h1 h2 => by
  have e : mi = 202 := by omega
  subst e
  exact ab_cw202
theorem ab_CW_201_203 : ∀ mi, 201 ≤ mi → mi < 203 → Cond.code (ab_nm mi) (ab_by mi) (ab_mxl mi) (ab_rt mi) ∈ ab_BIG := fun mi h1 h2 => (Nat.lt_or_ge mi 202).elim (fun h => ab_CW_201_202 mi h1 h) (fun h => ab_CW_202_203 mi h h2)
theorem ab_CW_199_203 : ∀ mi, 199 ≤ mi → mi < 203 → Cond.code (ab_nm mi) (ab_by mi) (ab_mxl mi) (ab_rt mi) ∈ ab_BIG := fun mi h1 h2 => (Nat.lt_or_ge mi 201).elim (fun h => ab_CW_199_201 mi h1 h) (fun h => ab_CW_201_203 mi h h2)
theorem ab_CW_196_203 : ∀ mi, 196 ≤ mi → mi < 203 → Cond.code (ab_nm mi) (ab_by mi) (ab_mxl mi) (ab_rt mi) ∈ ab_BIG := fun mi h1 h2 => (Nat.lt_or_ge mi 199).elim (fun h => ab_CW_196_199 mi h1 h) (fun h => ab_CW_199_203 mi h h2)
theorem ab_CW_189_203 : ∀ mi, 189 ≤ mi → mi < 203 → Cond.code (ab_nm mi) (ab_by mi) (ab_mxl mi) (ab_rt mi) ∈ ab_BIG := fun mi h1 h2 => (Nat.lt_or_ge mi 196).elim (fun h => ab_CW_189_196 mi h1 h) (fun h => ab_CW_196_203 mi h h2)
theorem ab_CW_203_204 : ∀ mi, 203 ≤ mi → mi < 204 → Cond.code (ab_nm mi) (ab_by mi) (ab_mxl mi) (ab_rt mi) ∈ ab_BIG := fun mi h1 h2 => by
  have e : mi = 203 := by omega
  subst e
  exact ab_cw203
theorem ab_CW_204_205 : ∀ mi, 204 ≤ mi → mi < 205 → Cond.code (ab_nm mi) (ab_by mi) (ab_mxl mi) (ab_rt mi) ∈ ab_BIG := fun mi h1 h2 => by
  have e : mi = 204 := by omega
  subst e
  exact ab_cw204
theorem ab_CW_205_206 : ∀ mi, 205 ≤ mi → mi < 206 → Cond.code (ab_nm mi) (ab_by mi) (ab_mxl mi) (ab_rt mi) ∈ ab_BIG := fun mi h1 h2 => by
  have e : mi = 205 := by omega
  subst e
  exact ab_cw205
theorem ab_CW_204_206 : ∀ mi, 204 ≤ mi → mi < 206 → Cond.code (ab_nm mi) (ab_by mi) (ab_mxl mi) (ab_rt mi) ∈ ab_BIG := fun mi h1 h2 => (Nat.lt_or_ge mi 205).elim (fun h => ab_CW_204_205 mi h1 h) (fun h => ab_CW_205_206 mi h h2)
theorem ab_CW_203_206 : ∀ mi, 203 ≤ mi → mi < 206 → Cond.code (ab_nm mi) (ab_by mi) (ab_mxl mi) (ab_rt mi) ∈ ab_BIG := fun mi h1 h2 => (Nat.lt_or_ge mi 204).elim (fun h => ab_CW_203_204 mi h1 h) (fun h => ab_CW_204_206 mi h h2)
theorem ab_CW_206_207 : ∀ mi, 206 ≤ mi → mi < 207 → Cond.code (ab_nm mi) (ab_by mi) (ab_mxl mi) (ab_rt mi) ∈ ab_BIG := fun mi h1 h2 => by
  have e : mi = 206 := by omega
  subst e
  exact ab_cw206
theorem ab_CW_207_208 : ∀ mi, 207 ≤ mi → mi < 208 → Cond.code (ab_nm mi) (ab_by mi) (ab_mxl mi) (ab_rt mi) ∈ ab_BIG := fun mi h1 h2 => by
  have e : mi = 207 := by omega
  subst e
  exact ab_cw207
theorem ab_CW_206_208 : ∀ mi, 206 ≤ mi → mi < 208 → Cond.code (ab_nm mi) (ab_by mi) (ab_mxl mi) (ab_rt mi) ∈ ab_BIG := fun mi h1 h2 => (Nat.lt_or_ge mi 207).elim (fun h => ab_CW_206_207 mi h1 h) (fun h => ab_CW_207_208 mi h h2)
theorem ab_CW_208_209 : ∀ mi, 208 ≤ mi → mi < 209 → Cond.code (ab_nm mi) (ab_by mi) (ab_mxl mi) (ab_rt mi) ∈ ab_BIG := fun mi h1 h2 => by
  have e : mi = 208 := by omega
  subst e
  exact ab_cw208
theorem ab_CW_209_210 : ∀ mi, 209 ≤ mi → mi < 210 → Cond.code (ab_nm mi) (ab_by mi) (ab_mxl mi) (ab_rt mi) ∈ ab_BIG := fun mi h1 h2 => by
  have e : mi = 209 := by omega
  subst e
  exact ab_cw209
theorem ab_CW_208_210 : ∀ mi, 208 ≤ mi → mi < 210 → Cond.code (ab_nm mi) (ab_by mi) (ab_mxl mi) (ab_rt mi) ∈ ab_BIG := fun mi h1 h2 => (Nat.lt_or_ge mi 209).elim (fun h => ab_CW_208_209 mi h1 h) (fun h => ab_CW_209_210 mi h h2)
theorem ab_CW_206_210 : ∀ mi, 206 ≤ mi → mi < 210 → Cond.code (ab_nm mi) (ab_by mi) (ab_mxl mi) (ab_rt mi) ∈ ab_BIG := fun mi h1 h2 => (Nat.lt_or_ge mi 208).elim (fun h => ab_CW_206_208 mi h1 h) (fun h => ab_CW_208_210 mi h h2)
theorem ab_CW_203_210 : ∀ mi, 203 ≤ mi → mi < 210 → Cond.code (ab_nm mi) (ab_by mi) (ab_mxl mi) (ab_rt mi) ∈ ab_BIG := fun mi h1 h2 => (Nat.lt_or_ge mi 206).elim (fun h => ab_CW_203_206 mi h1 h) (fun h => ab_CW_206_210 mi h h2)
theorem ab_CW_210_211 : ∀ mi, 210 ≤ mi → mi < 211 → Cond.code (ab_nm mi) (ab_by mi) (ab_mxl mi) (ab_rt mi) ∈ ab_BIG := fun mi h1 h2 => by
  have e : mi = 210 := by omega
  subst e
  exact ab_cw210
theorem ab_CW_211_212 : ∀ mi, 211 ≤ mi → mi < 212 → Cond.code (ab_nm mi) (ab_by mi) (ab_mxl mi) (ab_rt mi) ∈ ab_BIG := fun mi h1 h2 => by
  have e : mi = 211 := by omega
  subst e
  exact ab_cw211
theorem ab_CW_212_213 : ∀ mi, 212 ≤ mi → mi < 213 → Cond.code (ab_nm mi) (ab_by mi) (ab_mxl mi) (ab_rt mi) ∈ ab_BIG := fun mi h1 h2 => by
  have e : mi = 212 := by omega
  subst e
  exact ab_cw212
theorem ab_CW_211_213 : ∀ mi, 211 ≤ mi → mi < 213 → Cond.code (ab_nm mi) (ab_by mi) (ab_mxl mi) (ab_rt mi) ∈ ab_BIG := fun mi h1 h2 => (Nat.lt_or_ge mi 212).elim (fun h => ab_CW_211_212 mi h1 h) (fun h => ab_CW_212_213 mi h h2)
theorem ab_CW_210_213 : ∀ mi, 210 ≤ mi → mi < 213 → Cond.code (ab_nm mi) (ab_by mi) (ab_mxl mi) (ab_rt mi) ∈ ab_BIG := fun mi h1 h2 => (Nat.lt_or_ge mi 211).elim (fun h => ab_CW_210_211 mi h1 h) (fun h => ab_CW_211_213 mi h h2)
theorem ab_CW_213_214 : ∀ mi, 213 ≤ mi → mi < 214 → Cond.code (ab_nm mi) (ab_by mi) (ab_mxl mi) (ab_rt mi) ∈ ab_BIG := fun mi h1 h2 => by
  have e : mi = 213 := by omega
  subst e
  exact ab_cw213
theorem ab_CW_214_215 : ∀ mi, 214 ≤ mi → mi < 215 → Cond.code (ab_nm mi) (ab_by mi) (ab_mxl mi) (ab_rt mi) ∈ ab_BIG := fun mi h1 h2 => by
  have e : mi = 214 := by omega
  subst e
  exact ab_cw214
theorem ab_CW_213_215 : ∀ mi, 213 ≤ mi → mi < 215 → Cond.code (ab_nm mi) (ab_by mi) (ab_mxl mi) (ab_rt mi) ∈ ab_BIG := fun mi h1 h2 => (Nat.lt_or_ge mi 214).elim (fun h => ab_CW_213_214 mi h1 h) (fun h => ab_CW_214_215 mi h h2)
theorem ab_CW_215_216 : ∀ mi, 215 ≤ mi → mi < 216 → Cond.code (ab_nm mi) (ab_by mi) (ab_mxl mi) (ab_rt mi) ∈ ab_BIG := fun mi h1 h2 => by
  have e : mi = 215 := by omega
  subst e
  exact ab_cw215
theorem ab_CW_216_217 : ∀ mi, 216 ≤ mi → mi < 217 → Cond.code (ab_nm mi) (ab_by mi) (ab_mxl mi) (ab_rt mi) ∈ ab_BIG := fun mi h1 h2 => by
  have e : mi = 216 := by omega
  subst e
  exact ab_cw216
theorem ab_CW_215_217 : ∀ mi, 215 ≤ mi → mi < 217 → Cond.code (ab_nm mi) (ab_by mi) (ab_mxl mi) (ab_rt mi) ∈ ab_BIG := fun mi h1 h2 => (Nat.lt_or_ge mi 216).elim (fun h => ab_CW_215_216 mi h1 h) (fun h => ab_CW_216_217 mi h h2)
theorem ab_CW_213_217 : ∀ mi, 213 ≤ mi → mi < 217 → Cond.code (ab_nm mi) (ab_by mi) (ab_mxl mi) (ab_rt mi) ∈ ab_BIG := fun mi h1 h2 => (Nat.lt_or_ge mi 215).elim (fun h => ab_CW_213_215 mi h1 h) (fun h => ab_CW_215_217 mi h h2)
theorem ab_CW_210_217 : ∀ mi, 210 ≤ mi → mi < 217 → Cond.code (ab_nm mi) (ab_by mi) (ab_mxl mi) (ab_rt mi) ∈ ab_BIG := fun mi h1 h2 => (Nat.lt_or_ge mi 213).elim (fun h => ab_CW_210_213 mi h1 h) (fun h => ab_CW_213_217 mi h h2)
theorem ab_CW_203_217 : ∀ mi, 203 ≤ mi → mi < 217 → Cond.code (ab_nm mi) (ab_by mi) (ab_mxl mi) (ab_rt mi) ∈ ab_BIG := fun mi h1 h2 => (Nat.lt_or_ge mi 210).elim (fun h => ab_CW_203_210 mi h1 h) (fun h => ab_CW_210_217 mi h h2)
theorem ab_CW_189_217 : ∀ mi, 189 ≤ mi → mi < 217 → Cond.code (ab_nm mi) (ab_by mi) (ab_mxl mi) (ab_rt mi) ∈ ab_BIG := fun mi h1 h2 => (Nat.lt_or_ge mi 203).elim (fun h => ab_CW_189_203 mi h1 h) (fun h => ab_CW_203_217 mi h h2)
theorem ab_CW_162_217 : ∀ mi, 162 ≤ mi → mi < 217 → Cond.code (ab_nm mi) (ab_by mi) (ab_mxl mi) (ab_rt mi) ∈ ab_BIG := fun mi h1 h2 => (Nat.lt_or_ge mi 189).elim (fun h => ab_CW_162_189 mi h1 h) (fun h => ab_CW_189_217 mi h h2)
theorem ab_CW_108_217 : ∀ mi, 108 ≤ mi → mi < 217 → Cond.code (ab_nm mi) (ab_by mi) (ab_mxl mi) (ab_rt mi) ∈ ab_BIG := fun mi h1 h2 => (Nat.lt_or_ge mi 162).elim (fun h => ab_CW_108_162 mi h1 h) (fun h => ab_CW_162_217 mi h h2)
theorem ab_CW_0_217 : ∀ mi, 0 ≤ mi → mi < 217 → Cond.code (ab_nm mi) (ab_by mi) (ab_mxl mi) (ab_rt mi) ∈ ab_BIG := fun mi h1 h2 => (Nat.lt_or_ge mi 108).elim (fun h => ab_CW_0_108 mi h1 h) (fun h => ab_CW_108_217 mi h h2)
