theorem ab_mem {q : ab_P} {w : Cond} (h : (ab_tb q.1)[q.2]? = some w) (hg : goodWord w = true) : w ∈ ab_BIG := List.mem_filter.mpr ⟨ab_tb_in (List.mem_of_getElem? h), hg⟩
theorem ab_cw0 : Cond.code yX0_init cX0_init 1 none ∈ ab_BIG := ab_mem (q := (1, 225)) rfl rfl
theorem ab_cw1 : Cond.code yX0_split cX0_split 4 none ∈ ab_BIG := ab_mem (q := (2, 173)) rfl rfl
theorem ab_cw2 : Cond.code yX0_firstAtStart cX0_firstAtStart 4 (some .int) ∈ ab_BIG := ab_mem (q := (2, 177)) rfl rfl
theorem ab_cw3 : Cond.code yX0_isHopeful cX0_isHopeful 4 (some .boolean) ∈ ab_BIG := ab_mem (q := (2, 181)) rfl rfl
theorem ab_cw4 : Cond.code yX0_splitOnce cX0_splitOnce 5 (some .boolean) ∈ ab_BIG := ab_mem (q := (2, 186)) rfl rfl
theorem ab_cw5 : Cond.code yX0_areOperandsAlike cX0_areOperandsAlike 6 (some .boolean) ∈ ab_BIG := ab_mem (q := (2, 190)) rfl rfl
theorem ab_cw6 : Cond.code yX0_isAlike cX0_isAlike 6 (some .boolean) ∈ ab_BIG := ab_mem (q := (2, 194)) rfl rfl
theorem ab_cw7 : Cond.code yX0_countClasses cX0_countClasses 4 (some .int) ∈ ab_BIG := ab_mem (q := (2, 201)) rfl rfl
theorem ab_cw8 : Cond.code yX0_greatestClass cX0_greatestClass 4 (some .int) ∈ ab_BIG := ab_mem (q := (2, 205)) rfl rfl
theorem ab_cw9 : Cond.code yX0_sizeOf cX0_sizeOf 5 (some .int) ∈ ab_BIG := ab_mem (q := (2, 209)) rfl rfl
theorem ab_cw10 : Cond.code yX0_leaderOf cX0_leaderOf 5 (some .int) ∈ ab_BIG := ab_mem (q := (2, 229)) rfl rfl
theorem ab_cw11 : Cond.code yX1_init cX1_init 1 none ∈ ab_BIG := ab_mem (q := (2, 3)) rfl rfl
theorem ab_cw12 : Cond.code yX1_find cX1_find 3 none ∈ ab_BIG := ab_mem (q := (2, 238)) rfl rfl
theorem ab_cw13 : Cond.code yX1_nameOf cX1_nameOf 2 (some .int) ∈ ab_BIG := ab_mem (q := (3, 12)) rfl rfl
theorem ab_cw14 : Cond.code yX1_numberOf cX1_numberOf 2 (some .long) ∈ ab_BIG := ab_mem (q := (3, 49)) rfl rfl
theorem ab_cw15 : Cond.code yX1_isName cX1_isName 2 (some .boolean) ∈ ab_BIG := ab_mem (q := (3, 15)) rfl rfl
theorem ab_cw16 : Cond.code yX1_codeOf cX1_codeOf 3 (some .long) ∈ ab_BIG := ab_mem (q := (3, 3)) rfl rfl
theorem ab_cw17 : Cond.code yX1_codeOfNeg cX1_codeOfNeg 5 (some .long) ∈ ab_BIG := ab_mem (q := (3, 31)) rfl rfl
theorem ab_cw18 : Cond.code yX1_codeOfPair cX1_codeOfPair 9 (some .long) ∈ ab_BIG := ab_mem (q := (3, 40)) rfl rfl
theorem ab_cw19 : Cond.code yX1_codeOfPhi cX1_codeOfPhi 6 (some .long) ∈ ab_BIG := ab_mem (q := (3, 36)) rfl rfl
theorem ab_cw20 : Cond.code yX1_earlier cX1_earlier 4 (some .long) ∈ ab_BIG := ab_mem (q := (3, 8)) rfl rfl
theorem ab_cw21 : Cond.code yX1_isSame cX1_isSame 6 (some .boolean) ∈ ab_BIG := ab_mem (q := (3, 19)) rfl rfl
theorem ab_cw22 : Cond.code yX1_isSameOperand cX1_isSameOperand 6 (some .boolean) ∈ ab_BIG := ab_mem (q := (3, 27)) rfl rfl
theorem ab_cw23 : Cond.code yX2_init cX2_init 1 none ∈ ab_BIG := ab_mem (q := (1, 181)) rfl rfl
theorem ab_cw24 : Cond.code yX2_forget cX2_forget 1 none ∈ ab_BIG := ab_mem (q := (3, 124)) rfl rfl
theorem ab_cw25 : Cond.code yX2_give cX2_give 5 none ∈ ab_BIG := ab_mem (q := (2, 117)) rfl rfl
theorem ab_cw26 : Cond.code yX2_giveBySeed cX2_giveBySeed 4 (some .int) ∈ ab_BIG := ab_mem (q := (3, 106)) rfl rfl
theorem ab_cw27 : Cond.code yX2_watch cX2_watch 3 none ∈ ab_BIG := ab_mem (q := (3, 102)) rfl rfl
theorem ab_cw28 : Cond.code yX2_go cX2_go 5 (some .long) ∈ ab_BIG := ab_mem (q := (2, 121)) rfl rfl
theorem ab_cw29 : Cond.code yX2_nextBlock cX2_nextBlock 5 (some .int) ∈ ab_BIG := ab_mem (q := (2, 155)) rfl rfl
theorem ab_cw30 : Cond.code yX2_pass cX2_pass 6 none ∈ ab_BIG := ab_mem (q := (2, 130)) rfl rfl
theorem ab_cw31 : Cond.code yX2_passPhis cX2_passPhis 7 none ∈ ab_BIG := ab_mem (q := (2, 138)) rfl rfl
theorem ab_cw32 : Cond.code yX2_bringOf cX2_bringOf 5 (some .long) ∈ ab_BIG := ab_mem (q := (2, 146)) rfl rfl
theorem ab_cw33 : Cond.code yX2_compare cX2_compare 1 none ∈ ab_BIG := ab_mem (q := (2, 142)) rfl rfl
theorem ab_cw34 : Cond.code yX3_init cX3_init 1 none ∈ ab_BIG := ab_mem (q := (1, 50)) rfl rfl
theorem ab_cw35 : Cond.code yX3_clear cX3_clear 1 none ∈ ab_BIG := ab_mem (q := (4, 48)) rfl rfl
theorem ab_cw36 : Cond.code yX3_openBlock cX3_openBlock 1 (some .boolean) ∈ ab_BIG := ab_mem (q := (4, 64)) rfl rfl
theorem ab_cw37 : Cond.code yX3_openName cX3_openName 2 (some .boolean) ∈ ab_BIG := ab_mem (q := (4, 76)) rfl rfl
theorem ab_cw38 : Cond.code yX3_putFigure cX3_putFigure 2 none ∈ ab_BIG := ab_mem (q := (4, 89)) rfl rfl
theorem ab_cw39 : Cond.code yX3_putOperand cX3_putOperand 3 none ∈ ab_BIG := ab_mem (q := (4, 97)) rfl rfl
theorem ab_cw40 : Cond.code yX3_putEnd cX3_putEnd 2 none ∈ ab_BIG := ab_mem (q := (4, 105)) rfl rfl
theorem ab_cw41 : Cond.code yX3_putAsked cX3_putAsked 2 none ∈ ab_BIG := ab_mem (q := (4, 109)) rfl rfl
theorem ab_cw42 : Cond.code yX3_putGoal cX3_putGoal 2 none ∈ ab_BIG := ab_mem (q := (4, 113)) rfl rfl
theorem ab_cw43 : Cond.code yX3_putOther cX3_putOther 2 none ∈ ab_BIG := ab_mem (q := (4, 117)) rfl rfl
theorem ab_cw44 : Cond.code yX3_copyFrom cX3_copyFrom 3 none ∈ ab_BIG := ab_mem (q := (3, 115)) rfl rfl
theorem ab_cw45 : Cond.code yX3_hasBlock cX3_hasBlock 2 (some .boolean) ∈ ab_BIG := ab_mem (q := (2, 126)) rfl rfl
theorem ab_cw46 : Cond.code yX3_hasName cX3_hasName 2 (some .boolean) ∈ ab_BIG := ab_mem (q := (2, 81)) rfl rfl
theorem ab_cw47 : Cond.code yX3_hasOperand cX3_hasOperand 3 (some .boolean) ∈ ab_BIG := ab_mem (q := (2, 97)) rfl rfl
theorem ab_cw48 : Cond.code yX3_hasFigure cX3_hasFigure 2 (some .boolean) ∈ ab_BIG := ab_mem (q := (2, 85)) rfl rfl
theorem ab_cw49 : Cond.code yX3_successors cX3_successors 2 (some .int) ∈ ab_BIG := ab_mem (q := (4, 125)) rfl rfl
theorem ab_cw50 : Cond.code yX3_reachOutside cX3_reachOutside 5 (some .int) ∈ ab_BIG := ab_mem (q := (4, 129)) rfl rfl
theorem ab_cw51 : Cond.code yX3_findDominators cX3_findDominators 4 none ∈ ab_BIG := ab_mem (q := (4, 137)) rfl rfl
theorem ab_cw52 : Cond.code yX3_findPreds cX3_findPreds 3 none ∈ ab_BIG := ab_mem (q := (4, 133)) rfl rfl
theorem ab_cw53 : Cond.code yX7_fault cX7_fault 1 (some .int) ∈ ab_BIG := ab_mem (q := (4, 146)) rfl rfl
theorem ab_cw54 : Cond.code yX3_routeFrom cX3_routeFrom 4 (some .int) ∈ ab_BIG := ab_mem (q := (2, 134)) rfl rfl
theorem ab_cw55 : Cond.code yX3_isSeen cX3_isSeen 3 (some .boolean) ∈ ab_BIG := ab_mem (q := (2, 106)) rfl rfl
theorem ab_cw56 : Cond.code yX3_isSeenAtEnd cX3_isSeenAtEnd 3 (some .boolean) ∈ ab_BIG := ab_mem (q := (3, 87)) rfl rfl
theorem ab_cw57 : Cond.code yX3_isSeenByOperand cX3_isSeenByOperand 5 (some .boolean) ∈ ab_BIG := ab_mem (q := (3, 82)) rfl rfl
theorem ab_cw58 : Cond.code yX3_isSound cX3_isSound 3 (some .boolean) ∈ ab_BIG := ab_mem (q := (4, 121)) rfl rfl
theorem ab_cw59 : Cond.code yX3_areOperandsSound cX3_areOperandsSound 4 (some .boolean) ∈ ab_BIG := ab_mem (q := (4, 141)) rfl rfl
theorem ab_cw60 : Cond.code yX3_looksBehind cX3_looksBehind 3 (some .boolean) ∈ ab_BIG := ab_mem (q := (3, 23)) rfl rfl
theorem ab_cw61 : Cond.code yX3_countKind cX3_countKind 4 (some .int) ∈ ab_BIG := ab_mem (q := (2, 69)) rfl rfl
theorem ab_cw62 : Cond.code yX3_countOperands cX3_countOperands 3 (some .int) ∈ ab_BIG := ab_mem (q := (2, 73)) rfl rfl
theorem ab_cw63 : Cond.code yX3_countUses cX3_countUses 5 (some .int) ∈ ab_BIG := ab_mem (q := (2, 89)) rfl rfl
theorem ab_cw64 : Cond.code yX7_fault cX7_fault 1 (some .int) ∈ ab_BIG := ab_mem (q := (4, 146)) rfl rfl
theorem ab_cw65 : Cond.code yX3_exchange cX3_exchange 6 (some .int) ∈ ab_BIG := ab_mem (q := (3, 58)) rfl rfl
theorem ab_cw66 : Cond.code yX3_dropUnneeded cX3_dropUnneeded 3 (some .int) ∈ ab_BIG := ab_mem (q := (3, 66)) rfl rfl
theorem ab_cw67 : Cond.code yX3_findNeeded cX3_findNeeded 3 none ∈ ab_BIG := ab_mem (q := (3, 70)) rfl rfl
theorem ab_cw68 : Cond.code yX3_markOperands cX3_markOperands 3 none ∈ ab_BIG := ab_mem (q := (3, 74)) rfl rfl
theorem ab_cw69 : Cond.code yX4_init cX4_init 1 none ∈ ab_BIG := ab_mem (q := (1, 27)) rfl rfl
theorem ab_cw70 : Cond.code yX4_readText cX4_readText 3 (some .boolean) ∈ ab_BIG := ab_mem (q := (3, 196)) rfl rfl
theorem ab_cw71 : Cond.code yX4_refuse cX4_refuse 2 (some .boolean) ∈ ab_BIG := ab_mem (q := (4, 60)) rfl rfl
theorem ab_cw72 : Cond.code yX4_readLine cX4_readLine 1 (some .boolean) ∈ ab_BIG := ab_mem (q := (4, 52)) rfl rfl
theorem ab_cw73 : Cond.code yX4_readHead cX4_readHead 1 (some .boolean) ∈ ab_BIG := ab_mem (q := (4, 56)) rfl rfl
theorem ab_cw74 : Cond.code yX4_readName cX4_readName 3 (some .boolean) ∈ ab_BIG := ab_mem (q := (4, 72)) rfl rfl
theorem ab_cw75 : Cond.code yX4_readFigure cX4_readFigure 2 (some .boolean) ∈ ab_BIG := ab_mem (q := (4, 80)) rfl rfl
theorem ab_cw76 : Cond.code yX4_readOperands cX4_readOperands 5 (some .boolean) ∈ ab_BIG := ab_mem (q := (4, 93)) rfl rfl
theorem ab_cw77 : Cond.code yX4_readEnd cX4_readEnd 2 (some .boolean) ∈ ab_BIG := ab_mem (q := (4, 101)) rfl rfl
theorem ab_cw78 : Cond.code yX4_takeSemicolon cX4_takeSemicolon 1 (some .boolean) ∈ ab_BIG := ab_mem (q := (4, 68)) rfl rfl
theorem ab_cw79 : Cond.code yX4_takeNumber cX4_takeNumber 3 (some .boolean) ∈ ab_BIG := ab_mem (q := (4, 85)) rfl rfl
theorem ab_cw80 : Cond.code yX4_scan cX4_scan 3 none ∈ ab_BIG := ab_mem (q := (3, 200)) rfl rfl
theorem ab_cw81 : Cond.code yX4_scanToken cX4_scanToken 2 (some .int) ∈ ab_BIG := ab_mem (q := (3, 212)) rfl rfl
theorem ab_cw82 : Cond.code yX4_skip cX4_skip 4 none ∈ ab_BIG := ab_mem (q := (3, 204)) rfl rfl
theorem ab_cw83 : Cond.code yX4_figureFrom cX4_figureFrom 4 (some .int) ∈ ab_BIG := ab_mem (q := (4, 44)) rfl rfl
theorem ab_cw84 : Cond.code yX4_wordFrom cX4_wordFrom 2 (some .int) ∈ ab_BIG := ab_mem (q := (3, 216)) rfl rfl
theorem ab_cw85 : Cond.code yX4_isWord cX4_isWord 4 (some .boolean) ∈ ab_BIG := ab_mem (q := (3, 221)) rfl rfl
theorem ab_cw86 : Cond.code yX5_init cX5_init 2 none ∈ ab_BIG := ab_mem (q := (2, 13)) rfl rfl
theorem ab_cw87 : Cond.code yX7_fault cX7_fault 1 (some .int) ∈ ab_BIG := ab_mem (q := (4, 146)) rfl rfl
theorem ab_cw88 : Cond.code yX7_fault cX7_fault 1 (some .int) ∈ ab_BIG := ab_mem (q := (4, 146)) rfl rfl
theorem ab_cw89 : Cond.code yX7_fault cX7_fault 1 (some .int) ∈ ab_BIG := ab_mem (q := (4, 146)) rfl rfl
theorem ab_cw90 : Cond.code yX7_fault cX7_fault 1 (some .int) ∈ ab_BIG := ab_mem (q := (4, 146)) rfl rfl
theorem ab_cw91 : Cond.code yX7_fault cX7_fault 1 (some .int) ∈ ab_BIG := ab_mem (q := (4, 146)) rfl rfl
theorem ab_cw92 : Cond.code yX6_init cX6_init 1 none ∈ ab_BIG := ab_mem (q := (1, 33)) rfl rfl
theorem ab_cw93 : Cond.code yX6_push cX6_push 2 (some .boolean) ∈ ab_BIG := ab_mem (q := (3, 182)) rfl rfl
theorem ab_cw94 : Cond.code yX6_has cX6_has 4 (some .boolean) ∈ ab_BIG := ab_mem (q := (3, 208)) rfl rfl
theorem ab_cw95 : Cond.code yX7_init cX7_init 2 none ∈ ab_BIG := ab_mem (q := (1, 19)) rfl rfl
theorem ab_cw96 : Cond.code yX7_feed cX7_feed 2 (some .int) ∈ ab_BIG := ab_mem (q := (3, 178)) rfl rfl
theorem ab_cw97 : Cond.code yX7_fault cX7_fault 1 (some .int) ∈ ab_BIG := ab_mem (q := (4, 146)) rfl rfl
theorem ab_cw98 : Cond.code yX7_text cX7_text 3 (some .int) ∈ ab_BIG := ab_mem (q := (3, 192)) rfl rfl
theorem ab_cw99 : Cond.code yX7_fault cX7_fault 1 (some .int) ∈ ab_BIG := ab_mem (q := (4, 146)) rfl rfl
theorem ab_cw100 : Cond.code yX7_rule cX7_rule 2 (some .int) ∈ ab_BIG := ab_mem (q := (2, 65)) rfl rfl
theorem ab_cw101 : Cond.code yX7_fault cX7_fault 1 (some .int) ∈ ab_BIG := ab_mem (q := (4, 146)) rfl rfl
theorem ab_cw102 : Cond.code yX7_fault cX7_fault 1 (some .int) ∈ ab_BIG := ab_mem (q := (4, 146)) rfl rfl
theorem ab_cw103 : Cond.code yX7_name cX7_name 3 (some .int) ∈ ab_BIG := ab_mem (q := (2, 77)) rfl rfl
theorem ab_cw104 : Cond.code yX7_operand cX7_operand 3 (some .int) ∈ ab_BIG := ab_mem (q := (2, 93)) rfl rfl
theorem ab_cw105 : Cond.code yX7_seen cX7_seen 3 (some .int) ∈ ab_BIG := ab_mem (q := (2, 102)) rfl rfl
theorem ab_cw106 : Cond.code yX7_run cX7_run 5 (some .long) ∈ ab_BIG := ab_mem (q := (2, 113)) rfl rfl
theorem ab_cw107 : Cond.code yX7_value cX7_value 2 (some .long) ∈ ab_BIG := ab_mem (q := (2, 159)) rfl rfl
theorem ab_cw108 : Cond.code yX7_went cX7_went 2 (some .int) ∈ ab_BIG := ab_mem (q := (2, 165)) rfl rfl
theorem ab_cw109 : Cond.code yX7_classes cX7_classes 2 (some .int) ∈ ab_BIG := ab_mem (q := (2, 169)) rfl rfl
theorem ab_cw110 : Cond.code yX7_part cX7_part 2 (some .int) ∈ ab_BIG := ab_mem (q := (2, 216)) rfl rfl
theorem ab_cw111 : Cond.code yX7_partAt cX7_partAt 3 (some .int) ∈ ab_BIG := ab_mem (q := (2, 220)) rfl rfl
theorem ab_cw112 : Cond.code yX7_leader cX7_leader 2 (some .int) ∈ ab_BIG := ab_mem (q := (2, 225)) rfl rfl
theorem ab_cw113 : Cond.code yX7_form cX7_form 2 (some .int) ∈ ab_BIG := ab_mem (q := (2, 234)) rfl rfl
theorem ab_cw114 : Cond.code yX7_number cX7_number 2 (some .long) ∈ ab_BIG := ab_mem (q := (3, 45)) rfl rfl
theorem ab_cw115 : Cond.code yX7_replace cX7_replace 2 (some .int) ∈ ab_BIG := ab_mem (q := (3, 54)) rfl rfl
theorem ab_cw116 : Cond.code yX7_sweep cX7_sweep 1 (some .int) ∈ ab_BIG := ab_mem (q := (3, 62)) rfl rfl
theorem ab_cw117 : Cond.code yX7_set cX7_set 5 (some .int) ∈ ab_BIG := ab_mem (q := (3, 78)) rfl rfl
theorem ab_cw118 : Cond.code yX7_alter cX7_alter 4 (some .int) ∈ ab_BIG := ab_mem (q := (3, 91)) rfl rfl
theorem ab_cw119 : Cond.code yX7_agree cX7_agree 9 (some .int) ∈ ab_BIG := ab_mem (q := (3, 98)) rfl rfl
theorem ab_cw120 : Cond.code yX7_keep cX7_keep 3 (some .int) ∈ ab_BIG := ab_mem (q := (3, 111)) rfl rfl
theorem ab_cw121 : Cond.code yX7_back cX7_back 2 (some .int) ∈ ab_BIG := ab_mem (q := (3, 120)) rfl rfl
theorem ab_cw122 : Cond.code yX7_fault cX7_fault 1 (some .int) ∈ ab_BIG := ab_mem (q := (4, 146)) rfl rfl
theorem ab_cw123 : Cond.code yX7_fault cX7_fault 1 (some .int) ∈ ab_BIG := ab_mem (q := (4, 146)) rfl rfl
theorem ab_cw124 : Cond.code yX7_fault cX7_fault 1 (some .int) ∈ ab_BIG := ab_mem (q := (4, 146)) rfl rfl
theorem ab_cw125 : Cond.code yX7_fault cX7_fault 1 (some .int) ∈ ab_BIG := ab_mem (q := (4, 146)) rfl rfl
theorem ab_cw126 : Cond.code yX7_fault cX7_fault 1 (some .int) ∈ ab_BIG := ab_mem (q := (4, 146)) rfl rfl
theorem ab_cw127 : Cond.code yX7_fault cX7_fault 1 (some .int) ∈ ab_BIG := ab_mem (q := (4, 146)) rfl rfl
theorem ab_cw128 : Cond.code yX7_fault cX7_fault 1 (some .int) ∈ ab_BIG := ab_mem (q := (4, 146)) rfl rfl
theorem ab_cw129 : Cond.code yX7_highestFigure cX7_highestFigure 1 (some .int) ∈ ab_BIG := ab_mem (q := (3, 94)) rfl rfl
theorem ab_cw130 : Cond.code yX7_hasBit cX7_hasBit 2 (some .boolean) ∈ ab_BIG := ab_mem (q := (2, 109)) rfl rfl
theorem ab_cw131 : Cond.code yX7_bring cX7_bring 6 (some .long) ∈ ab_BIG := ab_mem (q := (2, 150)) rfl rfl
theorem ab_cw132 : Cond.code yL_part cL_part 2 (some .int) ∈ ab_BIG := ab_mem (q := (3, 127)) rfl rfl
theorem ab_cw133 : Cond.code yL_cell cL_cell 2 (some .int) ∈ ab_BIG := ab_mem (q := (3, 131)) rfl rfl
theorem ab_cw134 : Cond.code yL_says cL_says 3 none ∈ ab_BIG := ab_mem (q := (3, 174)) rfl rfl
theorem ab_cw135 : Cond.code yL_name cL_name 6 none ∈ ab_BIG := ab_mem (q := (3, 171)) rfl rfl
theorem ab_cw136 : Cond.code yL_number cL_number 3 none ∈ ab_BIG := ab_mem (q := (3, 185)) rfl rfl
theorem ab_cw137 : Cond.code yL_ends cL_ends 2 (some .int) ∈ ab_BIG := ab_mem (q := (3, 188)) rfl rfl
theorem ab_cw138 : Cond.code yL_line cL_line 3 none ∈ ab_BIG := ab_mem (q := (3, 156)) rfl rfl
theorem ab_cw139 : Cond.code yL_shape cL_shape 3 (some .int) ∈ ab_BIG := ab_mem (q := (3, 138)) rfl rfl
theorem ab_cw140 : Cond.code yL_over cL_over 3 (some .boolean) ∈ ab_BIG := ab_mem (q := (3, 147)) rfl rfl
theorem ab_cw141 : Cond.code yL_seen cL_seen 4 (some .boolean) ∈ ab_BIG := ab_mem (q := (3, 150)) rfl rfl
theorem ab_cw142 : Cond.code yL_may cL_may 6 (some .boolean) ∈ ab_BIG := ab_mem (q := (3, 144)) rfl rfl
theorem ab_cw143 : Cond.code yL_pick cL_pick 9 (some .int) ∈ ab_BIG := ab_mem (q := (3, 141)) rfl rfl
theorem ab_cw144 : Cond.code yL_atEnd cL_atEnd 7 (some .int) ∈ ab_BIG := ab_mem (q := (3, 153)) rfl rfl
theorem ab_cw145 : Cond.code yL_program cL_program 16 (some .boolean) ∈ ab_BIG := ab_mem (q := (3, 135)) rfl rfl
theorem ab_CW_0_1 : ∀ mi, 0 ≤ mi → mi < 1 → Cond.code (ab_nm mi) (ab_by mi) (ab_mxl mi) (ab_rt mi) ∈ ab_BIG := fun mi h1 h2 => by
  have e : mi = 0 := by omega
  subst e
  exact ab_cw0
theorem ab_CW_1_2 : ∀ mi, 1 ≤ mi → mi < 2 → Cond.code (ab_nm mi) (ab_by mi) (ab_mxl mi) (ab_rt mi) ∈ ab_BIG := fun mi h1 h2 => by
  have e : mi = 1 := by omega
  subst e
  exact ab_cw1
theorem ab_CW_0_2 : ∀ mi, 0 ≤ mi → mi < 2 → Cond.code (ab_nm mi) (ab_by mi) (ab_mxl mi) (ab_rt mi) ∈ ab_BIG := fun mi h1 h2 => (Nat.lt_or_ge mi 1).elim (fun h => ab_CW_0_1 mi h1 h) (fun h => ab_CW_1_2 mi h h2)
theorem ab_CW_2_3 : ∀ mi, 2 ≤ mi → mi < 3 → Cond.code (ab_nm mi) (ab_by mi) (ab_mxl mi) (ab_rt mi) ∈ ab_BIG := fun mi h1 h2 => by
  have e : mi = 2 := by omega
  subst e
  exact ab_cw2
theorem ab_CW_3_4 : ∀ mi, 3 ≤ mi → mi < 4 → Cond.code (ab_nm mi) (ab_by mi) (ab_mxl mi) (ab_rt mi) ∈ ab_BIG := fun mi h1 h2 => by
  have e : mi = 3 := by omega
  subst e
  exact ab_cw3
theorem ab_CW_2_4 : ∀ mi, 2 ≤ mi → mi < 4 → Cond.code (ab_nm mi) (ab_by mi) (ab_mxl mi) (ab_rt mi) ∈ ab_BIG := fun mi h1 h2 => (Nat.lt_or_ge mi 3).elim (fun h => ab_CW_2_3 mi h1 h) (fun h => ab_CW_3_4 mi h h2)
theorem ab_CW_0_4 : ∀ mi, 0 ≤ mi → mi < 4 → Cond.code (ab_nm mi) (ab_by mi) (ab_mxl mi) (ab_rt mi) ∈ ab_BIG := fun mi h1 h2 => (Nat.lt_or_ge mi 2).elim (fun h => ab_CW_0_2 mi h1 h) (fun h => ab_CW_2_4 mi h h2)
theorem ab_CW_4_5 : ∀ mi, 4 ≤ mi → mi < 5 → Cond.code (ab_nm mi) (ab_by mi) (ab_mxl mi) (ab_rt mi) ∈ ab_BIG := fun mi h1 h2 => by
  have e : mi = 4 := by omega
  subst e
  exact ab_cw4
theorem ab_CW_5_6 : ∀ mi, 5 ≤ mi → mi < 6 → Cond.code (ab_nm mi) (ab_by mi) (ab_mxl mi) (ab_rt mi) ∈ ab_BIG := fun mi h1 h2 => by
  have e : mi = 5 := by omega
  subst e
  exact ab_cw5
theorem ab_CW_4_6 : ∀ mi, 4 ≤ mi → mi < 6 → Cond.code (ab_nm mi) (ab_by mi) (ab_mxl mi) (ab_rt mi) ∈ ab_BIG := fun mi h1 h2 => (Nat.lt_or_ge mi 5).elim (fun h => ab_CW_4_5 mi h1 h) (fun h => ab_CW_5_6 mi h h2)
theorem ab_CW_6_7 : ∀ mi, 6 ≤ mi → mi < 7 → Cond.code (ab_nm mi) (ab_by mi) (ab_mxl mi) (ab_rt mi) ∈ ab_BIG := fun mi h1 h2 => by
  have e : mi = 6 := by omega
  subst e
  exact ab_cw6
theorem ab_CW_7_8 : ∀ mi, 7 ≤ mi → mi < 8 → Cond.code (ab_nm mi) (ab_by mi) (ab_mxl mi) (ab_rt mi) ∈ ab_BIG := fun mi h1 h2 => by
  have e : mi = 7 := by omega
  subst e
  exact ab_cw7
theorem ab_CW_8_9 : ∀ mi, 8 ≤ mi → mi < 9 → Cond.code (ab_nm mi) (ab_by mi) (ab_mxl mi) (ab_rt mi) ∈ ab_BIG := fun mi h1 h2 => by
  have e : mi = 8 := by omega
  subst e
  exact ab_cw8
theorem ab_CW_7_9 : ∀ mi, 7 ≤ mi → mi < 9 → Cond.code (ab_nm mi) (ab_by mi) (ab_mxl mi) (ab_rt mi) ∈ ab_BIG := fun mi h1 h2 => (Nat.lt_or_ge mi 8).elim (fun h => ab_CW_7_8 mi h1 h) (fun h => ab_CW_8_9 mi h h2)
theorem ab_CW_6_9 : ∀ mi, 6 ≤ mi → mi < 9 → Cond.code (ab_nm mi) (ab_by mi) (ab_mxl mi) (ab_rt mi) ∈ ab_BIG := fun mi h1 h2 => (Nat.lt_or_ge mi 7).elim (fun h => ab_CW_6_7 mi h1 h) (fun h => ab_CW_7_9 mi h h2)
theorem ab_CW_4_9 : ∀ mi, 4 ≤ mi → mi < 9 → Cond.code (ab_nm mi) (ab_by mi) (ab_mxl mi) (ab_rt mi) ∈ ab_BIG := fun mi h1 h2 => (Nat.lt_or_ge mi 6).elim (fun h => ab_CW_4_6 mi h1 h) (fun h => ab_CW_6_9 mi h h2)
theorem ab_CW_0_9 : ∀ mi, 0 ≤ mi → mi < 9 → Cond.code (ab_nm mi) (ab_by mi) (ab_mxl mi) (ab_rt mi) ∈ ab_BIG := fun mi h1 h2 => (Nat.lt_or_ge mi 4).elim (fun h => ab_CW_0_4 mi h1 h) (fun h => ab_CW_4_9 mi h h2)
theorem ab_CW_9_10 : ∀ mi, 9 ≤ mi → mi < 10 → Cond.code (ab_nm mi) (ab_by mi) (ab_mxl mi) (ab_rt mi) ∈ ab_BIG := fun mi h1 h2 => by
  have e : mi = 9 := by omega
  subst e
  exact ab_cw9
theorem ab_CW_10_11 : ∀ mi, 10 ≤ mi → mi < 11 → Cond.code (ab_nm mi) (ab_by mi) (ab_mxl mi) (ab_rt mi) ∈ ab_BIG := fun mi h1 h2 => by
  have e : mi = 10 := by omega
  subst e
  exact ab_cw10
theorem ab_CW_9_11 : ∀ mi, 9 ≤ mi → mi < 11 → Cond.code (ab_nm mi) (ab_by mi) (ab_mxl mi) (ab_rt mi) ∈ ab_BIG := fun mi h1 h2 => (Nat.lt_or_ge mi 10).elim (fun h => ab_CW_9_10 mi h1 h) (fun h => ab_CW_10_11 mi h h2)
theorem ab_CW_11_12 : ∀ mi, 11 ≤ mi → mi < 12 → Cond.code (ab_nm mi) (ab_by mi) (ab_mxl mi) (ab_rt mi) ∈ ab_BIG := fun mi h1 h2 => by
  have e : mi = 11 := by omega
  subst e
  exact ab_cw11
theorem ab_CW_12_13 : ∀ mi, 12 ≤ mi → mi < 13 → Cond.code (ab_nm mi) (ab_by mi) (ab_mxl mi) (ab_rt mi) ∈ ab_BIG := fun mi h1 h2 => by
  have e : mi = 12 := by omega
  subst e
  exact ab_cw12
theorem ab_CW_11_13 : ∀ mi, 11 ≤ mi → mi < 13 → Cond.code (ab_nm mi) (ab_by mi) (ab_mxl mi) (ab_rt mi) ∈ ab_BIG := fun mi h1 h2 => (Nat.lt_or_ge mi 12).elim (fun h => ab_CW_11_12 mi h1 h) (fun h => ab_CW_12_13 mi h h2)
theorem ab_CW_9_13 : ∀ mi, 9 ≤ mi → mi < 13 → Cond.code (ab_nm mi) (ab_by mi) (ab_mxl mi) (ab_rt mi) ∈ ab_BIG := fun mi h1 h2 => (Nat.lt_or_ge mi 11).elim (fun h => ab_CW_9_11 mi h1 h) (fun h => ab_CW_11_13 mi h h2)
theorem ab_CW_13_14 : ∀ mi, 13 ≤ mi → mi < 14 → Cond.code (ab_nm mi) (ab_by mi) (ab_mxl mi) (ab_rt mi) ∈ ab_BIG := fun mi h1 h2 => by
  have e : mi = 13 := by omega
  subst e
  exact ab_cw13
theorem ab_CW_14_15 : ∀ mi, 14 ≤ mi → mi < 15 → Cond.code (ab_nm mi) (ab_by mi) (ab_mxl mi) (ab_rt mi) ∈ ab_BIG := fun mi h1 h2 => by
  have e : mi = 14 := by omega
  subst e
  exact ab_cw14
theorem ab_CW_13_15 : ∀ mi, 13 ≤ mi → mi < 15 → Cond.code (ab_nm mi) (ab_by mi) (ab_mxl mi) (ab_rt mi) ∈ ab_BIG := fun mi h1 h2 => (Nat.lt_or_ge mi 14).elim (fun h => ab_CW_13_14 mi h1 h) (fun h => ab_CW_14_15 mi h h2)
theorem ab_CW_15_16 : ∀ mi, 15 ≤ mi → mi < 16 → Cond.code (ab_nm mi) (ab_by mi) (ab_mxl mi) (ab_rt mi) ∈ ab_BIG := fun mi h1 h2 => by
  have e : mi = 15 := by omega
  subst e
  exact ab_cw15
theorem ab_CW_16_17 : ∀ mi, 16 ≤ mi → mi < 17 → Cond.code (ab_nm mi) (ab_by mi) (ab_mxl mi) (ab_rt mi) ∈ ab_BIG := fun mi h1 h2 => by
  have e : mi = 16 := by omega
  subst e
  exact ab_cw16
theorem ab_CW_17_18 : ∀ mi, 17 ≤ mi → mi < 18 → Cond.code (ab_nm mi) (ab_by mi) (ab_mxl mi) (ab_rt mi) ∈ ab_BIG := fun mi h1 h2 => by
  have e : mi = 17 := by omega
  subst e
  exact ab_cw17
theorem ab_CW_16_18 : ∀ mi, 16 ≤ mi → mi < 18 → Cond.code (ab_nm mi) (ab_by mi) (ab_mxl mi) (ab_rt mi) ∈ ab_BIG := fun mi h1 h2 => (Nat.lt_or_ge mi 17).elim (fun h => ab_CW_16_17 mi h1 h) (fun h => ab_CW_17_18 mi h h2)
theorem ab_CW_15_18 : ∀ mi, 15 ≤ mi → mi < 18 → Cond.code (ab_nm mi) (ab_by mi) (ab_mxl mi) (ab_rt mi) ∈ ab_BIG := fun mi h1 h2 => (Nat.lt_or_ge mi 16).elim (fun h => ab_CW_15_16 mi h1 h) (fun h => ab_CW_16_18 mi h h2)
theorem ab_CW_13_18 : ∀ mi, 13 ≤ mi → mi < 18 → Cond.code (ab_nm mi) (ab_by mi) (ab_mxl mi) (ab_rt mi) ∈ ab_BIG := fun mi h1 h2 => (Nat.lt_or_ge mi 15).elim (fun h => ab_CW_13_15 mi h1 h) (fun h => ab_CW_15_18 mi h h2)
theorem ab_CW_9_18 : ∀ mi, 9 ≤ mi → mi < 18 → Cond.code (ab_nm mi) (ab_by mi) (ab_mxl mi) (ab_rt mi) ∈ ab_BIG := fun mi h1 h2 => (Nat.lt_or_ge mi 13).elim (fun h => ab_CW_9_13 mi h1 h) (fun h => ab_CW_13_18 mi h h2)
theorem ab_CW_0_18 : ∀ mi, 0 ≤ mi → mi < 18 → Cond.code (ab_nm mi) (ab_by mi) (ab_mxl mi) (ab_rt mi) ∈ ab_BIG := fun mi h1 h2 => (Nat.lt_or_ge mi 9).elim (fun h => ab_CW_0_9 mi h1 h) (fun h => ab_CW_9_18 mi h h2)
theorem ab_CW_18_19 : ∀ mi, 18 ≤ mi → mi < 19 → Cond.code (ab_nm mi) (ab_by mi) (ab_mxl mi) (ab_rt mi) ∈ ab_BIG := fun mi h1 h2 => by
  have e : mi = 18 := by omega
  subst e
  exact ab_cw18
theorem ab_CW_19_20 : ∀ mi, 19 ≤ mi → mi < 20 → Cond.code (ab_nm mi) (ab_by mi) (ab_mxl mi) (ab_rt mi) ∈ ab_BIG := fun mi h1 h2 => by
  have e : mi = 19 := by omega
  subst e
  exact ab_cw19
theorem ab_CW_18_20 : ∀ mi, 18 ≤ mi → mi < 20 → Cond.code (ab_nm mi) (ab_by mi) (ab_mxl mi) (ab_rt mi) ∈ ab_BIG := fun mi h1 h2 => (Nat.lt_or_ge mi 19).elim (fun h => ab_CW_18_19 mi h1 h) (fun h => ab_CW_19_20 mi h h2)
theorem ab_CW_20_21 : ∀ mi, 20 ≤ mi → mi < 21 → Cond.code (ab_nm mi) (ab_by mi) (ab_mxl mi) (ab_rt mi) ∈ ab_BIG := fun mi h1 h2 => by
  have e : mi = 20 := by omega
  subst e
  exact ab_cw20
theorem ab_CW_21_22 : ∀ mi, 21 ≤ mi → mi < 22 → Cond.code (ab_nm mi) (ab_by mi) (ab_mxl mi) (ab_rt mi) ∈ ab_BIG := fun mi h1 h2 => by
  have e : mi = 21 := by omega
  subst e
  exact ab_cw21
theorem ab_CW_20_22 : ∀ mi, 20 ≤ mi → mi < 22 → Cond.code (ab_nm mi) (ab_by mi) (ab_mxl mi) (ab_rt mi) ∈ ab_BIG := fun mi h1 h2 => (Nat.lt_or_ge mi 21).elim (fun h => ab_CW_20_21 mi h1 h) (fun h => ab_CW_21_22 mi h h2)
theorem ab_CW_18_22 : ∀ mi, 18 ≤ mi → mi < 22 → Cond.code (ab_nm mi) (ab_by mi) (ab_mxl mi) (ab_rt mi) ∈ ab_BIG := fun mi h1 h2 => (Nat.lt_or_ge mi 20).elim (fun h => ab_CW_18_20 mi h1 h) (fun h => ab_CW_20_22 mi h h2)
theorem ab_CW_22_23 : ∀ mi, 22 ≤ mi → mi < 23 → Cond.code (ab_nm mi) (ab_by mi) (ab_mxl mi) (ab_rt mi) ∈ ab_BIG := fun mi h1 h2 => by
  have e : mi = 22 := by omega
  subst e
  exact ab_cw22
theorem ab_CW_23_24 : ∀ mi, 23 ≤ mi → mi < 24 → Cond.code (ab_nm mi) (ab_by mi) (ab_mxl mi) (ab_rt mi) ∈ ab_BIG := fun mi h1 h2 => by
  have e : mi = 23 := by omega
  subst e
  exact ab_cw23
theorem ab_CW_22_24 : ∀ mi, 22 ≤ mi → mi < 24 → Cond.code (ab_nm mi) (ab_by mi) (ab_mxl mi) (ab_rt mi) ∈ ab_BIG := fun mi h1 h2 => (Nat.lt_or_ge mi 23).elim (fun h => ab_CW_22_23 mi h1 h) (fun h => ab_CW_23_24 mi h h2)
theorem ab_CW_24_25 : ∀ mi, 24 ≤ mi → mi < 25 → Cond.code (ab_nm mi) (ab_by mi) (ab_mxl mi) (ab_rt mi) ∈ ab_BIG := fun mi h1 h2 => by
  have e : mi = 24 := by omega
  subst e
  exact ab_cw24
theorem ab_CW_25_26 : ∀ mi, 25 ≤ mi → mi < 26 → Cond.code (ab_nm mi) (ab_by mi) (ab_mxl mi) (ab_rt mi) ∈ ab_BIG := fun mi h1 h2 => by
  have e : mi = 25 := by omega
  subst e
  exact ab_cw25
theorem ab_CW_26_27 : ∀ mi, 26 ≤ mi → mi < 27 → Cond.code (ab_nm mi) (ab_by mi) (ab_mxl mi) (ab_rt mi) ∈ ab_BIG := fun mi h1 h2 => by
  have e : mi = 26 := by omega
  subst e
  exact ab_cw26
theorem ab_CW_25_27 : ∀ mi, 25 ≤ mi → mi < 27 → Cond.code (ab_nm mi) (ab_by mi) (ab_mxl mi) (ab_rt mi) ∈ ab_BIG := fun mi h1 h2 => (Nat.lt_or_ge mi 26).elim (fun h => ab_CW_25_26 mi h1 h) (fun h => ab_CW_26_27 mi h h2)
theorem ab_CW_24_27 : ∀ mi, 24 ≤ mi → mi < 27 → Cond.code (ab_nm mi) (ab_by mi) (ab_mxl mi) (ab_rt mi) ∈ ab_BIG := fun mi h1 h2 => (Nat.lt_or_ge mi 25).elim (fun h => ab_CW_24_25 mi h1 h) (fun h => ab_CW_25_27 mi h h2)
theorem ab_CW_22_27 : ∀ mi, 22 ≤ mi → mi < 27 → Cond.code (ab_nm mi) (ab_by mi) (ab_mxl mi) (ab_rt mi) ∈ ab_BIG := fun mi h1 h2 => (Nat.lt_or_ge mi 24).elim (fun h => ab_CW_22_24 mi h1 h) (fun h => ab_CW_24_27 mi h h2)
theorem ab_CW_18_27 : ∀ mi, 18 ≤ mi → mi < 27 → Cond.code (ab_nm mi) (ab_by mi) (ab_mxl mi) (ab_rt mi) ∈ ab_BIG := fun mi h1 h2 => (Nat.lt_or_ge mi 22).elim (fun h => ab_CW_18_22 mi h1 h) (fun h => ab_CW_22_27 mi h h2)
theorem ab_CW_27_28 : ∀ mi, 27 ≤ mi → mi < 28 → Cond.code (ab_nm mi) (ab_by mi) (ab_mxl mi) (ab_rt mi) ∈ ab_BIG := fun mi h1 h2 => by
  have e : mi = 27 := by omega
  subst e
  exact ab_cw27
theorem ab_CW_28_29 : ∀ mi, 28 ≤ mi → mi < 29 → Cond.code (ab_nm mi) (ab_by mi) (ab_mxl mi) (ab_rt mi) ∈ ab_BIG := fun mi h1 h2 => by
  have e : mi = 28 := by omega
  subst e
  exact ab_cw28
theorem ab_CW_27_29 : ∀ mi, 27 ≤ mi → mi < 29 → Cond.code (ab_nm mi) (ab_by mi) (ab_mxl mi) (ab_rt mi) ∈ ab_BIG := fun mi h1 h2 => (Nat.lt_or_ge mi 28).elim (fun h => ab_CW_27_28 mi h1 h) (fun h => ab_CW_28_29 mi h h2)
theorem ab_CW_29_30 : ∀ mi, 29 ≤ mi → mi < 30 → Cond.code (ab_nm mi) (ab_by mi) (ab_mxl mi) (ab_rt mi) ∈ ab_BIG := fun mi h1 h2 => by
  have e : mi = 29 := by omega
  subst e
  exact ab_cw29
theorem ab_CW_30_31 : ∀ mi, 30 ≤ mi → mi < 31 → Cond.code (ab_nm mi) (ab_by mi) (ab_mxl mi) (ab_rt mi) ∈ ab_BIG := fun mi h1 h2 => by
  have e : mi = 30 := by omega
  subst e
  exact ab_cw30
theorem ab_CW_29_31 : ∀ mi, 29 ≤ mi → mi < 31 → Cond.code (ab_nm mi) (ab_by mi) (ab_mxl mi) (ab_rt mi) ∈ ab_BIG := fun mi h1 h2 => (Nat.lt_or_ge mi 30).elim (fun h => ab_CW_29_30 mi h1 h) (fun h => ab_CW_30_31 mi h h2)
theorem ab_CW_27_31 : ∀ mi, 27 ≤ mi → mi < 31 → Cond.code (ab_nm mi) (ab_by mi) (ab_mxl mi) (ab_rt mi) ∈ ab_BIG := fun mi h1 h2 => (Nat.lt_or_ge mi 29).elim (fun h => ab_CW_27_29 mi h1 h) (fun h => ab_CW_29_31 mi h h2)
theorem ab_CW_31_32 : ∀ mi, 31 ≤ mi → mi < 32 → Cond.code (ab_nm mi) (ab_by mi) (ab_mxl mi) (ab_rt mi) ∈ ab_BIG := fun mi h1 h2 => by
  have e : mi = 31 := by omega
  subst e
  exact ab_cw31
theorem ab_CW_32_33 : ∀ mi, 32 ≤ mi → mi < 33 → Cond.code (ab_nm mi) (ab_by mi) (ab_mxl mi) (ab_rt mi) ∈ ab_BIG := fun mi h1 h2 => by
  have e : mi = 32 := by omega
  subst e
  exact ab_cw32
theorem ab_CW_31_33 : ∀ mi, 31 ≤ mi → mi < 33 → Cond.code (ab_nm mi) (ab_by mi) (ab_mxl mi) (ab_rt mi) ∈ ab_BIG := fun mi h1 h2 => (Nat.lt_or_ge mi 32).elim (fun h => ab_CW_31_32 mi h1 h) (fun h => ab_CW_32_33 mi h h2)
theorem ab_CW_33_34 : ∀ mi, 33 ≤ mi → mi < 34 → Cond.code (ab_nm mi) (ab_by mi) (ab_mxl mi) (ab_rt mi) ∈ ab_BIG := fun mi h1 h2 => by
  have e : mi = 33 := by omega
  subst e
  exact ab_cw33
theorem ab_CW_34_35 : ∀ mi, 34 ≤ mi → mi < 35 → Cond.code (ab_nm mi) (ab_by mi) (ab_mxl mi) (ab_rt mi) ∈ ab_BIG := fun mi h1 h2 => by
  have e : mi = 34 := by omega
  subst e
  exact ab_cw34
theorem ab_CW_35_36 : ∀ mi, 35 ≤ mi → mi < 36 → Cond.code (ab_nm mi) (ab_by mi) (ab_mxl mi) (ab_rt mi) ∈ ab_BIG := fun mi h1 h2 => by
  have e : mi = 35 := by omega
  subst e
  exact ab_cw35
theorem ab_CW_34_36 : ∀ mi, 34 ≤ mi → mi < 36 → Cond.code (ab_nm mi) (ab_by mi) (ab_mxl mi) (ab_rt mi) ∈ ab_BIG := fun mi h1 h2 => (Nat.lt_or_ge mi 35).elim (fun h => ab_CW_34_35 mi h1 h) (fun h => ab_CW_35_36 mi h h2)
theorem ab_CW_33_36 : ∀ mi, 33 ≤ mi → mi < 36 → Cond.code (ab_nm mi) (ab_by mi) (ab_mxl mi) (ab_rt mi) ∈ ab_BIG := fun mi h1 h2 => (Nat.lt_or_ge mi 34).elim (fun h => ab_CW_33_34 mi h1 h) (fun h => ab_CW_34_36 mi h h2)
theorem ab_CW_31_36 : ∀ mi, 31 ≤ mi → mi < 36 → Cond.code (ab_nm mi) (ab_by mi) (ab_mxl mi) (ab_rt mi) ∈ ab_BIG := fun mi h1 h2 => (Nat.lt_or_ge mi 33).elim (fun h => ab_CW_31_33 mi h1 h) (fun h => ab_CW_33_36 mi h h2)
theorem ab_CW_27_36 : ∀ mi, 27 ≤ mi → mi < 36 → Cond.code (ab_nm mi) (ab_by mi) (ab_mxl mi) (ab_rt mi) ∈ ab_BIG := fun mi h1 h2 => (Nat.lt_or_ge mi 31).elim (fun h => ab_CW_27_31 mi h1 h) (fun h => ab_CW_31_36 mi h h2)
theorem ab_CW_18_36 : ∀ mi, 18 ≤ mi → mi < 36 → Cond.code (ab_nm mi) (ab_by mi) (ab_mxl mi) (ab_rt mi) ∈ ab_BIG := fun mi h1 h2 => (Nat.lt_or_ge mi 27).elim (fun h => ab_CW_18_27 mi h1 h) (fun h => ab_CW_27_36 mi h h2)
theorem ab_CW_0_36 : ∀ mi, 0 ≤ mi → mi < 36 → Cond.code (ab_nm mi) (ab_by mi) (ab_mxl mi) (ab_rt mi) ∈ ab_BIG := fun mi h1 h2 => (Nat.lt_or_ge mi 18).elim (fun h => ab_CW_0_18 mi h1 h) (fun h => ab_CW_18_36 mi h h2)
theorem ab_CW_36_37 : ∀ mi, 36 ≤ mi → mi < 37 → Cond.code (ab_nm mi) (ab_by mi) (ab_mxl mi) (ab_rt mi) ∈ ab_BIG := fun mi h1 h2 => by
  have e : mi = 36 := by omega
  subst e
  exact ab_cw36
theorem ab_CW_37_38 : ∀ mi, 37 ≤ mi → mi < 38 → Cond.code (ab_nm mi) (ab_by mi) (ab_mxl mi) (ab_rt mi) ∈ ab_BIG := fun mi h1 h2 => by
  have e : mi = 37 := by omega
  subst e
  exact ab_cw37
theorem ab_CW_36_38 : ∀ mi, 36 ≤ mi → mi < 38 → Cond.code (ab_nm mi) (ab_by mi) (ab_mxl mi) (ab_rt mi) ∈ ab_BIG := fun mi h1 h2 => (Nat.lt_or_ge mi 37).elim (fun h => ab_CW_36_37 mi h1 h) (fun h => ab_CW_37_38 mi h h2)
theorem ab_CW_38_39 : ∀ mi, 38 ≤ mi → mi < 39 → Cond.code (ab_nm mi) (ab_by mi) (ab_mxl mi) (ab_rt mi) ∈ ab_BIG := fun mi h1 h2 => by
  have e : mi = 38 := by omega
  subst e
  exact ab_cw38
theorem ab_CW_39_40 : ∀ mi, 39 ≤ mi → mi < 40 → Cond.code (ab_nm mi) (ab_by mi) (ab_mxl mi) (ab_rt mi) ∈ ab_BIG := fun mi h1 h2 => by
  have e : mi = 39 := by omega
  subst e
  exact ab_cw39
theorem ab_CW_38_40 : ∀ mi, 38 ≤ mi → mi < 40 → Cond.code (ab_nm mi) (ab_by mi) (ab_mxl mi) (ab_rt mi) ∈ ab_BIG := fun mi h1 h2 => (Nat.lt_or_ge mi 39).elim (fun h => ab_CW_38_39 mi h1 h) (fun h => ab_CW_39_40 mi h h2)
theorem ab_CW_36_40 : ∀ mi, 36 ≤ mi → mi < 40 → Cond.code (ab_nm mi) (ab_by mi) (ab_mxl mi) (ab_rt mi) ∈ ab_BIG := fun mi h1 h2 => (Nat.lt_or_ge mi 38).elim (fun h => ab_CW_36_38 mi h1 h) (fun h => ab_CW_38_40 mi h h2)
theorem ab_CW_40_41 : ∀ mi, 40 ≤ mi → mi < 41 → Cond.code (ab_nm mi) (ab_by mi) (ab_mxl mi) (ab_rt mi) ∈ ab_BIG := fun mi h1 h2 => by
  have e : mi = 40 := by omega
  subst e
  exact ab_cw40
theorem ab_CW_41_42 : ∀ mi, 41 ≤ mi → mi < 42 → Cond.code (ab_nm mi) (ab_by mi) (ab_mxl mi) (ab_rt mi) ∈ ab_BIG := fun mi h1 h2 => by
  have e : mi = 41 := by omega
  subst e
  exact ab_cw41
theorem ab_CW_40_42 : ∀ mi, 40 ≤ mi → mi < 42 → Cond.code (ab_nm mi) (ab_by mi) (ab_mxl mi) (ab_rt mi) ∈ ab_BIG := fun mi h1 h2 => (Nat.lt_or_ge mi 41).elim (fun h => ab_CW_40_41 mi h1 h) (fun h => ab_CW_41_42 mi h h2)
theorem ab_CW_42_43 : ∀ mi, 42 ≤ mi → mi < 43 → Cond.code (ab_nm mi) (ab_by mi) (ab_mxl mi) (ab_rt mi) ∈ ab_BIG := fun mi h1 h2 => by
  have e : mi = 42 := by omega
  subst e
  exact ab_cw42
theorem ab_CW_43_44 : ∀ mi, 43 ≤ mi → mi < 44 → Cond.code (ab_nm mi) (ab_by mi) (ab_mxl mi) (ab_rt mi) ∈ ab_BIG := fun mi h1 h2 => by
  have e : mi = 43 := by omega
  subst e
  exact ab_cw43
theorem ab_CW_44_45 : ∀ mi, 44 ≤ mi → mi < 45 → Cond.code (ab_nm mi) (ab_by mi) (ab_mxl mi) (ab_rt mi) ∈ ab_BIG := fun mi h1 h2 => by
  have e : mi = 44 := by omega
  subst e
  exact ab_cw44
theorem ab_CW_43_45 : ∀ mi, 43 ≤ mi → mi < 45 → Cond.code (ab_nm mi) (ab_by mi) (ab_mxl mi) (ab_rt mi) ∈ ab_BIG := fun mi h1 h2 => (Nat.lt_or_ge mi 44).elim (fun h => ab_CW_43_44 mi h1 h) (fun h => ab_CW_44_45 mi h h2)
theorem ab_CW_42_45 : ∀ mi, 42 ≤ mi → mi < 45 → Cond.code (ab_nm mi) (ab_by mi) (ab_mxl mi) (ab_rt mi) ∈ ab_BIG := fun mi h1 h2 => (Nat.lt_or_ge mi 43).elim (fun h => ab_CW_42_43 mi h1 h) (fun h => ab_CW_43_45 mi h h2)
theorem ab_CW_40_45 : ∀ mi, 40 ≤ mi → mi < 45 → Cond.code (ab_nm mi) (ab_by mi) (ab_mxl mi) (ab_rt mi) ∈ ab_BIG := fun mi h1 h2 => (Nat.lt_or_ge mi 42).elim (fun h => ab_CW_40_42 mi h1 h) (fun h => ab_CW_42_45 mi h h2)
theorem ab_CW_36_45 : ∀ mi, 36 ≤ mi → mi < 45 → Cond.code (ab_nm mi) (ab_by mi) (ab_mxl mi) (ab_rt mi) ∈ ab_BIG := fun mi h1 h2 => (Nat.lt_or_ge mi 40).elim (fun h => ab_CW_36_40 mi h1 h) (fun h => ab_CW_40_45 mi h h2)
theorem ab_CW_45_46 : ∀ mi, 45 ≤ mi → mi < 46 → Cond.code (ab_nm mi) (ab_by mi) (ab_mxl mi) (ab_rt mi) ∈ ab_BIG := fun mi h1 h2 => by
  have e : mi = 45 := by omega
  subst e
  exact ab_cw45
theorem ab_CW_46_47 : ∀ mi, 46 ≤ mi → mi < 47 → Cond.code (ab_nm mi) (ab_by mi) (ab_mxl mi) (ab_rt mi) ∈ ab_BIG := fun mi h1 h2 => by
  have e : mi = 46 := by omega
  subst e
  exact ab_cw46
theorem ab_CW_45_47 : ∀ mi, 45 ≤ mi → mi < 47 → Cond.code (ab_nm mi) (ab_by mi) (ab_mxl mi) (ab_rt mi) ∈ ab_BIG := fun mi h1 h2 => (Nat.lt_or_ge mi 46).elim (fun h => ab_CW_45_46 mi h1 h) (fun h => ab_CW_46_47 mi h h2)
theorem ab_CW_47_48 : ∀ mi, 47 ≤ mi → mi < 48 → Cond.code (ab_nm mi) (ab_by mi) (ab_mxl mi) (ab_rt mi) ∈ ab_BIG := fun mi h1 h2 => by
  have e : mi = 47 := by omega
  subst e
  exact ab_cw47
theorem ab_CW_48_49 : ∀ mi, 48 ≤ mi → mi < 49 → Cond.code (ab_nm mi) (ab_by mi) (ab_mxl mi) (ab_rt mi) ∈ ab_BIG := fun mi h1 h2 => by
  have e : mi = 48 := by omega
  subst e
  exact ab_cw48
theorem ab_CW_47_49 : ∀ mi, 47 ≤ mi → mi < 49 → Cond.code (ab_nm mi) (ab_by mi) (ab_mxl mi) (ab_rt mi) ∈ ab_BIG := fun mi h1 h2 => (Nat.lt_or_ge mi 48).elim (fun h => ab_CW_47_48 mi h1 h) (fun h => ab_CW_48_49 mi h h2)
theorem ab_CW_45_49 : ∀ mi, 45 ≤ mi → mi < 49 → Cond.code (ab_nm mi) (ab_by mi) (ab_mxl mi) (ab_rt mi) ∈ ab_BIG := fun mi h1 h2 => (Nat.lt_or_ge mi 47).elim (fun h => ab_CW_45_47 mi h1 h) (fun h => ab_CW_47_49 mi h h2)
theorem ab_CW_49_50 : ∀ mi, 49 ≤ mi → mi < 50 → Cond.code (ab_nm mi) (ab_by mi) (ab_mxl mi) (ab_rt mi) ∈ ab_BIG := fun mi h1 h2 => by
  have e : mi = 49 := by omega
  subst e
  exact ab_cw49
theorem ab_CW_50_51 : ∀ mi, 50 ≤ mi → mi < 51 → Cond.code (ab_nm mi) (ab_by mi) (ab_mxl mi) (ab_rt mi) ∈ ab_BIG := fun mi h1 h2 => by
  have e : mi = 50 := by omega
  subst e
  exact ab_cw50
theorem ab_CW_49_51 : ∀ mi, 49 ≤ mi → mi < 51 → Cond.code (ab_nm mi) (ab_by mi) (ab_mxl mi) (ab_rt mi) ∈ ab_BIG := fun mi h1 h2 => (Nat.lt_or_ge mi 50).elim (fun h => ab_CW_49_50 mi h1 h) (fun h => ab_CW_50_51 mi h h2)
theorem ab_CW_51_52 : ∀ mi, 51 ≤ mi → mi < 52 → Cond.code (ab_nm mi) (ab_by mi) (ab_mxl mi) (ab_rt mi) ∈ ab_BIG := fun mi h1 h2 => by
  have e : mi = 51 := by omega
  subst e
  exact ab_cw51
theorem ab_CW_52_53 : ∀ mi, 52 ≤ mi → mi < 53 → Cond.code (ab_nm mi) (ab_by mi) (ab_mxl mi) (ab_rt mi) ∈ ab_BIG := fun mi h1 h2 => by
  have e : mi = 52 := by omega
  subst e
  exact ab_cw52
theorem ab_CW_53_54 : ∀ mi, 53 ≤ mi → mi < 54 → Cond.code (ab_nm mi) (ab_by mi) (ab_mxl mi) (ab_rt mi) ∈ ab_BIG := fun mi h1 h2 => by
  have e : mi = 53 := by omega
  subst e
  exact ab_cw53
theorem ab_CW_52_54 : ∀ mi, 52 ≤ mi → mi < 54 → Cond.code (ab_nm mi) (ab_by mi) (ab_mxl mi) (ab_rt mi) ∈ ab_BIG := fun mi h1 h2 => (Nat.lt_or_ge mi 53).elim (fun h => ab_CW_52_53 mi h1 h) (fun h => ab_CW_53_54 mi h h2)
theorem ab_CW_51_54 : ∀ mi, 51 ≤ mi → mi < 54 → Cond.code (ab_nm mi) (ab_by mi) (ab_mxl mi) (ab_rt mi) ∈ ab_BIG := fun mi h1 h2 => (Nat.lt_or_ge mi 52).elim (fun h => ab_CW_51_52 mi h1 h) (fun h => ab_CW_52_54 mi h h2)
theorem ab_CW_49_54 : ∀ mi, 49 ≤ mi → mi < 54 → Cond.code (ab_nm mi) (ab_by mi) (ab_mxl mi) (ab_rt mi) ∈ ab_BIG := fun mi h1 h2 => (Nat.lt_or_ge mi 51).elim (fun h => ab_CW_49_51 mi h1 h) (fun h => ab_CW_51_54 mi h h2)
theorem ab_CW_45_54 : ∀ mi, 45 ≤ mi → mi < 54 → Cond.code (ab_nm mi) (ab_by mi) (ab_mxl mi) (ab_rt mi) ∈ ab_BIG := fun mi h1 h2 => (Nat.lt_or_ge mi 49).elim (fun h => ab_CW_45_49 mi h1 h) (fun h => ab_CW_49_54 mi h h2)
theorem ab_CW_36_54 : ∀ mi, 36 ≤ mi → mi < 54 → Cond.code (ab_nm mi) (ab_by mi) (ab_mxl mi) (ab_rt mi) ∈ ab_BIG := fun mi h1 h2 => (Nat.lt_or_ge mi 45).elim (fun h => ab_CW_36_45 mi h1 h) (fun h => ab_CW_45_54 mi h h2)
theorem ab_CW_54_55 : ∀ mi, 54 ≤ mi → mi < 55 → Cond.code (ab_nm mi) (ab_by mi) (ab_mxl mi) (ab_rt mi) ∈ ab_BIG := fun mi h1 h2 => by
  have e : mi = 54 := by omega
  subst e
  exact ab_cw54
theorem ab_CW_55_56 : ∀ mi, 55 ≤ mi → mi < 56 → Cond.code (ab_nm mi) (ab_by mi) (ab_mxl mi) (ab_rt mi) ∈ ab_BIG := fun mi h1 h2 => by
  have e : mi = 55 := by omega
  subst e
  exact ab_cw55
theorem ab_CW_54_56 : ∀ mi, 54 ≤ mi → mi < 56 → Cond.code (ab_nm mi) (ab_by mi) (ab_mxl mi) (ab_rt mi) ∈ ab_BIG := fun mi h1 h2 => (Nat.lt_or_ge mi 55).elim (fun h => ab_CW_54_55 mi h1 h) (fun h => ab_CW_55_56 mi h h2)
theorem ab_CW_56_57 : ∀ mi, 56 ≤ mi → mi < 57 → Cond.code (ab_nm mi) (ab_by mi) (ab_mxl mi) (ab_rt mi) ∈ ab_BIG := fun mi h1 h2 => by
  have e : mi = 56 := by omega
  subst e
  exact ab_cw56
theorem ab_CW_57_58 : ∀ mi, 57 ≤ mi → mi < 58 → Cond.code (ab_nm mi) (ab_by mi) (ab_mxl mi) (ab_rt mi) ∈ ab_BIG := fun mi h1 h2 => by
  have e : mi = 57 := by omega
  subst e
  exact ab_cw57
theorem ab_CW_56_58 : ∀ mi, 56 ≤ mi → mi < 58 → Cond.code (ab_nm mi) (ab_by mi) (ab_mxl mi) (ab_rt mi) ∈ ab_BIG := fun mi h1 h2 => (Nat.lt_or_ge mi 57).elim (fun h => ab_CW_56_57 mi h1 h) (fun h => ab_CW_57_58 mi h h2)
theorem ab_CW_54_58 : ∀ mi, 54 ≤ mi → mi < 58 → Cond.code (ab_nm mi) (ab_by mi) (ab_mxl mi) (ab_rt mi) ∈ ab_BIG := fun mi h1 h2 => (Nat.lt_or_ge mi 56).elim (fun h => ab_CW_54_56 mi h1 h) (fun h => ab_CW_56_58 mi h h2)
theorem ab_CW_58_59 : ∀ mi, 58 ≤ mi → mi < 59 → Cond.code (ab_nm mi) (ab_by mi) (ab_mxl mi) (ab_rt mi) ∈ ab_BIG := fun mi h1 h2 => by
  have e : mi = 58 := by omega
  subst e
  exact ab_cw58
theorem ab_CW_59_60 : ∀ mi, 59 ≤ mi → mi < 60 → Cond.code (ab_nm mi) (ab_by mi) (ab_mxl mi) (ab_rt mi) ∈ ab_BIG := fun mi h1 h2 => by
  have e : mi = 59 := by omega
  subst e
  exact ab_cw59
theorem ab_CW_58_60 : ∀ mi, 58 ≤ mi → mi < 60 → Cond.code (ab_nm mi) (ab_by mi) (ab_mxl mi) (ab_rt mi) ∈ ab_BIG := fun mi h1 h2 => (Nat.lt_or_ge mi 59).elim (fun h => ab_CW_58_59 mi h1 h) (fun h => ab_CW_59_60 mi h h2)
theorem ab_CW_60_61 : ∀ mi, 60 ≤ mi → mi < 61 → Cond.code (ab_nm mi) (ab_by mi) (ab_mxl mi) (ab_rt mi) ∈ ab_BIG := fun mi h1 h2 => by
  have e : mi = 60 := by omega
  subst e
  exact ab_cw60
theorem ab_CW_61_62 : ∀ mi, 61 ≤ mi → mi < 62 → Cond.code (ab_nm mi) (ab_by mi) (ab_mxl mi) (ab_rt mi) ∈ ab_BIG := fun mi h1 h2 => by
  have e : mi = 61 := by omega
  subst e
  exact ab_cw61
theorem ab_CW_62_63 : ∀ mi, 62 ≤ mi → mi < 63 → Cond.code (ab_nm mi) (ab_by mi) (ab_mxl mi) (ab_rt mi) ∈ ab_BIG := fun mi h1 h2 => by
  have e : mi = 62 := by omega
  subst e
  exact ab_cw62
theorem ab_CW_61_63 : ∀ mi, 61 ≤ mi → mi < 63 → Cond.code (ab_nm mi) (ab_by mi) (ab_mxl mi) (ab_rt mi) ∈ ab_BIG := fun mi h1 h2 => (Nat.lt_or_ge mi 62).elim (fun h => ab_CW_61_62 mi h1 h) (fun h => ab_CW_62_63 mi h h2)
theorem ab_CW_60_63 : ∀ mi, 60 ≤ mi → mi < 63 → Cond.code (ab_nm mi) (ab_by mi) (ab_mxl mi) (ab_rt mi) ∈ ab_BIG := fun mi h1 h2 => (Nat.lt_or_ge mi 61).elim (fun h => ab_CW_60_61 mi h1 h) (fun h => ab_CW_61_63 mi h h2)
theorem ab_CW_58_63 : ∀ mi, 58 ≤ mi → mi < 63 → Cond.code (ab_nm mi) (ab_by mi) (ab_mxl mi) (ab_rt mi) ∈ ab_BIG := fun mi h1 h2 => (Nat.lt_or_ge mi 60).elim (fun h => ab_CW_58_60 mi h1 h) (fun h => ab_CW_60_63 mi h h2)
theorem ab_CW_54_63 : ∀ mi, 54 ≤ mi → mi < 63 → Cond.code (ab_nm mi) (ab_by mi) (ab_mxl mi) (ab_rt mi) ∈ ab_BIG := fun mi h1 h2 => (Nat.lt_or_ge mi 58).elim (fun h => ab_CW_54_58 mi h1 h) (fun h => ab_CW_58_63 mi h h2)
theorem ab_CW_63_64 : ∀ mi, 63 ≤ mi → mi < 64 → Cond.code (ab_nm mi) (ab_by mi) (ab_mxl mi) (ab_rt mi) ∈ ab_BIG := fun mi h1 h2 => by
  have e : mi = 63 := by omega
  subst e
  exact ab_cw63
theorem ab_CW_64_65 : ∀ mi, 64 ≤ mi → mi < 65 → Cond.code (ab_nm mi) (ab_by mi) (ab_mxl mi) (ab_rt mi) ∈ ab_BIG := fun mi h1 h2 => by
  have e : mi = 64 := by omega
  subst e
  exact ab_cw64
theorem ab_CW_63_65 : ∀ mi, 63 ≤ mi → mi < 65 → Cond.code (ab_nm mi) (ab_by mi) (ab_mxl mi) (ab_rt mi) ∈ ab_BIG := fun mi h1 h2 => (Nat.lt_or_ge mi 64).elim (fun h => ab_CW_63_64 mi h1 h) (fun h => ab_CW_64_65 mi h h2)
theorem ab_CW_65_66 : ∀ mi, 65 ≤ mi → mi < 66 → Cond.code (ab_nm mi) (ab_by mi) (ab_mxl mi) (ab_rt mi) ∈ ab_BIG := fun mi h1 h2 => by
  have e : mi = 65 := by omega
  subst e
  exact ab_cw65
theorem ab_CW_66_67 : ∀ mi, 66 ≤ mi → mi < 67 → Cond.code (ab_nm mi) (ab_by mi) (ab_mxl mi) (ab_rt mi) ∈ ab_BIG := fun mi h1 h2 => by
  have e : mi = 66 := by omega
  subst e
  exact ab_cw66
theorem ab_CW_67_68 : ∀ mi, 67 ≤ mi → mi < 68 → Cond.code (ab_nm mi) (ab_by mi) (ab_mxl mi) (ab_rt mi) ∈ ab_BIG := fun mi h1 h2 => by
  have e : mi = 67 := by omega
  subst e
  exact ab_cw67
theorem ab_CW_66_68 : ∀ mi, 66 ≤ mi → mi < 68 → Cond.code (ab_nm mi) (ab_by mi) (ab_mxl mi) (ab_rt mi) ∈ ab_BIG := fun mi h1 h2 => (Nat.lt_or_ge mi 67).elim (fun h => ab_CW_66_67 mi h1 h) (fun h => ab_CW_67_68 mi h h2)
theorem ab_CW_65_68 : ∀ mi, 65 ≤ mi → mi < 68 → Cond.code (ab_nm mi) (ab_by mi) (ab_mxl mi) (ab_rt mi) ∈ ab_BIG := fun mi h1 h2 => (Nat.lt_or_ge mi 66).elim (fun h => ab_CW_65_66 mi h1 h) (fun h => ab_CW_66_68 mi h h2)
theorem ab_CW_63_68 : ∀ mi, 63 ≤ mi → mi < 68 → Cond.code (ab_nm mi) (ab_by mi) (ab_mxl mi) (ab_rt mi) ∈ ab_BIG := fun mi h1 h2 => (Nat.lt_or_ge mi 65).elim (fun h => ab_CW_63_65 mi h1 h) (fun h => ab_CW_65_68 mi h h2)
theorem ab_CW_68_69 : ∀ mi, 68 ≤ mi → mi < 69 → Cond.code (ab_nm mi) (ab_by mi) (ab_mxl mi) (ab_rt mi) ∈ ab_BIG := fun mi h1 h2 => by
  have e : mi = 68 := by omega
  subst e
  exact ab_cw68
theorem ab_CW_69_70 : ∀ mi, 69 ≤ mi → mi < 70 → Cond.code (ab_nm mi) (ab_by mi) (ab_mxl mi) (ab_rt mi) ∈ ab_BIG := fun mi h1 h2 => by
  have e : mi = 69 := by omega
  subst e
  exact ab_cw69
theorem ab_CW_68_70 : ∀ mi, 68 ≤ mi → mi < 70 → Cond.code (ab_nm mi) (ab_by mi) (ab_mxl mi) (ab_rt mi) ∈ ab_BIG := fun mi h1 h2 => (Nat.lt_or_ge mi 69).elim (fun h => ab_CW_68_69 mi h1 h) (fun h => ab_CW_69_70 mi h h2)
theorem ab_CW_70_71 : ∀ mi, 70 ≤ mi → mi < 71 → Cond.code (ab_nm mi) (ab_by mi) (ab_mxl mi) (ab_rt mi) ∈ ab_BIG := fun mi h1 h2 => by
  have e : mi = 70 := by omega
  subst e
  exact ab_cw70
theorem ab_CW_71_72 : ∀ mi, 71 ≤ mi → mi < 72 → Cond.code (ab_nm mi) (ab_by mi) (ab_mxl mi) (ab_rt mi) ∈ ab_BIG := fun mi h1 h2 => by
  have e : mi = 71 := by omega
  subst e
  exact ab_cw71
theorem ab_CW_72_73 : ∀ mi, 72 ≤ mi → mi < 73 → Cond.code (ab_nm mi) (ab_by mi) (ab_mxl mi) (ab_rt mi) ∈ ab_BIG := fun mi h1 h2 => by
  have e : mi = 72 := by omega
  subst e
  exact ab_cw72
theorem ab_CW_71_73 : ∀ mi, 71 ≤ mi → mi < 73 → Cond.code (ab_nm mi) (ab_by mi) (ab_mxl mi) (ab_rt mi) ∈ ab_BIG := fun mi h1 h2 => (Nat.lt_or_ge mi 72).elim (fun h => ab_CW_71_72 mi h1 h) (fun h => ab_CW_72_73 mi h h2)
theorem ab_CW_70_73 : ∀ mi, 70 ≤ mi → mi < 73 → Cond.code (ab_nm mi) (ab_by mi) (ab_mxl mi) (ab_rt mi) ∈ ab_BIG := fun mi h1 h2 => (Nat.lt_or_ge mi 71).elim (fun h => ab_CW_70_71 mi h1 h) (fun h => ab_CW_71_73 mi h h2)
theorem ab_CW_68_73 : ∀ mi, 68 ≤ mi → mi < 73 → Cond.code (ab_nm mi) (ab_by mi) (ab_mxl mi) (ab_rt mi) ∈ ab_BIG := fun mi h1 h2 => (Nat.lt_or_ge mi 70).elim (fun h => ab_CW_68_70 mi h1 h) (fun h => ab_CW_70_73 mi h h2)
theorem ab_CW_63_73 : ∀ mi, 63 ≤ mi → mi < 73 → Cond.code (ab_nm mi) (ab_by mi) (ab_mxl mi) (ab_rt mi) ∈ ab_BIG := fun mi h1 h2 => (Nat.lt_or_ge mi 68).elim (fun h => ab_CW_63_68 mi h1 h) (fun h => ab_CW_68_73 mi h h2)
theorem ab_CW_54_73 : ∀ mi, 54 ≤ mi → mi < 73 → Cond.code (ab_nm mi) (ab_by mi) (ab_mxl mi) (ab_rt mi) ∈ ab_BIG := fun mi h1 h2 => (Nat.lt_or_ge mi 63).elim (fun h => ab_CW_54_63 mi h1 h) (fun h => ab_CW_63_73 mi h h2)
theorem ab_CW_36_73 : ∀ mi, 36 ≤ mi → mi < 73 → Cond.code (ab_nm mi) (ab_by mi) (ab_mxl mi) (ab_rt mi) ∈ ab_BIG := fun mi h1 h2 => (Nat.lt_or_ge mi 54).elim (fun h => ab_CW_36_54 mi h1 h) (fun h => ab_CW_54_73 mi h h2)
theorem ab_CW_0_73 : ∀ mi, 0 ≤ mi → mi < 73 → Cond.code (ab_nm mi) (ab_by mi) (ab_mxl mi) (ab_rt mi) ∈ ab_BIG := fun mi h1 h2 => (Nat.lt_or_ge mi 36).elim (fun h => ab_CW_0_36 mi h1 h) (fun h => ab_CW_36_73 mi h h2)
theorem ab_CW_73_74 : ∀ mi, 73 ≤ mi → mi < 74 → Cond.code (ab_nm mi) (ab_by mi) (ab_mxl mi) (ab_rt mi) ∈ ab_BIG := fun mi h1 h2 => by
  have e : mi = 73 := by omega
  subst e
  exact ab_cw73
theorem ab_CW_74_75 : ∀ mi, 74 ≤ mi → mi < 75 → Cond.code (ab_nm mi) (ab_by mi) (ab_mxl mi) (ab_rt mi) ∈ ab_BIG := fun mi h1 h2 => by
  have e : mi = 74 := by omega
  subst e
  exact ab_cw74
theorem ab_CW_73_75 : ∀ mi, 73 ≤ mi → mi < 75 → Cond.code (ab_nm mi) (ab_by mi) (ab_mxl mi) (ab_rt mi) ∈ ab_BIG := fun mi h1 h2 => (Nat.lt_or_ge mi 74).elim (fun h => ab_CW_73_74 mi h1 h) (fun h => ab_CW_74_75 mi h h2)
theorem ab_CW_75_76 : ∀ mi, 75 ≤ mi → mi < 76 → Cond.code (ab_nm mi) (ab_by mi) (ab_mxl mi) (ab_rt mi) ∈ ab_BIG := fun mi h1 h2 => by
  have e : mi = 75 := by omega
  subst e
  exact ab_cw75
theorem ab_CW_76_77 : ∀ mi, 76 ≤ mi → mi < 77 → Cond.code (ab_nm mi) (ab_by mi) (ab_mxl mi) (ab_rt mi) ∈ ab_BIG := fun mi h1 h2 => by
  have e : mi = 76 := by omega
  subst e
  exact ab_cw76
theorem ab_CW_75_77 : ∀ mi, 75 ≤ mi → mi < 77 → Cond.code (ab_nm mi) (ab_by mi) (ab_mxl mi) (ab_rt mi) ∈ ab_BIG := fun mi h1 h2 => (Nat.lt_or_ge mi 76).elim (fun h => ab_CW_75_76 mi h1 h) (fun h => ab_CW_76_77 mi h h2)
theorem ab_CW_73_77 : ∀ mi, 73 ≤ mi → mi < 77 → Cond.code (ab_nm mi) (ab_by mi) (ab_mxl mi) (ab_rt mi) ∈ ab_BIG := fun mi h1 h2 => (Nat.lt_or_ge mi 75).elim (fun h => ab_CW_73_75 mi h1 h) (fun h => ab_CW_75_77 mi h h2)
theorem ab_CW_77_78 : ∀ mi, 77 ≤ mi → mi < 78 → Cond.code (ab_nm mi) (ab_by mi) (ab_mxl mi) (ab_rt mi) ∈ ab_BIG := fun mi h1 h2 => by
  have e : mi = 77 := by omega
  subst e
  exact ab_cw77
theorem ab_CW_78_79 : ∀ mi, 78 ≤ mi → mi < 79 → Cond.code (ab_nm mi) (ab_by mi) (ab_mxl mi) (ab_rt mi) ∈ ab_BIG := fun mi h1 h2 => by
  have e : mi = 78 := by omega
  subst e
  exact ab_cw78
theorem ab_CW_77_79 : ∀ mi, 77 ≤ mi → mi < 79 → Cond.code (ab_nm mi) (ab_by mi) (ab_mxl mi) (ab_rt mi) ∈ ab_BIG := fun mi h1 h2 => (Nat.lt_or_ge mi 78).elim (fun h => ab_CW_77_78 mi h1 h) (fun h => ab_CW_78_79 mi h h2)
theorem ab_CW_79_80 : ∀ mi, 79 ≤ mi → mi < 80 → Cond.code (ab_nm mi) (ab_by mi) (ab_mxl mi) (ab_rt mi) ∈ ab_BIG := fun mi h1 h2 => by
  have e : mi = 79 := by omega
  subst e
  exact ab_cw79
theorem ab_CW_80_81 : ∀ mi, 80 ≤ mi → mi < 81 → Cond.code (ab_nm mi) (ab_by mi) (ab_mxl mi) (ab_rt mi) ∈ ab_BIG := fun mi h1 h2 => by
  have e : mi = 80 := by omega
  subst e
  exact ab_cw80
theorem ab_CW_81_82 : ∀ mi, 81 ≤ mi → mi < 82 → Cond.code (ab_nm mi) (ab_by mi) (ab_mxl mi) (ab_rt mi) ∈ ab_BIG := fun mi h1 h2 => by
  have e : mi = 81 := by omega
  subst e
  exact ab_cw81
theorem ab_CW_80_82 : ∀ mi, 80 ≤ mi → mi < 82 → Cond.code (ab_nm mi) (ab_by mi) (ab_mxl mi) (ab_rt mi) ∈ ab_BIG := fun mi h1 h2 => (Nat.lt_or_ge mi 81).elim (fun h => ab_CW_80_81 mi h1 h) (fun h => ab_CW_81_82 mi h h2)
theorem ab_CW_79_82 : ∀ mi, 79 ≤ mi → mi < 82 → Cond.code (ab_nm mi) (ab_by mi) (ab_mxl mi) (ab_rt mi) ∈ ab_BIG := fun mi h1 h2 => (Nat.lt_or_ge mi 80).elim (fun h => ab_CW_79_80 mi h1 h) (fun h => ab_CW_80_82 mi h h2)
theorem ab_CW_77_82 : ∀ mi, 77 ≤ mi → mi < 82 → Cond.code (ab_nm mi) (ab_by mi) (ab_mxl mi) (ab_rt mi) ∈ ab_BIG := fun mi h1 h2 => (Nat.lt_or_ge mi 79).elim (fun h => ab_CW_77_79 mi h1 h) (fun h => ab_CW_79_82 mi h h2)
theorem ab_CW_73_82 : ∀ mi, 73 ≤ mi → mi < 82 → Cond.code (ab_nm mi) (ab_by mi) (ab_mxl mi) (ab_rt mi) ∈ ab_BIG := fun mi h1 h2 => (Nat.lt_or_ge mi 77).elim (fun h => ab_CW_73_77 mi h1 h) (fun h => ab_CW_77_82 mi h h2)
theorem ab_CW_82_83 : ∀ mi, 82 ≤ mi → mi < 83 → Cond.code (ab_nm mi) (ab_by mi) (ab_mxl mi) (ab_rt mi) ∈ ab_BIG := fun mi h1 h2 => by
  have e : mi = 82 := by omega
  subst e
  exact ab_cw82
theorem ab_CW_83_84 : ∀ mi, 83 ≤ mi → mi < 84 → Cond.code (ab_nm mi) (ab_by mi) (ab_mxl mi) (ab_rt mi) ∈ ab_BIG := fun mi h1 h2 => by
  have e : mi = 83 := by omega
  subst e
  exact ab_cw83
theorem ab_CW_82_84 : ∀ mi, 82 ≤ mi → mi < 84 → Cond.code (ab_nm mi) (ab_by mi) (ab_mxl mi) (ab_rt mi) ∈ ab_BIG := fun mi h1 h2 => (Nat.lt_or_ge mi 83).elim (fun h => ab_CW_82_83 mi h1 h) (fun h => ab_CW_83_84 mi h h2)
theorem ab_CW_84_85 : ∀ mi, 84 ≤ mi → mi < 85 → Cond.code (ab_nm mi) (ab_by mi) (ab_mxl mi) (ab_rt mi) ∈ ab_BIG := fun mi h1 h2 => by
  have e : mi = 84 := by omega
  subst e
  exact ab_cw84
theorem ab_CW_85_86 : ∀ mi, 85 ≤ mi → mi < 86 → Cond.code (ab_nm mi) (ab_by mi) (ab_mxl mi) (ab_rt mi) ∈ ab_BIG := fun mi h1 h2 => by
  have e : mi = 85 := by omega
  subst e
  exact ab_cw85
theorem ab_CW_84_86 : ∀ mi, 84 ≤ mi → mi < 86 → Cond.code (ab_nm mi) (ab_by mi) (ab_mxl mi) (ab_rt mi) ∈ ab_BIG := fun mi h1 h2 => (Nat.lt_or_ge mi 85).elim (fun h => ab_CW_84_85 mi h1 h) (fun h => ab_CW_85_86 mi h h2)
theorem ab_CW_82_86 : ∀ mi, 82 ≤ mi → mi < 86 → Cond.code (ab_nm mi) (ab_by mi) (ab_mxl mi) (ab_rt mi) ∈ ab_BIG := fun mi h1 h2 => (Nat.lt_or_ge mi 84).elim (fun h => ab_CW_82_84 mi h1 h) (fun h => ab_CW_84_86 mi h h2)
theorem ab_CW_86_87 : ∀ mi, 86 ≤ mi → mi < 87 → Cond.code (ab_nm mi) (ab_by mi) (ab_mxl mi) (ab_rt mi) ∈ ab_BIG := fun mi h1 h2 => by
  have e : mi = 86 := by omega
  subst e
  exact ab_cw86
theorem ab_CW_87_88 : ∀ mi, 87 ≤ mi → mi < 88 → Cond.code (ab_nm mi) (ab_by mi) (ab_mxl mi) (ab_rt mi) ∈ ab_BIG := fun mi h1 h2 => by
  have e : mi = 87 := by omega
  subst e
  exact ab_cw87
theorem ab_CW_86_88 : ∀ mi, 86 ≤ mi → mi < 88 → Cond.code (ab_nm mi) (ab_by mi) (ab_mxl mi) (ab_rt mi) ∈ ab_BIG := fun mi h1 h2 => (Nat.lt_or_ge mi 87).elim (fun h => ab_CW_86_87 mi h1 h) (fun h => ab_CW_87_88 mi h h2)
theorem ab_CW_88_89 : ∀ mi, 88 ≤ mi → mi < 89 → Cond.code (ab_nm mi) (ab_by mi) (ab_mxl mi) (ab_rt mi) ∈ ab_BIG := fun mi h1 h2 => by
  have e : mi = 88 := by omega
  subst e
  exact ab_cw88
theorem ab_CW_89_90 : ∀ mi, 89 ≤ mi → mi < 90 → Cond.code (ab_nm mi) (ab_by mi) (ab_mxl mi) (ab_rt mi) ∈ ab_BIG := fun mi h1 h2 => by
  have e : mi = 89 := by omega
  subst e
  exact ab_cw89
theorem ab_CW_90_91 : ∀ mi, 90 ≤ mi → mi < 91 → Cond.code (ab_nm mi) (ab_by mi) (ab_mxl mi) (ab_rt mi) ∈ ab_BIG := fun mi h1 h2 => by
  have e : mi = 90 := by omega
  subst e
  exact ab_cw90
theorem ab_CW_89_91 : ∀ mi, 89 ≤ mi → mi < 91 → Cond.code (ab_nm mi) (ab_by mi) (ab_mxl mi) (ab_rt mi) ∈ ab_BIG := fun mi h1 h2 => (Nat.lt_or_ge mi 90).elim (fun h => ab_CW_89_90 mi h1 h) (fun h => ab_CW_90_91 mi h h2)
theorem ab_CW_88_91 : ∀ mi, 88 ≤ mi → mi < 91 → Cond.code (ab_nm mi) (ab_by mi) (ab_mxl mi) (ab_rt mi) ∈ ab_BIG := fun mi h1 h2 => (Nat.lt_or_ge mi 89).elim (fun h => ab_CW_88_89 mi h1 h) (fun h => ab_CW_89_91 mi h h2)
theorem ab_CW_86_91 : ∀ mi, 86 ≤ mi → mi < 91 → Cond.code (ab_nm mi) (ab_by mi) (ab_mxl mi) (ab_rt mi) ∈ ab_BIG := fun mi h1 h2 => (Nat.lt_or_ge mi 88).elim (fun h => ab_CW_86_88 mi h1 h) (fun h => ab_CW_88_91 mi h h2)
theorem ab_CW_82_91 : ∀ mi, 82 ≤ mi → mi < 91 → Cond.code (ab_nm mi) (ab_by mi) (ab_mxl mi) (ab_rt mi) ∈ ab_BIG := fun mi h1 h2 => (Nat.lt_or_ge mi 86).elim (fun h => ab_CW_82_86 mi h1 h) (fun h => ab_CW_86_91 mi h h2)
theorem ab_CW_73_91 : ∀ mi, 73 ≤ mi → mi < 91 → Cond.code (ab_nm mi) (ab_by mi) (ab_mxl mi) (ab_rt mi) ∈ ab_BIG := fun mi h1 h2 => (Nat.lt_or_ge mi 82).elim (fun h => ab_CW_73_82 mi h1 h) (fun h => ab_CW_82_91 mi h h2)
theorem ab_CW_91_92 : ∀ mi, 91 ≤ mi → mi < 92 → Cond.code (ab_nm mi) (ab_by mi) (ab_mxl mi) (ab_rt mi) ∈ ab_BIG := fun mi h1 h2 => by
  have e : mi = 91 := by omega
  subst e
  exact ab_cw91
theorem ab_CW_92_93 : ∀ mi, 92 ≤ mi → mi < 93 → Cond.code (ab_nm mi) (ab_by mi) (ab_mxl mi) (ab_rt mi) ∈ ab_BIG := fun mi h1 h2 => by
  have e : mi = 92 := by omega
  subst e
  exact ab_cw92
theorem ab_CW_91_93 : ∀ mi, 91 ≤ mi → mi < 93 → Cond.code (ab_nm mi) (ab_by mi) (ab_mxl mi) (ab_rt mi) ∈ ab_BIG := fun mi h1 h2 => (Nat.lt_or_ge mi 92).elim (fun h => ab_CW_91_92 mi h1 h) (fun h => ab_CW_92_93 mi h h2)
theorem ab_CW_93_94 : ∀ mi, 93 ≤ mi → mi < 94 → Cond.code (ab_nm mi) (ab_by mi) (ab_mxl mi) (ab_rt mi) ∈ ab_BIG := fun mi h1 h2 => by
  have e : mi = 93 := by omega
  subst e
  exact ab_cw93
theorem ab_CW_94_95 : ∀ mi, 94 ≤ mi → mi < 95 → Cond.code (ab_nm mi) (ab_by mi) (ab_mxl mi) (ab_rt mi) ∈ ab_BIG := fun mi h1 h2 => by
  have e : mi = 94 := by omega
  subst e
  exact ab_cw94
theorem ab_CW_93_95 : ∀ mi, 93 ≤ mi → mi < 95 → Cond.code (ab_nm mi) (ab_by mi) (ab_mxl mi) (ab_rt mi) ∈ ab_BIG := fun mi h1 h2 => (Nat.lt_or_ge mi 94).elim (fun h => ab_CW_93_94 mi h1 h) (fun h => ab_CW_94_95 mi h h2)
theorem ab_CW_91_95 : ∀ mi, 91 ≤ mi → mi < 95 → Cond.code (ab_nm mi) (ab_by mi) (ab_mxl mi) (ab_rt mi) ∈ ab_BIG := fun mi h1 h2 => (Nat.lt_or_ge mi 93).elim (fun h => ab_CW_91_93 mi h1 h) (fun h => ab_CW_93_95 mi h h2)
theorem ab_CW_95_96 : ∀ mi, 95 ≤ mi → mi < 96 → Cond.code (ab_nm mi) (ab_by mi) (ab_mxl mi) (ab_rt mi) ∈ ab_BIG := fun mi h1 h2 => by
  have e : mi = 95 := by omega
  subst e
  exact ab_cw95
theorem ab_CW_96_97 : ∀ mi, 96 ≤ mi → mi < 97 → Cond.code (ab_nm mi) (ab_by mi) (ab_mxl mi) (ab_rt mi) ∈ ab_BIG := fun mi h1 h2 => by
  have e : mi = 96 := by omega
  subst e
  exact ab_cw96
theorem ab_CW_95_97 : ∀ mi, 95 ≤ mi → mi < 97 → Cond.code (ab_nm mi) (ab_by mi) (ab_mxl mi) (ab_rt mi) ∈ ab_BIG := fun mi h1 h2 => (Nat.lt_or_ge mi 96).elim (fun h => ab_CW_95_96 mi h1 h) (fun h => ab_CW_96_97 mi h h2)
theorem ab_CW_97_98 : ∀ mi, 97 ≤ mi → mi < 98 → Cond.code (ab_nm mi) (ab_by mi) (ab_mxl mi) (ab_rt mi) ∈ ab_BIG := fun mi h1 h2 => by
  have e : mi = 97 := by omega
  subst e
  exact ab_cw97
theorem ab_CW_98_99 : ∀ mi, 98 ≤ mi → mi < 99 → Cond.code (ab_nm mi) (ab_by mi) (ab_mxl mi) (ab_rt mi) ∈ ab_BIG := fun mi h1 h2 => by
  have e : mi = 98 := by omega
  subst e
  exact ab_cw98
theorem ab_CW_99_100 : ∀ mi, 99 ≤ mi → mi < 100 → Cond.code (ab_nm mi) (ab_by mi) (ab_mxl mi) (ab_rt mi) ∈ ab_BIG := fun mi h1 h2 => by
  have e : mi = 99 := by omega
  subst e
  exact ab_cw99
theorem ab_CW_98_100 : ∀ mi, 98 ≤ mi → mi < 100 → Cond.code (ab_nm mi) (ab_by mi) (ab_mxl mi) (ab_rt mi) ∈ ab_BIG := fun mi h1 h2 => (Nat.lt_or_ge mi 99).elim (fun h => ab_CW_98_99 mi h1 h) (fun h => ab_CW_99_100 mi h h2)
theorem ab_CW_97_100 : ∀ mi, 97 ≤ mi → mi < 100 → Cond.code (ab_nm mi) (ab_by mi) (ab_mxl mi) (ab_rt mi) ∈ ab_BIG := fun mi h1 h2 => (Nat.lt_or_ge mi 98).elim (fun h => ab_CW_97_98 mi h1 h) (fun h => ab_CW_98_100 mi h h2)
theorem ab_CW_95_100 : ∀ mi, 95 ≤ mi → mi < 100 → Cond.code (ab_nm mi) (ab_by mi) (ab_mxl mi) (ab_rt mi) ∈ ab_BIG := fun mi h1 h2 => (Nat.lt_or_ge mi 97).elim (fun h => ab_CW_95_97 mi h1 h) (fun h => ab_CW_97_100 mi h h2)
theorem ab_CW_91_100 : ∀ mi, 91 ≤ mi → mi < 100 → Cond.code (ab_nm mi) (ab_by mi) (ab_mxl mi) (ab_rt mi) ∈ ab_BIG := fun mi h1 h2 => (Nat.lt_or_ge mi 95).elim (fun h => ab_CW_91_95 mi h1 h) (fun h => ab_CW_95_100 mi h h2)
theorem ab_CW_100_101 : ∀ mi, 100 ≤ mi → mi < 101 → Cond.code (ab_nm mi) (ab_by mi) (ab_mxl mi) (ab_rt mi) ∈ ab_BIG := fun mi h1 h2 => by
  have e : mi = 100 := by omega
  subst e
  exact ab_cw100
theorem ab_CW_101_102 : ∀ mi, 101 ≤ mi → mi < 102 → Cond.code (ab_nm mi) (ab_by mi) (ab_mxl mi) (ab_rt mi) ∈ ab_BIG := fun mi h1 h2 => by
  have e : mi = 101 := by omega
  subst e
  exact ab_cw101
theorem ab_CW_100_102 : ∀ mi, 100 ≤ mi → mi < 102 → Cond.code (ab_nm mi) (ab_by mi) (ab_mxl mi) (ab_rt mi) ∈ ab_BIG := fun mi h1 h2 => (Nat.lt_or_ge mi 101).elim (fun h => ab_CW_100_101 mi h1 h) (fun h => ab_CW_101_102 mi h h2)
theorem ab_CW_102_103 : ∀ mi, 102 ≤ mi → mi < 103 → Cond.code (ab_nm mi) (ab_by mi) (ab_mxl mi) (ab_rt mi) ∈ ab_BIG := fun mi h1 h2 => by
  have e : mi = 102 := by omega
  subst e
  exact ab_cw102
theorem ab_CW_103_104 : ∀ mi, 103 ≤ mi → mi < 104 → Cond.code (ab_nm mi) (ab_by mi) (ab_mxl mi) (ab_rt mi) ∈ ab_BIG := fun mi h1 h2 => by
  have e : mi = 103 := by omega
  subst e
  exact ab_cw103
theorem ab_CW_102_104 : ∀ mi, 102 ≤ mi → mi < 104 → Cond.code (ab_nm mi) (ab_by mi) (ab_mxl mi) (ab_rt mi) ∈ ab_BIG := fun mi h1 h2 => (Nat.lt_or_ge mi 103).elim (fun h => ab_CW_102_103 mi h1 h) (fun h => ab_CW_103_104 mi h h2)
theorem ab_CW_100_104 : ∀ mi, 100 ≤ mi → mi < 104 → Cond.code (ab_nm mi) (ab_by mi) (ab_mxl mi) (ab_rt mi) ∈ ab_BIG := fun mi h1 h2 => (Nat.lt_or_ge mi 102).elim (fun h => ab_CW_100_102 mi h1 h) (fun h => ab_CW_102_104 mi h h2)
theorem ab_CW_104_105 : ∀ mi, 104 ≤ mi → mi < 105 → Cond.code (ab_nm mi) (ab_by mi) (ab_mxl mi) (ab_rt mi) ∈ ab_BIG := fun mi h1 h2 => by
  have e : mi = 104 := by omega
  subst e
  exact ab_cw104
theorem ab_CW_105_106 : ∀ mi, 105 ≤ mi → mi < 106 → Cond.code (ab_nm mi) (ab_by mi) (ab_mxl mi) (ab_rt mi) ∈ ab_BIG := fun mi h1 h2 => by
  have e : mi = 105 := by omega
  subst e
  exact ab_cw105
theorem ab_CW_104_106 : ∀ mi, 104 ≤ mi → mi < 106 → Cond.code (ab_nm mi) (ab_by mi) (ab_mxl mi) (ab_rt mi) ∈ ab_BIG := fun mi h1 h2 => (Nat.lt_or_ge mi 105).elim (fun h => ab_CW_104_105 mi h1 h) (fun h => ab_CW_105_106 mi h h2)
theorem ab_CW_106_107 : ∀ mi, 106 ≤ mi → mi < 107 → Cond.code (ab_nm mi) (ab_by mi) (ab_mxl mi) (ab_rt mi) ∈ ab_BIG := fun mi h1 h2 => by
  have e : mi = 106 := by omega
  subst e
  exact ab_cw106
theorem ab_CW_107_108 : ∀ mi, 107 ≤ mi → mi < 108 → Cond.code (ab_nm mi) (ab_by mi) (ab_mxl mi) (ab_rt mi) ∈ ab_BIG := fun mi h1 h2 => by
  have e : mi = 107 := by omega
  subst e
  exact ab_cw107
theorem ab_CW_108_109 : ∀ mi, 108 ≤ mi → mi < 109 → Cond.code (ab_nm mi) (ab_by mi) (ab_mxl mi) (ab_rt mi) ∈ ab_BIG := fun mi h1 h2 => by
  have e : mi = 108 := by omega
  subst e
  exact ab_cw108
theorem ab_CW_107_109 : ∀ mi, 107 ≤ mi → mi < 109 → Cond.code (ab_nm mi) (ab_by mi) (ab_mxl mi) (ab_rt mi) ∈ ab_BIG := fun mi h1 h2 => (Nat.lt_or_ge mi 108).elim (fun h => ab_CW_107_108 mi h1 h) (fun h => ab_CW_108_109 mi h h2)
theorem ab_CW_106_109 : ∀ mi, 106 ≤ mi → mi < 109 → Cond.code (ab_nm mi) (ab_by mi) (ab_mxl mi) (ab_rt mi) ∈ ab_BIG := fun mi h1 h2 => (Nat.lt_or_ge mi 107).elim (fun h => ab_CW_106_107 mi h1 h) (fun h => ab_CW_107_109 mi h h2)
theorem ab_CW_104_109 : ∀ mi, 104 ≤ mi → mi < 109 → Cond.code (ab_nm mi) (ab_by mi) (ab_mxl mi) (ab_rt mi) ∈ ab_BIG := fun mi h1 h2 => (Nat.lt_or_ge mi 106).elim (fun h => ab_CW_104_106 mi h1 h) (fun h => ab_CW_106_109 mi h h2)
theorem ab_CW_100_109 : ∀ mi, 100 ≤ mi → mi < 109 → Cond.code (ab_nm mi) (ab_by mi) (ab_mxl mi) (ab_rt mi) ∈ ab_BIG := fun mi h1 h2 => (Nat.lt_or_ge mi 104).elim (fun h => ab_CW_100_104 mi h1 h) (fun h => ab_CW_104_109 mi h h2)
theorem ab_CW_91_109 : ∀ mi, 91 ≤ mi → mi < 109 → Cond.code (ab_nm mi) (ab_by mi) (ab_mxl mi) (ab_rt mi) ∈ ab_BIG := fun mi h1 h2 => (Nat.lt_or_ge mi 100).elim (fun h => ab_CW_91_100 mi h1 h) (fun h => ab_CW_100_109 mi h h2)
theorem ab_CW_73_109 : ∀ mi, 73 ≤ mi → mi < 109 → Cond.code (ab_nm mi) (ab_by mi) (ab_mxl mi) (ab_rt mi) ∈ ab_BIG := fun mi h1 h2 => (Nat.lt_or_ge mi 91).elim (fun h => ab_CW_73_91 mi h1 h) (fun h => ab_CW_91_109 mi h h2)
theorem ab_CW_109_110 : ∀ mi, 109 ≤ mi → mi < 110 → Cond.code (ab_nm mi) (ab_by mi) (ab_mxl mi) (ab_rt mi) ∈ ab_BIG := fun mi h1 h2 => by
  have e : mi = 109 := by omega
  subst e
  exact ab_cw109
theorem ab_CW_110_111 : ∀ mi, 110 ≤ mi → mi < 111 → Cond.code (ab_nm mi) (ab_by mi) (ab_mxl mi) (ab_rt mi) ∈ ab_BIG := fun mi h1 h2 => by
  have e : mi = 110 := by omega
  subst e
  exact ab_cw110
theorem ab_CW_109_111 : ∀ mi, 109 ≤ mi → mi < 111 → Cond.code (ab_nm mi) (ab_by mi) (ab_mxl mi) (ab_rt mi) ∈ ab_BIG := fun mi h1 h2 => (Nat.lt_or_ge mi 110).elim (fun h => ab_CW_109_110 mi h1 h) (fun h => ab_CW_110_111 mi h h2)
theorem ab_CW_111_112 : ∀ mi, 111 ≤ mi → mi < 112 → Cond.code (ab_nm mi) (ab_by mi) (ab_mxl mi) (ab_rt mi) ∈ ab_BIG := fun mi h1 h2 => by
  have e : mi = 111 := by omega
  subst e
  exact ab_cw111
theorem ab_CW_112_113 : ∀ mi, 112 ≤ mi → mi < 113 → Cond.code (ab_nm mi) (ab_by mi) (ab_mxl mi) (ab_rt mi) ∈ ab_BIG := fun mi h1 h2 => by
  have e : mi = 112 := by omega
  subst e
  exact ab_cw112
theorem ab_CW_111_113 : ∀ mi, 111 ≤ mi → mi < 113 → Cond.code (ab_nm mi) (ab_by mi) (ab_mxl mi) (ab_rt mi) ∈ ab_BIG := fun mi h1 h2 => (Nat.lt_or_ge mi 112).elim (fun h => ab_CW_111_112 mi h1 h) (fun h => ab_CW_112_113 mi h h2)
theorem ab_CW_109_113 : ∀ mi, 109 ≤ mi → mi < 113 → Cond.code (ab_nm mi) (ab_by mi) (ab_mxl mi) (ab_rt mi) ∈ ab_BIG := fun mi h1 h2 => (Nat.lt_or_ge mi 111).elim (fun h => ab_CW_109_111 mi h1 h) (fun h => ab_CW_111_113 mi h h2)
theorem ab_CW_113_114 : ∀ mi, 113 ≤ mi → mi < 114 → Cond.code (ab_nm mi) (ab_by mi) (ab_mxl mi) (ab_rt mi) ∈ ab_BIG := fun mi h1 h2 => by
  have e : mi = 113 := by omega
  subst e
  exact ab_cw113
theorem ab_CW_114_115 : ∀ mi, 114 ≤ mi → mi < 115 → Cond.code (ab_nm mi) (ab_by mi) (ab_mxl mi) (ab_rt mi) ∈ ab_BIG := fun mi h1 h2 => by
  have e : mi = 114 := by omega
  subst e
  exact ab_cw114
theorem ab_CW_113_115 : ∀ mi, 113 ≤ mi → mi < 115 → Cond.code (ab_nm mi) (ab_by mi) (ab_mxl mi) (ab_rt mi) ∈ ab_BIG := fun mi h1 h2 => (Nat.lt_or_ge mi 114).elim (fun h => ab_CW_113_114 mi h1 h) (fun h => ab_CW_114_115 mi h h2)
theorem ab_CW_115_116 : ∀ mi, 115 ≤ mi → mi < 116 → Cond.code (ab_nm mi) (ab_by mi) (ab_mxl mi) (ab_rt mi) ∈ ab_BIG := fun mi h1 h2 => by
  have e : mi = 115 := by omega
  subst e
  exact ab_cw115
theorem ab_CW_116_117 : ∀ mi, 116 ≤ mi → mi < 117 → Cond.code (ab_nm mi) (ab_by mi) (ab_mxl mi) (ab_rt mi) ∈ ab_BIG := fun mi h1 h2 => by
  have e : mi = 116 := by omega
  subst e
  exact ab_cw116
theorem ab_CW_117_118 : ∀ mi, 117 ≤ mi → mi < 118 → Cond.code (ab_nm mi) (ab_by mi) (ab_mxl mi) (ab_rt mi) ∈ ab_BIG := fun mi h1 h2 => by
  have e : mi = 117 := by omega
  subst e
  exact ab_cw117
theorem ab_CW_116_118 : ∀ mi, 116 ≤ mi → mi < 118 → Cond.code (ab_nm mi) (ab_by mi) (ab_mxl mi) (ab_rt mi) ∈ ab_BIG := fun mi h1 h2 => (Nat.lt_or_ge mi 117).elim (fun h => ab_CW_116_117 mi h1 h) (fun h => ab_CW_117_118 mi h h2)
theorem ab_CW_115_118 : ∀ mi, 115 ≤ mi → mi < 118 → Cond.code (ab_nm mi) (ab_by mi) (ab_mxl mi) (ab_rt mi) ∈ ab_BIG := fun mi h1 h2 => (Nat.lt_or_ge mi 116).elim (fun h => ab_CW_115_116 mi h1 h) (fun h => ab_CW_116_118 mi h h2)
theorem ab_CW_113_118 : ∀ mi, 113 ≤ mi → mi < 118 → Cond.code (ab_nm mi) (ab_by mi) (ab_mxl mi) (ab_rt mi) ∈ ab_BIG := fun mi h1 h2 => (Nat.lt_or_ge mi 115).elim (fun h => ab_CW_113_115 mi h1 h) (fun h => ab_CW_115_118 mi h h2)
theorem ab_CW_109_118 : ∀ mi, 109 ≤ mi → mi < 118 → Cond.code (ab_nm mi) (ab_by mi) (ab_mxl mi) (ab_rt mi) ∈ ab_BIG := fun mi h1 h2 => (Nat.lt_or_ge mi 113).elim (fun h => ab_CW_109_113 mi h1 h) (fun h => ab_CW_113_118 mi h h2)
theorem ab_CW_118_119 : ∀ mi, 118 ≤ mi → mi < 119 → Cond.code (ab_nm mi) (ab_by mi) (ab_mxl mi) (ab_rt mi) ∈ ab_BIG := fun mi h1 h2 => by
  have e : mi = 118 := by omega
  subst e
  exact ab_cw118
theorem ab_CW_119_120 : ∀ mi, 119 ≤ mi → mi < 120 → Cond.code (ab_nm mi) (ab_by mi) (ab_mxl mi) (ab_rt mi) ∈ ab_BIG := fun mi h1 h2 => by
  have e : mi = 119 := by omega
  subst e
  exact ab_cw119
theorem ab_CW_118_120 : ∀ mi, 118 ≤ mi → mi < 120 → Cond.code (ab_nm mi) (ab_by mi) (ab_mxl mi) (ab_rt mi) ∈ ab_BIG := fun mi h1 h2 => (Nat.lt_or_ge mi 119).elim (fun h => ab_CW_118_119 mi h1 h) (fun h => ab_CW_119_120 mi h h2)
theorem ab_CW_120_121 : ∀ mi, 120 ≤ mi → mi < 121 → Cond.code (ab_nm mi) (ab_by mi) (ab_mxl mi) (ab_rt mi) ∈ ab_BIG := fun mi h1 h2 => by
  have e : mi = 120 := by omega
  subst e
  exact ab_cw120
theorem ab_CW_121_122 : ∀ mi, 121 ≤ mi → mi < 122 → Cond.code (ab_nm mi) (ab_by mi) (ab_mxl mi) (ab_rt mi) ∈ ab_BIG := fun mi h1 h2 => by
  have e : mi = 121 := by omega
  subst e
  exact ab_cw121
theorem ab_CW_120_122 : ∀ mi, 120 ≤ mi → mi < 122 → Cond.code (ab_nm mi) (ab_by mi) (ab_mxl mi) (ab_rt mi) ∈ ab_BIG := fun mi h1 h2 => (Nat.lt_or_ge mi 121).elim (fun h => ab_CW_120_121 mi h1 h) (fun h => ab_CW_121_122 mi h h2)
theorem ab_CW_118_122 : ∀ mi, 118 ≤ mi → mi < 122 → Cond.code (ab_nm mi) (ab_by mi) (ab_mxl mi) (ab_rt mi) ∈ ab_BIG := fun mi h1 h2 => (Nat.lt_or_ge mi 120).elim (fun h => ab_CW_118_120 mi h1 h) (fun h => ab_CW_120_122 mi h h2)
theorem ab_CW_122_123 : ∀ mi, 122 ≤ mi → mi < 123 → Cond.code (ab_nm mi) (ab_by mi) (ab_mxl mi) (ab_rt mi) ∈ ab_BIG := fun mi h1 h2 => by
  have e : mi = 122 := by omega
  subst e
  exact ab_cw122
theorem ab_CW_123_124 : ∀ mi, 123 ≤ mi → mi < 124 → Cond.code (ab_nm mi) (ab_by mi) (ab_mxl mi) (ab_rt mi) ∈ ab_BIG := fun mi h1 h2 => by
  have e : mi = 123 := by omega
  subst e
  exact ab_cw123
theorem ab_CW_122_124 : ∀ mi, 122 ≤ mi → mi < 124 → Cond.code (ab_nm mi) (ab_by mi) (ab_mxl mi) (ab_rt mi) ∈ ab_BIG := fun mi h1 h2 => (Nat.lt_or_ge mi 123).elim (fun h => ab_CW_122_123 mi h1 h) (fun h => ab_CW_123_124 mi h h2)
theorem ab_CW_124_125 : ∀ mi, 124 ≤ mi → mi < 125 → Cond.code (ab_nm mi) (ab_by mi) (ab_mxl mi) (ab_rt mi) ∈ ab_BIG := fun mi h1 h2 => by
  have e : mi = 124 := by omega
  subst e
  exact ab_cw124
theorem ab_CW_125_126 : ∀ mi, 125 ≤ mi → mi < 126 → Cond.code (ab_nm mi) (ab_by mi) (ab_mxl mi) (ab_rt mi) ∈ ab_BIG := fun mi h1 h2 => by
  have e : mi = 125 := by omega
  subst e
  exact ab_cw125
theorem ab_CW_126_127 : ∀ mi, 126 ≤ mi → mi < 127 → Cond.code (ab_nm mi) (ab_by mi) (ab_mxl mi) (ab_rt mi) ∈ ab_BIG := fun mi h1 h2 => by
  have e : mi = 126 := by omega
  subst e
  exact ab_cw126
theorem ab_CW_125_127 : ∀ mi, 125 ≤ mi → mi < 127 → Cond.code (ab_nm mi) (ab_by mi) (ab_mxl mi) (ab_rt mi) ∈ ab_BIG := fun mi h1 h2 => (Nat.lt_or_ge mi 126).elim (fun h => ab_CW_125_126 mi h1 h) (fun h => ab_CW_126_127 mi h h2)
theorem ab_CW_124_127 : ∀ mi, 124 ≤ mi → mi < 127 → Cond.code (ab_nm mi) (ab_by mi) (ab_mxl mi) (ab_rt mi) ∈ ab_BIG := fun mi h1 h2 => (Nat.lt_or_ge mi 125).elim (fun h => ab_CW_124_125 mi h1 h) (fun h => ab_CW_125_127 mi h h2)
theorem ab_CW_122_127 : ∀ mi, 122 ≤ mi → mi < 127 → Cond.code (ab_nm mi) (ab_by mi) (ab_mxl mi) (ab_rt mi) ∈ ab_BIG := fun mi h1 h2 => (Nat.lt_or_ge mi 124).elim (fun h => ab_CW_122_124 mi h1 h) (fun h => ab_CW_124_127 mi h h2)
theorem ab_CW_118_127 : ∀ mi, 118 ≤ mi → mi < 127 → Cond.code (ab_nm mi) (ab_by mi) (ab_mxl mi) (ab_rt mi) ∈ ab_BIG := fun mi h1 h2 => (Nat.lt_or_ge mi 122).elim (fun h => ab_CW_118_122 mi h1 h) (fun h => ab_CW_122_127 mi h h2)
theorem ab_CW_109_127 : ∀ mi, 109 ≤ mi → mi < 127 → Cond.code (ab_nm mi) (ab_by mi) (ab_mxl mi) (ab_rt mi) ∈ ab_BIG := fun mi h1 h2 => (Nat.lt_or_ge mi 118).elim (fun h => ab_CW_109_118 mi h1 h) (fun h => ab_CW_118_127 mi h h2)
theorem ab_CW_127_128 : ∀ mi, 127 ≤ mi → mi < 128 → Cond.code (ab_nm mi) (ab_by mi) (ab_mxl mi) (ab_rt mi) ∈ ab_BIG := fun mi h1 h2 => by
  have e : mi = 127 := by omega
  subst e
  exact ab_cw127
theorem ab_CW_128_129 : ∀ mi, 128 ≤ mi → mi < 129 → Cond.code (ab_nm mi) (ab_by mi) (ab_mxl mi) (ab_rt mi) ∈ ab_BIG := fun mi h1 h2 => by
  have e : mi = 128 := by omega
  subst e
  exact ab_cw128
theorem ab_CW_127_129 : ∀ mi, 127 ≤ mi → mi < 129 → Cond.code (ab_nm mi) (ab_by mi) (ab_mxl mi) (ab_rt mi) ∈ ab_BIG := fun mi h1 h2 => (Nat.lt_or_ge mi 128).elim (fun h => ab_CW_127_128 mi h1 h) (fun h => ab_CW_128_129 mi h h2)
theorem ab_CW_129_130 : ∀ mi, 129 ≤ mi → mi < 130 → Cond.code (ab_nm mi) (ab_by mi) (ab_mxl mi) (ab_rt mi) ∈ ab_BIG := fun mi h1 h2 => by
  have e : mi = 129 := by omega
  subst e
  exact ab_cw129
theorem ab_CW_130_131 : ∀ mi, 130 ≤ mi → mi < 131 → Cond.code (ab_nm mi) (ab_by mi) (ab_mxl mi) (ab_rt mi) ∈ ab_BIG := fun mi h1 h2 => by
  have e : mi = 130 := by omega
  subst e
  exact ab_cw130
theorem ab_CW_129_131 : ∀ mi, 129 ≤ mi → mi < 131 → Cond.code (ab_nm mi) (ab_by mi) (ab_mxl mi) (ab_rt mi) ∈ ab_BIG := fun mi h1 h2 => (Nat.lt_or_ge mi 130).elim (fun h => ab_CW_129_130 mi h1 h) (fun h => ab_CW_130_131 mi h h2)
theorem ab_CW_127_131 : ∀ mi, 127 ≤ mi → mi < 131 → Cond.code (ab_nm mi) (ab_by mi) (ab_mxl mi) (ab_rt mi) ∈ ab_BIG := fun mi h1 h2 => (Nat.lt_or_ge mi 129).elim (fun h => ab_CW_127_129 mi h1 h) (fun h => ab_CW_129_131 mi h h2)
theorem ab_CW_131_132 : ∀ mi, 131 ≤ mi → mi < 132 → Cond.code (ab_nm mi) (ab_by mi) (ab_mxl mi) (ab_rt mi) ∈ ab_BIG := fun mi h1 h2 => by
  have e : mi = 131 := by omega
  subst e
  exact ab_cw131
theorem ab_CW_132_133 : ∀ mi, 132 ≤ mi → mi < 133 → Cond.code (ab_nm mi) (ab_by mi) (ab_mxl mi) (ab_rt mi) ∈ ab_BIG := fun mi h1 h2 => by
  have e : mi = 132 := by omega
  subst e
  exact ab_cw132
theorem ab_CW_131_133 : ∀ mi, 131 ≤ mi → mi < 133 → Cond.code (ab_nm mi) (ab_by mi) (ab_mxl mi) (ab_rt mi) ∈ ab_BIG := fun mi h1 h2 => (Nat.lt_or_ge mi 132).elim (fun h => ab_CW_131_132 mi h1 h) (fun h => ab_CW_132_133 mi h h2)
theorem ab_CW_133_134 : ∀ mi, 133 ≤ mi → mi < 134 → Cond.code (ab_nm mi) (ab_by mi) (ab_mxl mi) (ab_rt mi) ∈ ab_BIG := fun mi h1 h2 => by
  have e : mi = 133 := by omega
  subst e
  exact ab_cw133
theorem ab_CW_134_135 : ∀ mi, 134 ≤ mi → mi < 135 → Cond.code (ab_nm mi) (ab_by mi) (ab_mxl mi) (ab_rt mi) ∈ ab_BIG := fun mi h1 h2 => by
  have e : mi = 134 := by omega
  subst e
  exact ab_cw134
theorem ab_CW_135_136 : ∀ mi, 135 ≤ mi → mi < 136 → Cond.code (ab_nm mi) (ab_by mi) (ab_mxl mi) (ab_rt mi) ∈ ab_BIG := fun mi h1 h2 => by
  have e : mi = 135 := by omega
  subst e
  exact ab_cw135
theorem ab_CW_134_136 : ∀ mi, 134 ≤ mi → mi < 136 → Cond.code (ab_nm mi) (ab_by mi) (ab_mxl mi) (ab_rt mi) ∈ ab_BIG := fun mi h1 h2 => (Nat.lt_or_ge mi 135).elim (fun h => ab_CW_134_135 mi h1 h) (fun h => ab_CW_135_136 mi h h2)
theorem ab_CW_133_136 : ∀ mi, 133 ≤ mi → mi < 136 → Cond.code (ab_nm mi) (ab_by mi) (ab_mxl mi) (ab_rt mi) ∈ ab_BIG := fun mi h1 h2 => (Nat.lt_or_ge mi 134).elim (fun h => ab_CW_133_134 mi h1 h) (fun h => ab_CW_134_136 mi h h2)
theorem ab_CW_131_136 : ∀ mi, 131 ≤ mi → mi < 136 → Cond.code (ab_nm mi) (ab_by mi) (ab_mxl mi) (ab_rt mi) ∈ ab_BIG := fun mi h1 h2 => (Nat.lt_or_ge mi 133).elim (fun h => ab_CW_131_133 mi h1 h) (fun h => ab_CW_133_136 mi h h2)
theorem ab_CW_127_136 : ∀ mi, 127 ≤ mi → mi < 136 → Cond.code (ab_nm mi) (ab_by mi) (ab_mxl mi) (ab_rt mi) ∈ ab_BIG := fun mi h1 h2 => (Nat.lt_or_ge mi 131).elim (fun h => ab_CW_127_131 mi h1 h) (fun h => ab_CW_131_136 mi h h2)
theorem ab_CW_136_137 : ∀ mi, 136 ≤ mi → mi < 137 → Cond.code (ab_nm mi) (ab_by mi) (ab_mxl mi) (ab_rt mi) ∈ ab_BIG := fun mi h1 h2 => by
  have e : mi = 136 := by omega
  subst e
  exact ab_cw136
theorem ab_CW_137_138 : ∀ mi, 137 ≤ mi → mi < 138 → Cond.code (ab_nm mi) (ab_by mi) (ab_mxl mi) (ab_rt mi) ∈ ab_BIG := fun mi h1 h2 => by
  have e : mi = 137 := by omega
  subst e
  exact ab_cw137
theorem ab_CW_136_138 : ∀ mi, 136 ≤ mi → mi < 138 → Cond.code (ab_nm mi) (ab_by mi) (ab_mxl mi) (ab_rt mi) ∈ ab_BIG := fun mi h1 h2 => (Nat.lt_or_ge mi 137).elim (fun h => ab_CW_136_137 mi h1 h) (fun h => ab_CW_137_138 mi h h2)
theorem ab_CW_138_139 : ∀ mi, 138 ≤ mi → mi < 139 → Cond.code (ab_nm mi) (ab_by mi) (ab_mxl mi) (ab_rt mi) ∈ ab_BIG := fun mi h1 h2 => by
  have e : mi = 138 := by omega
  subst e
  exact ab_cw138
theorem ab_CW_139_140 : ∀ mi, 139 ≤ mi → mi < 140 → Cond.code (ab_nm mi) (ab_by mi) (ab_mxl mi) (ab_rt mi) ∈ ab_BIG := fun mi h1 h2 => by
  have e : mi = 139 := by omega
  subst e
  exact ab_cw139
theorem ab_CW_140_141 : ∀ mi, 140 ≤ mi → mi < 141 → Cond.code (ab_nm mi) (ab_by mi) (ab_mxl mi) (ab_rt mi) ∈ ab_BIG := fun mi h1 h2 => by
  have e : mi = 140 := by omega
  subst e
  exact ab_cw140
theorem ab_CW_139_141 : ∀ mi, 139 ≤ mi → mi < 141 → Cond.code (ab_nm mi) (ab_by mi) (ab_mxl mi) (ab_rt mi) ∈ ab_BIG := fun mi h1 h2 => (Nat.lt_or_ge mi 140).elim (fun h => ab_CW_139_140 mi h1 h) (fun h => ab_CW_140_141 mi h h2)
theorem ab_CW_138_141 : ∀ mi, 138 ≤ mi → mi < 141 → Cond.code (ab_nm mi) (ab_by mi) (ab_mxl mi) (ab_rt mi) ∈ ab_BIG := fun mi h1 h2 => (Nat.lt_or_ge mi 139).elim (fun h => ab_CW_138_139 mi h1 h) (fun h => ab_CW_139_141 mi h h2)
theorem ab_CW_136_141 : ∀ mi, 136 ≤ mi → mi < 141 → Cond.code (ab_nm mi) (ab_by mi) (ab_mxl mi) (ab_rt mi) ∈ ab_BIG := fun mi h1 h2 => (Nat.lt_or_ge mi 138).elim (fun h => ab_CW_136_138 mi h1 h) (fun h => ab_CW_138_141 mi h h2)
theorem ab_CW_141_142 : ∀ mi, 141 ≤ mi → mi < 142 → Cond.code (ab_nm mi) (ab_by mi) (ab_mxl mi) (ab_rt mi) ∈ ab_BIG := fun mi h1 h2 => by
  have e : mi = 141 := by omega
  subst e
  exact ab_cw141
theorem ab_CW_142_143 : ∀ mi, 142 ≤ mi → mi < 143 → Cond.code (ab_nm mi) (ab_by mi) (ab_mxl mi) (ab_rt mi) ∈ ab_BIG := fun mi h1 h2 => by
  have e : mi = 142 := by omega
  subst e
  exact ab_cw142
theorem ab_CW_141_143 : ∀ mi, 141 ≤ mi → mi < 143 → Cond.code (ab_nm mi) (ab_by mi) (ab_mxl mi) (ab_rt mi) ∈ ab_BIG := fun mi h1 h2 => (Nat.lt_or_ge mi 142).elim (fun h => ab_CW_141_142 mi h1 h) (fun h => ab_CW_142_143 mi h h2)
theorem ab_CW_143_144 : ∀ mi, 143 ≤ mi → mi < 144 → Cond.code (ab_nm mi) (ab_by mi) (ab_mxl mi) (ab_rt mi) ∈ ab_BIG := fun mi h1 h2 => by
  have e : mi = 143 := by omega
  subst e
  exact ab_cw143
theorem ab_CW_144_145 : ∀ mi, 144 ≤ mi → mi < 145 → Cond.code (ab_nm mi) (ab_by mi) (ab_mxl mi) (ab_rt mi) ∈ ab_BIG := fun mi h1 h2 => by
  have e : mi = 144 := by omega
  subst e
  exact ab_cw144
theorem ab_CW_145_146 : ∀ mi, 145 ≤ mi → mi < 146 → Cond.code (ab_nm mi) (ab_by mi) (ab_mxl mi) (ab_rt mi) ∈ ab_BIG := fun mi h1 h2 => by
  have e : mi = 145 := by omega
  subst e
  exact ab_cw145
theorem ab_CW_144_146 : ∀ mi, 144 ≤ mi → mi < 146 → Cond.code (ab_nm mi) (ab_by mi) (ab_mxl mi) (ab_rt mi) ∈ ab_BIG := fun mi h1 h2 => (Nat.lt_or_ge mi 145).elim (fun h => ab_CW_144_145 mi h1 h) (fun h => ab_CW_145_146 mi h h2)
theorem ab_CW_143_146 : ∀ mi, 143 ≤ mi → mi < 146 → Cond.code (ab_nm mi) (ab_by mi) (ab_mxl mi) (ab_rt mi) ∈ ab_BIG := fun mi h1 h2 => (Nat.lt_or_ge mi 144).elim (fun h => ab_CW_143_144 mi h1 h) (fun h => ab_CW_144_146 mi h h2)
theorem ab_CW_141_146 : ∀ mi, 141 ≤ mi → mi < 146 → Cond.code (ab_nm mi) (ab_by mi) (ab_mxl mi) (ab_rt mi) ∈ ab_BIG := fun mi h1 h2 => (Nat.lt_or_ge mi 143).elim (fun h => ab_CW_141_143 mi h1 h) (fun h => ab_CW_143_146 mi h h2)
theorem ab_CW_136_146 : ∀ mi, 136 ≤ mi → mi < 146 → Cond.code (ab_nm mi) (ab_by mi) (ab_mxl mi) (ab_rt mi) ∈ ab_BIG := fun mi h1 h2 => (Nat.lt_or_ge mi 141).elim (fun h => ab_CW_136_141 mi h1 h) (fun h => ab_CW_141_146 mi h h2)
theorem ab_CW_127_146 : ∀ mi, 127 ≤ mi → mi < 146 → Cond.code (ab_nm mi) (ab_by mi) (ab_mxl mi) (ab_rt mi) ∈ ab_BIG := fun mi h1 h2 => (Nat.lt_or_ge mi 136).elim (fun h => ab_CW_127_136 mi h1 h) (fun h => ab_CW_136_146 mi h h2)
theorem ab_CW_109_146 : ∀ mi, 109 ≤ mi → mi < 146 → Cond.code (ab_nm mi) (ab_by mi) (ab_mxl mi) (ab_rt mi) ∈ ab_BIG := fun mi h1 h2 => (Nat.lt_or_ge mi 127).elim (fun h => ab_CW_109_127 mi h1 h) (fun h => ab_CW_127_146 mi h h2)
theorem ab_CW_73_146 : ∀ mi, 73 ≤ mi → mi < 146 → Cond.code (ab_nm mi) (ab_by mi) (ab_mxl mi) (ab_rt mi) ∈ ab_BIG := fun mi h1 h2 => (Nat.lt_or_ge mi 109).elim (fun h => ab_CW_73_109 mi h1 h) (fun h => ab_CW_109_146 mi h h2)
theorem ab_CW_0_146 : ∀ mi, 0 ≤ mi → mi < 146 → Cond.code (ab_nm mi) (ab_by mi) (ab_mxl mi) (ab_rt mi) ∈ ab_BIG := fun mi h1 h2 => (Nat.lt_or_ge mi 73).elim (fun h => ab_CW_0_73 mi h1 h) (fun h => ab_CW_73_146 mi h h2)
