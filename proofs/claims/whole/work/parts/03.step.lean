/-! TABLES of the abstract machine, by program: methods, codes, what the constant pools link. A place is a part of the tables and a row in it. -/
abbrev ab_P : Type := Nat × Nat
def ab_tb (j : Nat) : List Cond := match j with
  | 1 => tables_1_1 | 2 => tables_1_2 | 3 => tables_1_3 | 4 => tables_1_4 | 5 => tables_1_5 | 6 => tables_1_6
  | 7 => k2_sels lw_privs_1 | 8 => k2_sels lw_privs_2 | 9 => k2_sels lw_privs_3 | 10 => k2_sels lw_privs_4 | 11 => k2_sels lw_privs_5 | 12 => k2_sels lw_privs_6 | _ => []
/-- own class, name, bytes, locals, what it returns, parameters, places of its words: code, initialized, instanceMethod, selects, static -/
abbrev ab_MI : Type := Nat × MethodName × ByteArray × Nat × Option FieldType × Nat × ab_P × ab_P × ab_P × ab_P × ab_P
def ab_M0 : List ab_MI := [(0, yX0_init, cX0_init, 1, none, 0, (1, 237), (1, 6), (1, 236), (0, 0), (0, 0)),
  (0, yX0_split, cX0_split, 4, none, 2, (3, 197), (1, 6), (3, 195), (3, 196), (0, 0)),
  (0, yX0_firstAtStart, cX0_firstAtStart, 4, (some .int), 2, (3, 201), (1, 6), (3, 200), (8, 4), (0, 0)),
  (0, yX0_isHopeful, cX0_isHopeful, 4, (some .boolean), 3, (3, 205), (1, 6), (3, 204), (8, 5), (0, 0)),
  (0, yX0_splitOnce, cX0_splitOnce, 5, (some .boolean), 1, (3, 210), (1, 6), (3, 209), (8, 6), (0, 0)),
  (0, yX0_areOperandsAlike, cX0_areOperandsAlike, 6, (some .boolean), 3, (3, 214), (1, 6), (3, 213), (8, 7), (0, 0)),
  (0, yX0_isAlike, cX0_isAlike, 6, (some .boolean), 5, (3, 218), (1, 6), (3, 217), (8, 8), (0, 0)),
  (0, yX0_countClasses, cX0_countClasses, 4, (some .int), 1, (3, 223), (1, 6), (3, 221), (3, 222), (0, 0)),
  (0, yX0_greatestClass, cX0_greatestClass, 4, (some .int), 1, (3, 227), (1, 6), (3, 225), (3, 226), (0, 0)),
  (0, yX0_sizeOf, cX0_sizeOf, 5, (some .int), 2, (3, 231), (1, 6), (3, 230), (8, 9), (0, 0)),
  (0, yX0_leaderOf, cX0_leaderOf, 5, (some .int), 2, (4, 11), (1, 6), (4, 9), (4, 10), (0, 0)),
  (1, yX1_init, cX1_init, 1, none, 0, (2, 15), (1, 7), (2, 14), (0, 0), (0, 0)),
  (1, yX1_find, cX1_find, 3, none, 1, (4, 20), (1, 7), (4, 18), (4, 19), (0, 0)),
  (1, yX1_nameOf, cX1_nameOf, 2, (some .int), 1, (4, 34), (1, 7), (4, 32), (4, 33), (0, 0)),
  (1, yX1_numberOf, cX1_numberOf, 2, (some .long), 1, (4, 71), (1, 7), (4, 69), (4, 70), (0, 0)),
  (1, yX1_isName, cX1_isName, 2, (some .boolean), 1, (4, 37), (1, 7), (0, 0), (0, 0), (4, 36)),
  (1, yX1_codeOf, cX1_codeOf, 3, (some .long), 2, (4, 25), (1, 7), (4, 24), (8, 10), (0, 0)),
  (1, yX1_codeOfNeg, cX1_codeOfNeg, 5, (some .long), 2, (4, 53), (1, 7), (4, 52), (8, 14), (0, 0)),
  (1, yX1_codeOfPair, cX1_codeOfPair, 9, (some .long), 2, (4, 62), (1, 7), (4, 61), (9, 0), (0, 0)),
  (1, yX1_codeOfPhi, cX1_codeOfPhi, 6, (some .long), 2, (4, 58), (1, 7), (4, 57), (8, 15), (0, 0)),
  (1, yX1_earlier, cX1_earlier, 4, (some .long), 2, (4, 30), (1, 7), (4, 29), (8, 11), (0, 0)),
  (1, yX1_isSame, cX1_isSame, 6, (some .boolean), 3, (4, 41), (1, 7), (4, 40), (8, 12), (0, 0)),
  (1, yX1_isSameOperand, cX1_isSameOperand, 6, (some .boolean), 5, (4, 49), (1, 7), (4, 48), (8, 13), (0, 0)),
  (2, yX2_init, cX2_init, 1, none, 0, (1, 192), (1, 5), (1, 191), (0, 0), (0, 0)),
  (2, yX2_forget, cX2_forget, 1, none, 0, (3, 72), (1, 5), (3, 70), (3, 71), (0, 0)),
  (2, yX2_give, cX2_give, 5, none, 4, (3, 144), (1, 5), (3, 142), (3, 143), (0, 0)),
  (2, yX2_giveBySeed, cX2_giveBySeed, 4, (some .int), 1, (4, 118), (1, 5), (4, 116), (4, 117), (0, 0)),
  (2, yX2_watch, cX2_watch, 3, none, 2, (4, 114), (1, 5), (4, 112), (4, 113), (0, 0)),
  (2, yX2_go, cX2_go, 5, (some .long), 1, (3, 148), (1, 5), (3, 146), (3, 147), (0, 0)),
  (2, yX2_nextBlock, cX2_nextBlock, 5, (some .int), 2, (3, 179), (1, 5), (3, 178), (8, 3), (0, 0)),
  (2, yX2_pass, cX2_pass, 6, none, 3, (3, 154), (1, 5), (3, 153), (7, 15), (0, 0)),
  (2, yX2_passPhis, cX2_passPhis, 7, none, 4, (3, 162), (1, 5), (3, 161), (8, 0), (0, 0)),
  (2, yX2_bringOf, cX2_bringOf, 5, (some .long), 2, (3, 170), (1, 5), (3, 169), (8, 2), (0, 0)),
  (2, yX2_compare, cX2_compare, 1, none, 0, (3, 166), (1, 5), (3, 165), (8, 1), (0, 0)),
  (3, yX3_init, cX3_init, 1, none, 0, (1, 52), (1, 4), (1, 51), (0, 0), (0, 0)),
  (3, yX3_clear, cX3_clear, 1, none, 0, (2, 187), (1, 4), (2, 185), (2, 186), (0, 0)),
  (3, yX3_openBlock, cX3_openBlock, 1, (some .boolean), 0, (2, 203), (1, 4), (2, 201), (2, 202), (0, 0)),
  (3, yX3_openName, cX3_openName, 2, (some .boolean), 1, (2, 215), (1, 4), (2, 213), (2, 214), (0, 0)),
  (3, yX3_putFigure, cX3_putFigure, 2, none, 1, (2, 230), (1, 4), (2, 228), (2, 229), (0, 0)),
  (3, yX3_putOperand, cX3_putOperand, 3, none, 1, (2, 238), (1, 4), (2, 236), (2, 237), (0, 0))]
def ab_M1 : List ab_MI := [(3, yX3_putEnd, cX3_putEnd, 2, none, 1, (3, 6), (1, 4), (3, 4), (3, 5), (0, 0)),
  (3, yX3_putAsked, cX3_putAsked, 2, none, 1, (3, 10), (1, 4), (3, 8), (3, 9), (0, 0)),
  (3, yX3_putGoal, cX3_putGoal, 2, none, 1, (3, 14), (1, 4), (3, 12), (3, 13), (0, 0)),
  (3, yX3_putOther, cX3_putOther, 2, none, 1, (3, 18), (1, 4), (3, 16), (3, 17), (0, 0)),
  (3, yX3_copyFrom, cX3_copyFrom, 3, none, 1, (3, 65), (1, 4), (3, 63), (3, 64), (0, 0)),
  (3, yX3_hasBlock, cX3_hasBlock, 2, (some .boolean), 1, (3, 96), (1, 4), (3, 94), (3, 95), (0, 0)),
  (3, yX3_hasName, cX3_hasName, 2, (some .boolean), 1, (3, 49), (1, 4), (3, 47), (3, 48), (0, 0)),
  (3, yX3_hasOperand, cX3_hasOperand, 3, (some .boolean), 2, (3, 131), (1, 4), (3, 129), (3, 130), (0, 0)),
  (3, yX3_hasFigure, cX3_hasFigure, 2, (some .boolean), 1, (3, 119), (1, 4), (3, 117), (3, 118), (0, 0)),
  (3, yX3_successors, cX3_successors, 2, (some .int), 1, (3, 26), (1, 4), (3, 24), (3, 25), (0, 0)),
  (3, yX3_reachOutside, cX3_reachOutside, 5, (some .int), 1, (3, 30), (1, 4), (3, 28), (3, 29), (0, 0)),
  (3, yX3_findDominators, cX3_findDominators, 4, none, 0, (3, 41), (1, 4), (3, 39), (3, 40), (0, 0)),
  (3, yX3_findPreds, cX3_findPreds, 3, none, 0, (3, 37), (1, 4), (3, 35), (3, 36), (0, 0)),
  (3, yX3_nearestDominator, cX3_nearestDominator, 6, (some .int), 1, (3, 100), (1, 4), (3, 98), (3, 99), (0, 0)),
  (3, yX3_routeFrom, cX3_routeFrom, 4, (some .int), 2, (3, 158), (1, 4), (3, 156), (3, 157), (0, 0)),
  (3, yX3_isSeen, cX3_isSeen, 3, (some .boolean), 2, (3, 57), (1, 4), (3, 55), (3, 56), (0, 0)),
  (3, yX3_isSeenAtEnd, cX3_isSeenAtEnd, 3, (some .boolean), 2, (3, 61), (1, 4), (3, 59), (3, 60), (0, 0)),
  (3, yX3_isSeenByOperand, cX3_isSeenByOperand, 5, (some .boolean), 3, (3, 53), (1, 4), (3, 51), (3, 52), (0, 0)),
  (3, yX3_isSound, cX3_isSound, 3, (some .boolean), 0, (3, 22), (1, 4), (3, 20), (3, 21), (0, 0)),
  (3, yX3_areOperandsSound, cX3_areOperandsSound, 4, (some .boolean), 1, (3, 45), (1, 4), (3, 43), (3, 44), (0, 0)),
  (3, yX3_looksBehind, cX3_looksBehind, 3, (some .boolean), 1, (4, 45), (1, 4), (4, 43), (4, 44), (0, 0)),
  (3, yX3_countKind, cX3_countKind, 4, (some .int), 1, (3, 84), (1, 4), (3, 82), (3, 83), (0, 0)),
  (3, yX3_countOperands, cX3_countOperands, 3, (some .int), 0, (3, 88), (1, 4), (3, 86), (3, 87), (0, 0)),
  (3, yX3_countUses, cX3_countUses, 5, (some .int), 1, (3, 123), (1, 4), (3, 121), (3, 122), (0, 0)),
  (3, yX3_sumOfNumbers, cX3_sumOfNumbers, 3, (some .int), 0, (4, 180), (1, 4), (4, 178), (4, 179), (0, 0)),
  (3, yX3_exchange, cX3_exchange, 6, (some .int), 1, (4, 80), (1, 4), (4, 78), (4, 79), (0, 0)),
  (3, yX3_dropUnneeded, cX3_dropUnneeded, 3, (some .int), 0, (4, 88), (1, 4), (4, 86), (4, 87), (0, 0)),
  (3, yX3_findNeeded, cX3_findNeeded, 3, none, 0, (4, 92), (1, 4), (4, 90), (4, 91), (0, 0)),
  (3, yX3_markOperands, cX3_markOperands, 3, none, 1, (4, 96), (1, 4), (4, 94), (4, 95), (0, 0)),
  (4, yX4_init, cX4_init, 1, none, 0, (1, 29), (1, 2), (1, 28), (0, 0), (0, 0)),
  (4, yX4_readText, cX4_readText, 3, (some .boolean), 0, (2, 95), (1, 2), (2, 93), (2, 94), (0, 0)),
  (4, yX4_refuse, cX4_refuse, 2, (some .boolean), 1, (2, 199), (1, 2), (2, 198), (7, 8), (0, 0)),
  (4, yX4_readLine, cX4_readLine, 1, (some .boolean), 0, (2, 191), (1, 2), (2, 190), (7, 6), (0, 0)),
  (4, yX4_readHead, cX4_readHead, 1, (some .boolean), 0, (2, 195), (1, 2), (2, 194), (7, 7), (0, 0)),
  (4, yX4_readName, cX4_readName, 3, (some .boolean), 0, (2, 211), (1, 2), (2, 210), (7, 10), (0, 0)),
  (4, yX4_readFigure, cX4_readFigure, 2, (some .boolean), 1, (2, 219), (1, 2), (2, 218), (7, 11), (0, 0)),
  (4, yX4_readOperands, cX4_readOperands, 5, (some .boolean), 1, (2, 234), (1, 2), (2, 233), (7, 13), (0, 0)),
  (4, yX4_readEnd, cX4_readEnd, 2, (some .boolean), 0, (3, 2), (1, 2), (3, 1), (7, 14), (0, 0)),
  (4, yX4_takeSemicolon, cX4_takeSemicolon, 1, (some .boolean), 0, (2, 207), (1, 2), (2, 206), (7, 9), (0, 0)),
  (4, yX4_takeNumber, cX4_takeNumber, 3, (some .boolean), 2, (2, 226), (1, 2), (2, 225), (7, 12), (0, 0))]
def ab_M2 : List ab_MI := [(4, yX4_scan, cX4_scan, 3, none, 0, (2, 99), (1, 2), (2, 98), (7, 0), (0, 0)),
  (4, yX4_scanToken, cX4_scanToken, 2, (some .int), 1, (2, 111), (1, 2), (2, 110), (7, 2), (0, 0)),
  (4, yX4_skip, cX4_skip, 4, none, 2, (2, 103), (1, 2), (2, 102), (7, 1), (0, 0)),
  (4, yX4_figureFrom, cX4_figureFrom, 4, (some .int), 1, (2, 183), (1, 2), (2, 182), (7, 5), (0, 0)),
  (4, yX4_wordFrom, cX4_wordFrom, 2, (some .int), 1, (2, 115), (1, 2), (2, 114), (7, 3), (0, 0)),
  (4, yX4_isWord, cX4_isWord, 4, (some .boolean), 2, (2, 120), (1, 2), (2, 119), (7, 4), (0, 0)),
  (5, yX5_init, cX5_init, 2, none, 0, (2, 25), (1, 8), (2, 24), (0, 0), (0, 0)),
  (5, yX5_renew, cX5_renew, 5, none, 3, (4, 135), (1, 8), (4, 133), (4, 134), (0, 0)),
  (5, yX5_faultAt, cX5_faultAt, 3, (some .int), 2, (4, 143), (1, 8), (4, 141), (4, 142), (0, 0)),
  (5, yX5_faultOfFour, cX5_faultOfFour, 5, (some .int), 3, (4, 155), (1, 8), (4, 153), (4, 154), (0, 0)),
  (5, yX5_write, cX5_write, 4, none, 3, (4, 147), (1, 8), (4, 145), (4, 146), (0, 0)),
  (5, yX5_cellAt, cX5_cellAt, 3, (some .int), 2, (4, 164), (1, 8), (4, 162), (4, 163), (0, 0)),
  (6, yX6_init, cX6_init, 1, none, 0, (1, 35), (1, 3), (1, 34), (0, 0), (0, 0)),
  (6, yX6_push, cX6_push, 2, (some .boolean), 1, (2, 83), (1, 3), (2, 81), (2, 82), (0, 0)),
  (6, yX6_has, cX6_has, 4, (some .boolean), 3, (2, 107), (1, 3), (2, 105), (2, 106), (0, 0)),
  (7, yX7_init, cX7_init, 2, none, 0, (1, 21), (1, 1), (1, 20), (0, 0), (0, 0)),
  (7, yX7_feed, cX7_feed, 2, (some .int), 1, (2, 79), (1, 1), (2, 77), (2, 78), (0, 0)),
  (7, yX7_end, cX7_end, 3, (some .int), 1, (2, 87), (1, 1), (2, 85), (2, 86), (0, 0)),
  (7, yX7_text, cX7_text, 3, (some .int), 0, (2, 91), (1, 1), (2, 89), (2, 90), (0, 0)),
  (7, yX7_fault, cX7_fault, 1, (some .int), 0, (3, 76), (1, 1), (3, 74), (3, 75), (0, 0)),
  (7, yX7_rule, cX7_rule, 2, (some .int), 1, (3, 80), (1, 1), (3, 78), (3, 79), (0, 0)),
  (7, yX7_block, cX7_block, 3, (some .int), 2, (3, 92), (1, 1), (3, 90), (3, 91), (0, 0)),
  (7, yX7_pred, cX7_pred, 3, (some .int), 2, (3, 110), (1, 1), (3, 108), (3, 109), (0, 0)),
  (7, yX7_name, cX7_name, 3, (some .int), 2, (3, 114), (1, 1), (3, 112), (3, 113), (0, 0)),
  (7, yX7_operand, cX7_operand, 3, (some .int), 2, (3, 127), (1, 1), (3, 125), (3, 126), (0, 0)),
  (7, yX7_seen, cX7_seen, 3, (some .int), 2, (3, 135), (1, 1), (3, 133), (3, 134), (0, 0)),
  (7, yX7_run, cX7_run, 5, (some .long), 4, (3, 140), (1, 1), (3, 138), (3, 139), (0, 0)),
  (7, yX7_value, cX7_value, 2, (some .long), 1, (3, 183), (1, 1), (3, 181), (3, 182), (0, 0)),
  (7, yX7_went, cX7_went, 2, (some .int), 1, (3, 189), (1, 1), (3, 187), (3, 188), (0, 0)),
  (7, yX7_classes, cX7_classes, 2, (some .int), 1, (3, 193), (1, 1), (3, 191), (3, 192), (0, 0)),
  (7, yX7_part, cX7_part, 2, (some .int), 1, (3, 238), (1, 1), (3, 236), (3, 237), (0, 0)),
  (7, yX7_partAt, cX7_partAt, 3, (some .int), 2, (4, 2), (1, 1), (4, 0), (4, 1), (0, 0)),
  (7, yX7_leader, cX7_leader, 2, (some .int), 1, (4, 7), (1, 1), (4, 5), (4, 6), (0, 0)),
  (7, yX7_form, cX7_form, 2, (some .int), 1, (4, 16), (1, 1), (4, 14), (4, 15), (0, 0)),
  (7, yX7_number, cX7_number, 2, (some .long), 1, (4, 67), (1, 1), (4, 65), (4, 66), (0, 0)),
  (7, yX7_replace, cX7_replace, 2, (some .int), 0, (4, 76), (1, 1), (4, 74), (4, 75), (0, 0)),
  (7, yX7_sweep, cX7_sweep, 1, (some .int), 0, (4, 84), (1, 1), (4, 82), (4, 83), (0, 0)),
  (7, yX7_set, cX7_set, 5, (some .int), 3, (4, 100), (1, 1), (4, 98), (4, 99), (0, 0)),
  (7, yX7_alter, cX7_alter, 4, (some .int), 2, (4, 105), (1, 1), (4, 103), (4, 104), (0, 0)),
  (7, yX7_agree, cX7_agree, 9, (some .int), 5, (4, 110), (1, 1), (4, 108), (4, 109), (0, 0))]
def ab_M3 : List ab_MI := [(7, yX7_keep, cX7_keep, 3, (some .int), 1, (4, 123), (1, 1), (4, 121), (4, 122), (0, 0)),
  (7, yX7_back, cX7_back, 2, (some .int), 1, (4, 127), (1, 1), (4, 125), (4, 126), (0, 0)),
  (7, yX7_sheet, cX7_sheet, 4, (some .int), 3, (4, 131), (1, 1), (4, 129), (4, 130), (0, 0)),
  (7, yX7_lay, cX7_lay, 5, (some .int), 3, (4, 139), (1, 1), (4, 137), (4, 138), (0, 0)),
  (7, yX7_read, cX7_read, 6, (some .int), 4, (4, 151), (1, 1), (4, 149), (4, 150), (0, 0)),
  (7, yX7_torn, cX7_torn, 1, (some .int), 0, (4, 168), (1, 1), (4, 166), (4, 167), (0, 0)),
  (7, yX7_count, cX7_count, 2, (some .int), 1, (4, 172), (1, 1), (4, 170), (4, 171), (0, 0)),
  (7, yX7_countImages, cX7_countImages, 3, (some .int), 0, (4, 176), (1, 1), (4, 175), (9, 2), (0, 0)),
  (7, yX7_giveCells, cX7_giveCells, 4, none, 2, (4, 160), (1, 1), (4, 159), (9, 1), (0, 0)),
  (7, yX7_highestFigure, cX7_highestFigure, 1, (some .int), 1, (2, 222), (1, 1), (0, 0), (0, 0), (2, 221)),
  (7, yX7_hasBit, cX7_hasBit, 2, (some .boolean), 2, (3, 33), (1, 1), (0, 0), (0, 0), (3, 32)),
  (7, yX7_bring, cX7_bring, 6, (some .long), 3, (3, 174), (1, 1), (0, 0), (0, 0), (3, 173)),
  (8, yX8_init, cX8_init, 1, none, 0, (4, 185), (1, 9), (4, 184), (0, 0), (0, 0)),
  (8, yX8_in, cX8_in, 6, (some .boolean), 3, (5, 63), (1, 9), (0, 0), (0, 0), (5, 62)),
  (8, yX8_feed, cX8_feed, 2, (some .int), 1, (5, 59), (1, 9), (5, 57), (5, 58), (0, 0)),
  (8, yX8_end, cX8_end, 3, (some .int), 1, (5, 67), (1, 9), (5, 65), (5, 66), (0, 0)),
  (8, yX8_byteAt, cX8_byteAt, 2, (some .int), 1, (5, 79), (1, 9), (5, 78), (9, 4), (0, 0)),
  (8, yX8_fails, cX8_fails, 2, none, 1, (5, 87), (1, 9), (5, 86), (9, 5), (0, 0)),
  (8, yX8_nameHere, cX8_nameHere, 4, (some .int), 0, (5, 95), (1, 9), (5, 94), (9, 7), (0, 0)),
  (8, yX8_readsOn, cX8_readsOn, 2, none, 0, (5, 75), (1, 9), (5, 74), (9, 3), (0, 0)),
  (8, yX8_numberRead, cX8_numberRead, 4, (some .int), 2, (5, 108), (1, 9), (5, 107), (9, 10), (0, 0)),
  (8, yX8_endsLine, cX8_endsLine, 1, none, 0, (5, 99), (1, 9), (5, 98), (9, 8), (0, 0)),
  (8, yX8_operandsOf, cX8_operandsOf, 1, (some .int), 1, (5, 111), (1, 9), (0, 0), (0, 0), (5, 110)),
  (8, yX8_readName, cX8_readName, 6, none, 2, (5, 104), (1, 9), (5, 103), (9, 9), (0, 0)),
  (8, yX8_readEnd, cX8_readEnd, 3, none, 2, (5, 117), (1, 9), (5, 116), (9, 11), (0, 0)),
  (8, yX8_readBlock, cX8_readBlock, 4, none, 0, (5, 91), (1, 9), (5, 90), (9, 6), (0, 0)),
  (8, yX8_text, cX8_text, 1, (some .int), 0, (5, 71), (1, 9), (5, 69), (5, 70), (0, 0)),
  (8, yX8_fault, cX8_fault, 1, (some .int), 0, (5, 161), (1, 9), (5, 159), (5, 160), (0, 0)),
  (8, yX8_copies, cX8_copies, 4, none, 2, (5, 157), (1, 9), (5, 156), (10, 5), (0, 0)),
  (8, yX8_comesOn, cX8_comesOn, 6, (some .int), 2, (5, 133), (1, 9), (5, 132), (9, 15), (0, 0)),
  (8, yX8_shapesOn, cX8_shapesOn, 5, none, 1, (5, 129), (1, 9), (5, 128), (9, 14), (0, 0)),
  (8, yX8_isOver, cX8_isOver, 3, (some .boolean), 2, (5, 149), (1, 9), (5, 148), (10, 3), (0, 0)),
  (8, yX8_isSeenOn, cX8_isSeenOn, 6, (some .boolean), 3, (5, 153), (1, 9), (5, 152), (10, 4), (0, 0)),
  (8, yX8_isSeenAtEnd, cX8_isSeenAtEnd, 4, (some .boolean), 3, (5, 145), (1, 9), (5, 144), (10, 2), (0, 0)),
  (8, yX8_isSeenAsOperand, cX8_isSeenAsOperand, 5, (some .boolean), 4, (5, 141), (1, 9), (5, 140), (10, 1), (0, 0)),
  (8, yX8_isBlockWhole, cX8_isBlockWhole, 4, (some .boolean), 1, (5, 125), (1, 9), (5, 124), (9, 13), (0, 0)),
  (8, yX8_isNameWhole, cX8_isNameWhole, 5, (some .boolean), 1, (5, 137), (1, 9), (5, 136), (10, 0), (0, 0)),
  (8, yX8_isWhole, cX8_isWhole, 4, (some .boolean), 0, (5, 121), (1, 9), (5, 120), (9, 12), (0, 0)),
  (8, yX8_isBlock, cX8_isBlock, 2, (some .boolean), 1, (5, 181), (1, 9), (5, 180), (10, 8), (0, 0)),
  (8, yX8_isName, cX8_isName, 2, (some .boolean), 1, (5, 197), (1, 9), (5, 196), (10, 10), (0, 0))]
def ab_M4 : List ab_MI := [(8, yX8_ofKind, cX8_ofKind, 4, (some .int), 1, (5, 169), (1, 9), (5, 168), (10, 6), (0, 0)),
  (8, yX8_uses, cX8_uses, 6, (some .int), 2, (5, 173), (1, 9), (5, 172), (10, 7), (0, 0)),
  (8, yX8_rule, cX8_rule, 2, (some .int), 1, (5, 165), (1, 9), (5, 163), (5, 164), (0, 0)),
  (8, yX8_nearest, cX8_nearest, 3, (some .int), 1, (5, 185), (1, 9), (5, 184), (10, 9), (0, 0)),
  (8, yX8_block, cX8_block, 3, (some .int), 2, (5, 177), (1, 9), (5, 175), (5, 176), (0, 0)),
  (8, yX8_pred, cX8_pred, 3, (some .int), 2, (5, 189), (1, 9), (5, 187), (5, 188), (0, 0)),
  (8, yX8_name, cX8_name, 4, (some .int), 2, (5, 193), (1, 9), (5, 191), (5, 192), (0, 0)),
  (8, yX8_isOperand, cX8_isOperand, 3, (some .boolean), 2, (5, 205), (1, 9), (5, 204), (10, 11), (0, 0)),
  (8, yX8_operand, cX8_operand, 3, (some .int), 2, (5, 201), (1, 9), (5, 199), (5, 200), (0, 0)),
  (8, yX8_seen, cX8_seen, 3, (some .int), 2, (5, 209), (1, 9), (5, 207), (5, 208), (0, 0)),
  (8, yX8_brings, cX8_brings, 5, (some .long), 3, (5, 238), (1, 9), (0, 0), (0, 0), (5, 237)),
  (8, yX8_valueOf, cX8_valueOf, 9, (some .long), 2, (5, 234), (1, 9), (5, 233), (11, 0), (0, 0)),
  (8, yX8_compares, cX8_compares, 4, none, 3, (5, 230), (1, 9), (5, 229), (10, 15), (0, 0)),
  (8, yX8_goesThrough, cX8_goesThrough, 11, none, 5, (5, 226), (1, 9), (5, 225), (10, 14), (0, 0)),
  (8, yX8_goes, cX8_goes, 9, (some .long), 3, (5, 221), (1, 9), (5, 220), (10, 13), (0, 0)),
  (8, yX8_runsNow, cX8_runsNow, 3, (some .long), 0, (5, 217), (1, 9), (5, 216), (10, 12), (0, 0)),
  (8, yX8_run, cX8_run, 5, (some .long), 4, (5, 213), (1, 9), (5, 211), (5, 212), (0, 0)),
  (8, yX8_value, cX8_value, 2, (some .long), 1, (6, 2), (1, 9), (6, 0), (6, 1), (0, 0)),
  (8, yX8_went, cX8_went, 2, (some .int), 1, (6, 7), (1, 9), (6, 5), (6, 6), (0, 0)),
  (8, yX8_isAlikeFirst, cX8_isAlikeFirst, 4, (some .boolean), 2, (6, 20), (1, 9), (6, 19), (11, 2), (0, 0)),
  (8, yX8_isAlikeNext, cX8_isAlikeNext, 7, (some .boolean), 2, (6, 28), (1, 9), (6, 27), (11, 4), (0, 0)),
  (8, yX8_splits, cX8_splits, 4, (some .boolean), 0, (6, 24), (1, 9), (6, 23), (11, 3), (0, 0)),
  (8, yX8_rounds, cX8_rounds, 4, (some .int), 1, (6, 16), (1, 9), (6, 15), (11, 1), (0, 0)),
  (8, yX8_classes, cX8_classes, 8, (some .int), 1, (6, 12), (1, 9), (6, 10), (6, 11), (0, 0)),
  (8, yX8_part, cX8_part, 2, (some .int), 1, (6, 32), (1, 9), (6, 30), (6, 31), (0, 0)),
  (8, yX8_partAt, cX8_partAt, 3, (some .int), 2, (6, 36), (1, 9), (6, 34), (6, 35), (0, 0)),
  (8, yX8_isAmong, cX8_isAmong, 3, (some .boolean), 2, (6, 50), (1, 9), (6, 49), (11, 6), (0, 0)),
  (8, yX8_leaderOf, cX8_leaderOf, 5, (some .int), 1, (6, 46), (1, 9), (6, 45), (11, 5), (0, 0)),
  (8, yX8_leader, cX8_leader, 2, (some .int), 1, (6, 42), (1, 9), (6, 40), (6, 41), (0, 0)),
  (8, yX8_isSameForm, cX8_isSameForm, 3, (some .boolean), 2, (6, 90), (1, 9), (6, 89), (11, 15), (0, 0)),
  (8, yX8_isNumber, cX8_isNumber, 4, (some .boolean), 2, (6, 98), (1, 9), (6, 97), (12, 1), (0, 0)),
  (8, yX8_becomes, cX8_becomes, 5, none, 3, (6, 62), (1, 9), (6, 61), (11, 8), (0, 0)),
  (8, yX8_becomesAs, cX8_becomesAs, 3, none, 2, (6, 74), (1, 9), (6, 73), (11, 11), (0, 0)),
  (8, yX8_operandOf, cX8_operandOf, 3, (some .int), 2, (6, 70), (1, 9), (6, 69), (11, 10), (0, 0)),
  (8, yX8_isBehindAll, cX8_isBehindAll, 4, (some .boolean), 1, (6, 86), (1, 9), (6, 85), (11, 14), (0, 0)),
  (8, yX8_isOfOne, cX8_isOfOne, 4, (some .boolean), 1, (6, 102), (1, 9), (6, 101), (12, 2), (0, 0)),
  (8, yX8_isFormAs, cX8_isFormAs, 6, (some .boolean), 2, (6, 82), (1, 9), (6, 81), (11, 13), (0, 0)),
  (8, yX8_becomesFirst, cX8_becomesFirst, 3, none, 1, (6, 78), (1, 9), (6, 77), (11, 12), (0, 0)),
  (8, yX8_formsNegative, cX8_formsNegative, 4, none, 1, (6, 66), (1, 9), (6, 65), (11, 9), (0, 0)),
  (8, yX8_formsPair, cX8_formsPair, 5, none, 1, (6, 94), (1, 9), (6, 93), (12, 0), (0, 0))]
def ab_M5 : List ab_MI := [(8, yX8_forms, cX8_forms, 3, none, 0, (6, 58), (1, 9), (6, 57), (11, 7), (0, 0)),
  (8, yX8_form, cX8_form, 2, (some .int), 1, (6, 54), (1, 9), (6, 52), (6, 53), (0, 0)),
  (8, yX8_number, cX8_number, 2, (some .long), 1, (6, 106), (1, 9), (6, 104), (6, 105), (0, 0)),
  (8, yX8_replace, cX8_replace, 4, (some .int), 0, (6, 110), (1, 9), (6, 108), (6, 109), (0, 0)),
  (8, yX8_sweep, cX8_sweep, 5, (some .int), 0, (6, 114), (1, 9), (6, 112), (6, 113), (0, 0)),
  (8, yX8_set, cX8_set, 5, (some .int), 3, (6, 118), (1, 9), (6, 116), (6, 117), (0, 0)),
  (8, yX8_alter, cX8_alter, 4, (some .int), 2, (6, 122), (1, 9), (6, 120), (6, 121), (0, 0)),
  (8, yX8_agree, cX8_agree, 10, (some .int), 5, (6, 128), (1, 9), (6, 126), (6, 127), (0, 0)),
  (8, yX8_keep, cX8_keep, 3, (some .int), 1, (6, 134), (1, 9), (6, 132), (6, 133), (0, 0)),
  (8, yX8_back, cX8_back, 2, (some .int), 1, (6, 138), (1, 9), (6, 136), (6, 137), (0, 0)),
  (8, yX8_sheet, cX8_sheet, 5, (some .int), 3, (6, 142), (1, 9), (6, 140), (6, 141), (0, 0)),
  (8, yX8_lay, cX8_lay, 4, (some .int), 3, (6, 146), (1, 9), (6, 144), (6, 145), (0, 0)),
  (8, yX8_foundAt, cX8_foundAt, 5, (some .int), 3, (6, 155), (1, 9), (6, 154), (12, 3), (0, 0)),
  (8, yX8_read, cX8_read, 10, (some .int), 4, (6, 150), (1, 9), (6, 148), (6, 149), (0, 0)),
  (8, yX8_torn, cX8_torn, 1, (some .int), 0, (6, 159), (1, 9), (6, 157), (6, 158), (0, 0)),
  (8, yX8_count, cX8_count, 4, (some .int), 1, (6, 163), (1, 9), (6, 161), (6, 162), (0, 0)),
  (9, yJ6_bitCount_0f7a4, cJ6_bitCount_0f7a4, 1, (some .int), 1, (3, 103), (1, 15), (0, 0), (0, 0), (3, 102))]
def ab_M : List ab_MI := ab_M0 ++ (ab_M1 ++ (ab_M2 ++ (ab_M3 ++ (ab_M4 ++ (ab_M5)))))
/-- own, index, class, field, place of its word -/
def ab_flL : List (Nat × Nat × Nat × Nat × ab_P) := [(6, 9, 6, 0, 1, 37), (4, 146, 6, 0, 1, 38), (6, 15, 6, 1, 1, 39), (7, 76, 6, 1, 1, 40), (4, 136, 6, 1, 1, 41), (3, 60, 3, 0, 1, 56), (7, 103, 3, 0, 1, 57), (0, 18, 3, 1, 1, 58), (1, 15, 3, 1, 1, 59), (3, 64, 3, 1, 1, 60), (7, 97, 3, 1, 1, 61), (3, 9, 3, 2, 1, 62), (7, 120, 3, 2, 1, 63), (2, 76, 3, 2, 1, 64), (3, 15, 3, 3, 1, 65), (7, 117, 3, 3, 1, 66), (2, 79, 3, 3, 1, 67), (3, 18, 3, 4, 1, 68), (2, 58, 3, 4, 1, 69), (7, 123, 3, 4, 1, 70), (3, 21, 3, 5, 1, 71), (2, 68, 3, 5, 1, 72), (7, 126, 3, 5, 1, 73), (3, 24, 3, 6, 1, 74), (2, 73, 3, 6, 1, 75), (7, 129, 3, 6, 1, 76), (3, 27, 3, 7, 1, 77), (2, 61, 3, 7, 1, 78), (7, 132, 3, 7, 1, 79), (3, 30, 3, 8, 1, 80), (7, 135, 3, 8, 1, 81), (3, 35, 3, 9, 1, 82), (7, 144, 3, 9, 1, 83), (3, 38, 3, 10, 1, 84), (7, 138, 3, 10, 1, 85), (3, 41, 3, 11, 1, 86), (0, 39, 3, 11, 1, 87), (1, 33, 3, 11, 1, 88), (2, 90, 3, 11, 1, 89), (7, 151, 3, 11, 1, 90), (3, 44, 3, 12, 1, 91), (0, 42, 3, 12, 1, 92), (7, 154, 3, 12, 1, 93), (1, 77, 3, 12, 1, 94), (3, 47, 3, 13, 1, 95), (0, 61, 3, 13, 1, 96), (1, 70, 3, 13, 1, 97), (7, 157, 3, 13, 1, 98), (3, 50, 3, 14, 1, 99), (0, 49, 3, 14, 1, 100), (1, 37, 3, 14, 1, 101), (7, 163, 3, 14, 1, 102), (2, 104, 3, 14, 1, 103), (3, 53, 3, 15, 1, 104), (1, 54, 3, 15, 1, 105), (0, 68, 3, 15, 1, 106), (2, 100, 3, 15, 1, 107), (7, 173, 3, 15, 1, 108), (3, 56, 3, 16, 1, 109), (4, 12, 4, 0, 1, 147), (7, 66, 4, 0, 1, 148), (4, 21, 4, 1, 1, 149), (7, 87, 4, 1, 1, 150), (4, 41, 4, 2, 1, 151), (7, 100, 4, 2, 1, 152), (4, 63, 4, 3, 1, 153), (7, 84, 4, 3, 1, 154), (4, 25, 4, 4, 1, 155), (4, 29, 4, 5, 1, 156), (4, 32, 4, 6, 1, 157), (4, 45, 4, 7, 1, 158), (4, 123, 4, 8, 1, 159), (4, 101, 4, 9, 1, 160), (4, 48, 4, 10, 1, 161), (4, 78, 4, 11, 1, 162), (2, 9, 2, 0, 1, 194), (7, 293, 2, 0, 1, 195), (2, 15, 2, 1, 1, 196), (7, 193, 2, 1, 1, 197), (2, 29, 2, 2, 1, 198), (7, 189, 2, 2, 1, 199), (2, 39, 2, 3, 1, 200), (7, 205, 2, 3, 1, 201), (2, 45, 2, 4, 1, 202), (7, 199, 2, 4, 1, 203), (2, 42, 2, 5, 1, 204), (7, 202, 2, 5, 1, 205), (2, 34, 2, 6, 1, 206), (7, 262, 2, 6, 1, 207), (2, 19, 2, 7, 1, 208), (2, 22, 2, 8, 1, 209), (2, 26, 2, 9, 1, 210), (0, 9, 0, 0, 1, 239), (7, 226, 0, 0, 2, 0), (0, 28, 0, 1, 2, 1), (7, 216, 0, 1, 2, 2), (0, 15, 0, 2, 2, 3), (1, 9, 1, 0, 2, 17), (5, 9, 5, 0, 2, 28), (7, 288, 5, 0, 2, 29), (7, 275, 5, 1, 2, 30), (5, 15, 5, 2, 2, 31), (5, 20, 5, 3, 2, 32), (7, 10, 7, 0, 2, 45), (7, 19, 7, 1, 2, 46), (7, 23, 7, 2, 2, 47), (7, 29, 7, 3, 2, 48), (7, 36, 7, 4, 2, 49), (7, 43, 7, 5, 2, 50), (7, 49, 7, 6, 2, 51), (7, 53, 7, 7, 2, 52), (7, 57, 7, 8, 2, 53), (7, 62, 7, 9, 2, 54), (8, 7, 8, 0, 4, 187), (8, 13, 8, 1, 4, 188), (8, 75, 8, 2, 4, 189), (8, 150, 8, 3, 4, 190), (8, 79, 8, 4, 4, 191), (8, 85, 8, 5, 4, 192), (8, 91, 8, 6, 4, 193), (8, 82, 8, 7, 4, 194), (8, 88, 8, 8, 4, 195), (8, 98, 8, 9, 4, 196), (8, 16, 8, 10, 4, 197), (8, 19, 8, 11, 4, 198), (8, 22, 8, 12, 4, 199), (8, 25, 8, 13, 4, 200), (8, 28, 8, 14, 4, 201), (8, 31, 8, 15, 4, 202), (8, 35, 8, 16, 4, 203), (8, 38, 8, 17, 4, 204), (8, 159, 8, 18, 4, 205), (8, 243, 8, 19, 4, 206), (8, 246, 8, 20, 4, 207), (8, 249, 8, 21, 4, 208), (8, 229, 8, 22, 4, 209), (8, 218, 8, 23, 4, 210), (8, 232, 8, 24, 4, 211), (8, 213, 8, 25, 4, 212), (8, 41, 8, 26, 4, 213), (8, 44, 8, 27, 4, 214), (8, 47, 8, 28, 4, 215), (8, 50, 8, 29, 4, 216), (8, 53, 8, 30, 4, 217), (8, 56, 8, 31, 4, 218), (8, 60, 8, 32, 4, 219), (8, 63, 8, 33, 4, 220), (8, 66, 8, 34, 4, 221), (8, 330, 8, 35, 4, 222)]
/-- own, index, method, kind of call (0 virtual, 1 static, 2 static of a nest mate, 3 constructor, 4 constructor of a nest mate, 5 of Object, 6 arraycopy, 7 max, 8 length, 9 charAt), place of its word -/
def ab_mlL : List (Nat × Nat × Nat × Nat × ab_P) := [(10, 9, 95, 3, 1, 19), (7, 1, 0, 5, 1, 22), (7, 9, 69, 4, 0, 0), (4, 3, 0, 5, 1, 30), (4, 11, 92, 4, 0, 1), (6, 3, 0, 5, 1, 36), (4, 20, 34, 4, 0, 2), (3, 3, 0, 5, 1, 53), (7, 18, 23, 4, 0, 3), (2, 3, 0, 5, 1, 193), (7, 28, 0, 4, 0, 4), (0, 3, 0, 5, 1, 238), (7, 35, 11, 4, 0, 5), (1, 3, 0, 5, 2, 16), (7, 42, 86, 3, 2, 23), (5, 3, 0, 5, 2, 26), (7, 61, 34, 4, 0, 6), (10, 13, 96, 0, 2, 76), (7, 70, 93, 0, 2, 80), (10, 18, 97, 0, 2, 84), (10, 22, 98, 0, 2, 88), (7, 80, 70, 0, 2, 92), (4, 35, 80, 0, 2, 96), (4, 126, 82, 0, 2, 100), (4, 139, 94, 0, 2, 104), (4, 130, 81, 0, 2, 108), (4, 143, 84, 0, 2, 112), (4, 152, 85, 0, 2, 117), (4, 178, 0, 8, 2, 121), (4, 183, 0, 9, 2, 131), (4, 133, 83, 0, 2, 180), (4, 38, 35, 0, 2, 184), (4, 52, 72, 0, 2, 188), (4, 66, 73, 0, 2, 192), (4, 59, 71, 0, 2, 196), (4, 75, 36, 0, 2, 200), (4, 81, 78, 0, 2, 204), (4, 69, 74, 0, 2, 208), (4, 84, 37, 0, 2, 212), (4, 87, 75, 0, 2, 216), (4, 93, 129, 2, 0, 7), (4, 97, 79, 0, 2, 223), (4, 104, 38, 0, 2, 227), (4, 90, 76, 0, 2, 231), (4, 108, 39, 0, 2, 235), (4, 72, 77, 0, 2, 239), (4, 111, 40, 0, 3, 3), (4, 114, 41, 0, 3, 7), (4, 117, 42, 0, 3, 11), (4, 120, 43, 0, 3, 15), (4, 56, 58, 0, 3, 19), (3, 81, 49, 0, 3, 23), (3, 85, 50, 0, 3, 27), (3, 77, 130, 2, 0, 8), (3, 99, 52, 0, 3, 34), (3, 102, 51, 0, 3, 38), (3, 105, 59, 0, 3, 42), (3, 73, 46, 0, 3, 46), (3, 108, 57, 0, 3, 50), (3, 93, 55, 0, 3, 54), (3, 96, 56, 0, 3, 58), (7, 90, 44, 0, 3, 62), (3, 67, 0, 6, 3, 66), (7, 94, 24, 0, 3, 69), (10, 27, 99, 0, 3, 73), (10, 31, 100, 0, 3, 77), (7, 106, 61, 0, 3, 81), (7, 110, 62, 0, 3, 85), (10, 35, 101, 0, 3, 89), (7, 114, 45, 0, 3, 93), (7, 141, 53, 0, 3, 97), (3, 88, 216, 1, 3, 101), (10, 40, 102, 0, 3, 107), (10, 44, 103, 0, 3, 111), (7, 148, 46, 0, 3, 115), (7, 160, 48, 0, 3, 116), (7, 166, 63, 0, 3, 120), (10, 48, 104, 0, 3, 124), (7, 169, 47, 0, 3, 128), (10, 52, 105, 0, 3, 132), (7, 176, 55, 0, 3, 136), (10, 56, 106, 0, 3, 137), (7, 179, 25, 0, 3, 141), (7, 183, 28, 0, 3, 145), (2, 48, 45, 0, 3, 150), (2, 54, 30, 0, 3, 151), (2, 82, 54, 0, 3, 155), (2, 86, 31, 0, 3, 159), (2, 97, 33, 0, 3, 163), (2, 93, 32, 0, 3, 167), (2, 107, 131, 2, 0, 9), (2, 64, 29, 0, 3, 176), (10, 61, 107, 0, 3, 180), (10, 66, 108, 0, 3, 186), (10, 70, 109, 0, 3, 190), (7, 208, 1, 0, 3, 194), (0, 24, 2, 0, 3, 198), (0, 35, 3, 0, 3, 202), (0, 45, 48, 0, 3, 206), (0, 31, 4, 0, 3, 207), (0, 52, 5, 0, 3, 211), (0, 64, 6, 0, 3, 215), (0, 55, 0, 6, 3, 219), (7, 212, 7, 0, 3, 220), (7, 219, 8, 0, 3, 224), (0, 72, 9, 0, 3, 228), (0, 75, 0, 7, 3, 232), (10, 74, 110, 0, 3, 235), (7, 222, 111, 0, 3, 239), (10, 78, 111, 0, 4, 3), (10, 82, 112, 0, 4, 4), (7, 227, 10, 0, 4, 8), (0, 81, 55, 0, 4, 12), (10, 86, 113, 0, 4, 13), (7, 231, 12, 0, 4, 17), (1, 23, 16, 0, 4, 22), (1, 42, 20, 0, 4, 27), (1, 62, 13, 0, 4, 31), (1, 27, 15, 1, 4, 35), (1, 73, 21, 0, 4, 38), (1, 66, 60, 0, 4, 42), (1, 80, 22, 0, 4, 46), (1, 45, 17, 0, 4, 50), (1, 58, 131, 2, 0, 10), (1, 48, 19, 0, 4, 55), (1, 51, 18, 0, 4, 59), (7, 234, 13, 0, 4, 63), (10, 90, 114, 0, 4, 64), (7, 237, 14, 0, 4, 68), (10, 94, 115, 0, 4, 73), (7, 241, 65, 0, 4, 77), (10, 98, 116, 0, 4, 81), (7, 245, 66, 0, 4, 85), (3, 112, 67, 0, 4, 89), (3, 115, 68, 0, 4, 93), (10, 102, 117, 0, 4, 97), (7, 248, 57, 0, 4, 101), (10, 107, 118, 0, 4, 102), (7, 252, 129, 1, 4, 106), (10, 111, 119, 0, 4, 107), (7, 255, 27, 0, 4, 111), (7, 259, 26, 0, 4, 115), (10, 116, 120, 0, 4, 120), (10, 120, 121, 0, 4, 124), (10, 124, 122, 0, 4, 128), (7, 265, 87, 0, 4, 132), (10, 128, 123, 0, 4, 136), (7, 269, 88, 0, 4, 140), (7, 272, 90, 0, 4, 144), (10, 132, 124, 0, 4, 148), (7, 278, 89, 0, 4, 152), (5, 23, 88, 0, 4, 156), (7, 282, 128, 0, 4, 157), (7, 296, 91, 0, 4, 161), (10, 137, 125, 0, 4, 165), (10, 141, 126, 0, 4, 169), (7, 285, 127, 0, 4, 173), (7, 290, 64, 0, 4, 177), (10, 12, 132, 3, 4, 183), (8, 1, 0, 5, 4, 186), (10, 17, 134, 0, 5, 56), (8, 71, 133, 1, 5, 61), (10, 21, 135, 0, 5, 64), (10, 26, 146, 0, 5, 68), (8, 113, 139, 0, 5, 72), (8, 94, 136, 0, 5, 76), (8, 109, 137, 0, 5, 84), (8, 143, 145, 0, 5, 88), (8, 126, 138, 0, 5, 92), (8, 123, 141, 0, 5, 96), (8, 132, 143, 0, 5, 101), (8, 116, 140, 0, 5, 105), (8, 120, 142, 1, 5, 109), (8, 140, 144, 0, 5, 114), (8, 146, 157, 0, 5, 118), (8, 181, 155, 0, 5, 122), (8, 153, 150, 0, 5, 126), (8, 163, 149, 0, 5, 130), (8, 185, 156, 0, 5, 134), (8, 177, 154, 0, 5, 138), (8, 170, 153, 0, 5, 142), (8, 166, 151, 0, 5, 146), (8, 174, 152, 0, 5, 150), (8, 156, 148, 0, 5, 154), (10, 30, 147, 0, 5, 158), (10, 34, 162, 0, 5, 162), (8, 188, 160, 0, 5, 166), (8, 191, 161, 0, 5, 170), (10, 39, 164, 0, 5, 174), (8, 195, 158, 0, 5, 178), (8, 198, 163, 0, 5, 182), (10, 43, 165, 0, 5, 186), (10, 47, 166, 0, 5, 190), (8, 201, 159, 0, 5, 194), (10, 51, 168, 0, 5, 198), (8, 204, 167, 0, 5, 202), (10, 55, 169, 0, 5, 206), (10, 60, 176, 0, 5, 210), (8, 252, 175, 0, 5, 214), (8, 239, 174, 0, 5, 218), (8, 235, 173, 0, 5, 223), (8, 221, 172, 0, 5, 227), (8, 225, 171, 0, 5, 231), (8, 209, 170, 1, 5, 236), (10, 65, 177, 0, 5, 239), (10, 69, 178, 0, 6, 4), (10, 73, 183, 0, 6, 9), (8, 269, 182, 0, 6, 13), (8, 263, 179, 0, 6, 17), (8, 266, 181, 0, 6, 21), (8, 260, 180, 0, 6, 25), (10, 77, 184, 0, 6, 29), (8, 272, 185, 0, 6, 33), (10, 81, 185, 0, 6, 38), (10, 85, 188, 0, 6, 39), (8, 280, 187, 0, 6, 43), (8, 277, 186, 0, 6, 47), (10, 89, 201, 0, 6, 51), (8, 318, 200, 0, 6, 55), (8, 283, 191, 0, 6, 59), (8, 309, 198, 0, 6, 63), (8, 287, 193, 0, 6, 67), (8, 299, 192, 0, 6, 71), (8, 302, 197, 0, 6, 75), (8, 296, 196, 0, 6, 79), (8, 290, 194, 0, 6, 83), (8, 293, 189, 0, 6, 87), (8, 312, 199, 0, 6, 91), (8, 305, 190, 0, 6, 95), (8, 315, 195, 0, 6, 99), (10, 93, 202, 0, 6, 103), (10, 97, 203, 0, 6, 107), (10, 101, 204, 0, 6, 111), (10, 106, 205, 0, 6, 115), (10, 110, 206, 0, 6, 119), (10, 115, 207, 0, 6, 125), (10, 119, 208, 0, 6, 131), (10, 123, 209, 0, 6, 135), (10, 127, 210, 0, 6, 139), (10, 131, 211, 0, 6, 143), (10, 136, 213, 0, 6, 147), (8, 333, 212, 0, 6, 152), (10, 140, 214, 0, 6, 156), (10, 144, 215, 0, 6, 160)]
def ab_kIL : List (Nat × Nat × Int32 × ab_P) := [(9, 265, 1431655765, 3, 104), (9, 266, 858993459, 3, 105), (9, 267, 252645135, 3, 106), (2, 33, 1103515245, 4, 119), (8, 327, 1103515245, 6, 130)]
def ab_kLL : List (Nat × Nat × Int64 × ab_P) := [(2, 37, 2000000000000, 3, 149), (2, 71, 1000000000000, 3, 171), (7, 299, 1000000000000, 3, 175), (7, 187, -1, 3, 184), (7, 197, 2000000000000, 3, 185), (1, 21, 3000000000000, 4, 21), (1, 40, 1000000000000, 4, 26), (1, 31, 2000000000000, 4, 72), (8, 69, 127, 5, 60), (8, 101, 97, 5, 80), (8, 103, 122, 5, 81), (8, 105, 48, 5, 82), (8, 107, 57, 5, 83), (8, 130, 6, 5, 100), (8, 136, 9, 5, 112), (8, 138, 11, 5, 113), (8, 216, 2000000000000, 5, 222), (8, 207, 1000000000000, 5, 235), (8, 256, -1, 6, 3), (8, 258, 2, 6, 8), (8, 275, 100, 6, 37), (8, 321, 99, 6, 123), (8, 323, 3, 6, 124), (8, 325, 50, 6, 129), (8, 328, 20, 6, 151)]
/-- own, index, class, places of its words: classLink, instantiable, initialized -/
def ab_nwL : List (Nat × Nat × Nat × ab_P × ab_P × ab_P) := [(10, 7, 7, (1, 17), (1, 18), (1, 1)), (7, 7, 4, (1, 25), (1, 26), (1, 2)), (4, 9, 6, (1, 31), (1, 32), (1, 3)), (4, 18, 3, (1, 48), (1, 49), (1, 4)), (7, 16, 2, (1, 188), (1, 189), (1, 5)), (7, 26, 0, (1, 233), (1, 234), (1, 6)), (7, 33, 1, (2, 11), (2, 12), (1, 7)), (7, 40, 5, (2, 21), (2, 22), (1, 8)), (7, 47, 3, (2, 42), (1, 49), (1, 4)), (10, 10, 8, (4, 181), (4, 182), (1, 9))]
def ab_NW : List Cond := [.methodLinkNest RX7 9 yX4_init RX7, .methodLinkNest RX4 11 yX6_init RX7, .methodLinkNest RX4 20 yX3_init RX7, .methodLinkNest RX7 18 yX2_init RX7, .methodLinkNest RX7 28 yX0_init RX7, .methodLinkNest RX7 35 yX1_init RX7, .methodLinkNest RX7 61 yX3_init RX7, .methodLinkNest RX4 93 yX7_highestFigure RX7, .methodLinkNest RX3 77 yX7_hasBit RX7, .methodLinkNest RX2 107 yX7_bring RX7, .methodLinkNest RX1 58 yX7_bring RX7]
def ab_fl (own i : Nat) : Option (Nat × Nat) := (ab_flL.find? (fun e => e.1 == own && e.2.1 == i)).map (fun e => (e.2.2.1, e.2.2.2.1))
def ab_ml (own i : Nat) : Option (Nat × Nat) := (ab_mlL.find? (fun e => e.1 == own && e.2.1 == i)).map (fun e => (e.2.2.1, e.2.2.2.1))
def ab_kI (own i : Nat) : Option Int32 := (ab_kIL.find? (fun e => e.1 == own && e.2.1 == i)).map (fun e => e.2.2.1)
def ab_kL (own i : Nat) : Option Int64 := (ab_kLL.find? (fun e => e.1 == own && e.2.1 == i)).map (fun e => e.2.2.1)
def ab_nw (own i : Nat) : Option Nat := (ab_nwL.find? (fun e => e.1 == own && e.2.1 == i)).map (fun e => e.2.2.1)
/-- may this value stand in a field of this type -/
def ab_fit : FieldType → Value → Bool
  | .int, .int _ => true
  | .boolean, .int x => decide (x = 0) || decide (x = 1)
  | .long, .long _ => true
  | .object _, .ref _ => true
  | .array _, .ref _ => true
  | _, _ => false
def ab_setv (h : ab_H) (o k : Nat) : Value → ab_H
  | .int x => ab_seti h o k x
  | .long x => ab_setl h o k x
  | .ref r => ab_setr h o k r
  | _ => h
def ab_cmp : Jvm.ClassFile.Cond → Int32 → Int32 → Bool
  | .eq, x, y => decide (x = y)
  | .ne, x, y => decide (¬ x = y)
  | .lt, x, y => decide (x < y)
  | .ge, x, y => decide (y ≤ x)
  | .gt, x, y => decide (y < x)
  | .le, x, y => decide (x ≤ y)
def ab_in (i : Int32) (n : Nat) : Bool := decide (0 ≤ i) && decide (i.toNatClampNeg < n)
def ab_cat (S : List Value) : Nat := (S.map (fun v => v.category)).sum
def ab_go (pc : Nat) (off : Int) (L : ab_L) (S : List Value) (h : ab_H) : ab_R := if 0 ≤ (pc : Int) + off then some (.inl (((pc : Int) + off).toNat, L, S, h)) else none
def ab_ref (h : ab_H) (o kd : Nat) : Bool := decide (o < ab_nx h) && decide (ab_kd h o = kd)
def ab_ret (ret : Option FieldType) : List Value → ab_H → ab_R
  | [.int v], h => match ret with | some ty => if narrow ty (.int v) = .int v then some (.inr (some (.int v), h)) else none | none => none
  | _, _ => none
def ab_call (call : Nat → List Value → ab_H → Option (Option Value × ab_H)) (mi : Nat) (args : List Value) (pc : Nat) (L : ab_L) (rest : List Value) (h : ab_H) : ab_R :=
  if ab_cat rest ≤ 8 then match call mi args h with
    | some (rv, h') => if (ab_nx h' = ab_nx h ∧ ab_sl h' = ab_sl h) ∨ (ab_nx h ≤ ab_nx h' ∧ ab_sl h ≤ ab_sl h' ∧ (L.all (fun v => (v.map (ab_ok (ab_nx h))).getD true) && rest.all (ab_ok (ab_nx h))) = true) then some (.inl (pc + 3, L, rv.toList ++ rest, h')) else none
    | none => none
  else none
def ab_own (mi : Nat) : Nat := ((ab_M[mi]?).map (fun q => q.1)).getD 99
def ab_np (mi : Nat) : Nat := ((ab_M[mi]?).map (fun q => q.2.2.2.2.2.1)).getD 0
def ab_rt (mi : Nat) : Option FieldType := ((ab_M[mi]?).map (fun q => q.2.2.2.2.1)).getD none
def ab_mxl (mi : Nat) : Nat := ((ab_M[mi]?).map (fun q => q.2.2.2.1)).getD 0
def ab_inv (call : Nat → List Value → ab_H → Option (Option Value × ab_H)) (own i : Nat) (virt : Bool) (pc : Nat) (L : ab_L) (S : List Value) (h : ab_H) : ab_R := match ab_ml own i with
  | some (mi, kd) =>
    if virt then
      if kd = 0 then match S.drop (ab_np mi) with
        | .ref b :: rest => if ab_ref h b (ab_own mi) && decide (ab_own mi < 9) && (S.take (ab_np mi)).all (ab_ok (ab_nx h)) then ab_call call mi (.ref b :: (S.take (ab_np mi)).reverse) pc L rest h else none
        | _ => none
      else none
    else if kd = 1 ∨ kd = 2 then (if ab_np mi ≤ S.length ∧ (S.take (ab_np mi)).all (ab_ok (ab_nx h)) = true then ab_call call mi (S.take (ab_np mi)).reverse pc L (S.drop (ab_np mi)) h else none)
    else if kd = 6 then match S with
      | .int n :: .int dp :: .ref a1 :: .int sp :: .ref a0 :: rest =>
        if ab_ref h a0 10 && ab_ref h a1 10 && decide (0 ≤ sp) && decide (0 ≤ dp) && decide (0 ≤ n) && decide (sp.toNatClampNeg + n.toNatClampNeg ≤ ab_ln h a0) && decide (dp.toNatClampNeg + n.toNatClampNeg ≤ ab_ln h a1) && decide (ab_cat rest ≤ 8) then
          some (.inl (pc + 3, L, rest, (h.1, (fun o => if o = a1 then va_cpy (h.2.1 a0) (h.2.1 a1) sp.toNatClampNeg dp.toNatClampNeg n.toNatClampNeg else h.2.1 o), h.2.2)))
        else none
      | _ => none
    else if kd = 7 then match S with
      | .int y :: .int x :: rest => if ab_cat rest ≤ 8 then some (.inl (pc + 3, L, .int (if x < y then y else x) :: rest, h)) else none
      | _ => none
    else none
  | none => none
def ab_spc (call : Nat → List Value → ab_H → Option (Option Value × ab_H)) (own i : Nat) (pc : Nat) (L : ab_L) (S : List Value) (h : ab_H) : ab_R := match ab_ml own i with
  | some (mi, kd) =>
    if kd = 5 then match S with
      | .ref _ :: rest => if ab_cat rest ≤ 8 then some (.inl (pc + 3, L, rest, h)) else none
      | _ => none
    else if kd = 3 ∨ kd = 4 then match S with
      | .ref b :: rest => if ab_np mi = 0 ∧ ab_ref h b (ab_own mi) = true ∧ ab_own mi < 9 then ab_call call mi [.ref b] pc L rest h else none
      | _ => none
    else none
  | none => none
def ab_step (call : Nat → List Value → ab_H → Option (Option Value × ab_H)) (own : Nat) (ini : Bool) (ret : Option FieldType) (scr : Option (List Int32)) (ins : Instr) (len pc : Nat) (L : ab_L) (S : List Value) (h : ab_H) : ab_R := match ins with
  | .iconst n => some (.inl (pc + 1, L, .int (Int32.ofInt n) :: S, h))
  | .bipush n => some (.inl (pc + 2, L, .int (Int8.ofInt n).toInt32 :: S, h))
  | .sipush n => some (.inl (pc + 3, L, .int (Int16.ofInt n).toInt32 :: S, h))
  | .lconst n => some (.inl (pc + 1, L, .long (Int64.ofNat n) :: S, h))
  | .ldc i => match ab_kI own i with | some v => some (.inl (pc + 2, L, .int v :: S, h)) | none => none
  | .ldc_w i => match ab_kI own i with | some v => some (.inl (pc + 3, L, .int v :: S, h)) | none => none
  | .ldc2_w i => match ab_kL own i with | some v => some (.inl (pc + 3, L, .long v :: S, h)) | none => none
  | .iload_n k => match L.getD k.val none with | some (.int x) => some (.inl (pc + 1, L, .int x :: S, h)) | _ => none
  | .iload k => match L.getD k none with | some (.int x) => some (.inl (pc + 2, L, .int x :: S, h)) | _ => none
  | .lload_n k => match L.getD k.val none with | some (.long x) => some (.inl (pc + 1, L, .long x :: S, h)) | _ => none
  | .lload k => match L.getD k none with | some (.long x) => some (.inl (pc + 2, L, .long x :: S, h)) | _ => none
  | .aload_n k => match L.getD k.val none with | some (.ref x) => some (.inl (pc + 1, L, .ref x :: S, h)) | _ => none
  | .istore_n k => match S with | .int x :: S => if k.val < L.length then some (.inl (pc + 1, ab_put k.val (.int x) L, S, h)) else none | _ => none
  | .istore k => match S with | .int x :: S => if k < L.length then some (.inl (pc + 2, ab_put k (.int x) L, S, h)) else none | _ => none
  | .lstore_n k => match S with | .long x :: S => if k.val + 1 < L.length then some (.inl (pc + 1, ab_put k.val (.long x) L, S, h)) else none | _ => none
  | .lstore k => match S with | .long x :: S => if k + 1 < L.length then some (.inl (pc + 2, ab_put k (.long x) L, S, h)) else none | _ => none
  | .astore_n k => match S with | .ref x :: S => if k.val < L.length then some (.inl (pc + 1, ab_put k.val (.ref x) L, S, h)) else none | _ => none
  | .iinc k n => match L.getD k none with | some (.int x) => if k < L.length then some (.inl (pc + 3, ab_put k (.int (x + Int32.ofInt n)) L, S, h)) else none | _ => none
  | .iadd => match S with | .int y :: .int x :: S => some (.inl (pc + 1, L, .int (x + y) :: S, h)) | _ => none
  | .isub => match S with | .int y :: .int x :: S => some (.inl (pc + 1, L, .int (x - y) :: S, h)) | _ => none
  | .imul => match S with | .int y :: .int x :: S => some (.inl (pc + 1, L, .int (x * y) :: S, h)) | _ => none
  | .irem => match S with | .int y :: .int x :: S => if y = 0 then none else some (.inl (pc + 1, L, .int (x - x / y * y) :: S, h)) | _ => none
  | .iand => match S with | .int y :: .int x :: S => some (.inl (pc + 1, L, .int (x &&& y) :: S, h)) | _ => none
  | .ior => match S with | .int y :: .int x :: S => some (.inl (pc + 1, L, .int (x ||| y) :: S, h)) | _ => none
  | .ixor => match S with | .int y :: .int x :: S => some (.inl (pc + 1, L, .int (x ^^^ y) :: S, h)) | _ => none
  | .ishl => match S with | .int y :: .int x :: S => some (.inl (pc + 1, L, .int (x <<< (y &&& 31)) :: S, h)) | _ => none
  | .ishr => match S with | .int y :: .int x :: S => some (.inl (pc + 1, L, .int (x >>> (y &&& 31)) :: S, h)) | _ => none
  | .iushr => match S with | .int y :: .int x :: S => some (.inl (pc + 1, L, .int (x.toUInt32 >>> (y.toUInt32 &&& Int32.toUInt32 31)).toInt32 :: S, h)) | _ => none
  | .ladd => match S with | .long y :: .long x :: S => some (.inl (pc + 1, L, .long (x + y) :: S, h)) | _ => none
  | .lsub => match S with | .long y :: .long x :: S => some (.inl (pc + 1, L, .long (x - y) :: S, h)) | _ => none
  | .lmul => match S with | .long y :: .long x :: S => some (.inl (pc + 1, L, .long (x * y) :: S, h)) | _ => none
  | .ldiv => match S with | .long y :: .long x :: S => if y = 0 then none else some (.inl (pc + 1, L, .long (x / y) :: S, h)) | _ => none
  | .lneg => match S with | .long x :: S => some (.inl (pc + 1, L, .long (-x) :: S, h)) | _ => none
  | .lcmp => match S with | .long y :: .long x :: S => some (.inl (pc + 1, L, .int (lg_cmp x y) :: S, h)) | _ => none
  | .i2l => match S with | .int x :: S => some (.inl (pc + 1, L, .long x.toInt64 :: S, h)) | _ => none
  | .l2i => match S with | .long x :: S => some (.inl (pc + 1, L, .int x.toInt32 :: S, h)) | _ => none
  | .i2b => match S with | .int x :: S => some (.inl (pc + 1, L, .int x.toInt8.toInt32 :: S, h)) | _ => none
  | .i2s => match S with | .int x :: S => some (.inl (pc + 1, L, .int x.toInt16.toInt32 :: S, h)) | _ => none
  | .dup => match S with | v :: S => if v.category = 1 then some (.inl (pc + 1, L, v :: v :: S, h)) else none | _ => none
  | .dup2 => match S with | v :: w :: S => if v.category = 1 ∧ w.category = 1 then some (.inl (pc + 1, L, v :: w :: v :: w :: S, h)) else none | _ => none
  | .pop => match S with | v :: S => if v.category = 1 then some (.inl (pc + 1, L, S, h)) else none | _ => none
  | .pop2 => match S with | v :: S => if v.category = 2 then some (.inl (pc + 1, L, S, h)) else none | _ => none
  | .if_icmp c off => match S with | .int y :: .int x :: S => if ab_cmp c x y then ab_go pc off L S h else some (.inl (pc + 3, L, S, h)) | _ => none
  | .ifCond c off => match S with | .int x :: S => if ab_cmp c x 0 then ab_go pc off L S h else some (.inl (pc + 3, L, S, h)) | _ => none
  | .goto off => ab_go pc off L S h
  | .tableswitch dflt lo hi offs => match S with | .int x :: S => if x.toInt < lo ∨ hi < x.toInt then ab_go pc dflt L S h else match offs[(x.toInt - lo).toNat]? with | some off => ab_go pc off L S h | none => none
    | _ => none
  | .lookupswitch dflt ps => match S with | .int x :: S => if (ps.toList.zip (ps.toList.drop 1)).all (fun (a, next) => a.1 < next.1) = true then ab_go pc (Op.lookupswitch.offset ps.toList dflt x.toInt) L S h else none
    | _ => none
  | .getfield i => match ab_fl own i, S with | some (ci, k), .ref o :: S => if ab_ref h o ci && decide (k < ab_N ci) && decide (ci < 9) then some (.inl (pc + 3, L, ab_gv h o k (ab_ty ci k) :: S, h)) else none | _, _ => none
  | .putfield i => match ab_fl own i, S with | some (ci, k), v :: .ref o :: S => if ab_ref h o ci && decide (k < ab_N ci) && decide (ci < 9) && ab_fit (ab_ty ci k) v && ab_ok (ab_nx h) v && (!(ab_T ci k).2.2.2 || (ini && decide (own = ci))) then some (.inl (pc + 3, L, S, ab_setv h o k v)) else none | _, _ => none
  | .iaload => match S with
    | .int i :: .ref o :: S => if o = 2000 then (match scr with | some xs => if ab_in i xs.length then some (.inl (pc + 1, L, .int (xs.getD i.toNatClampNeg 0) :: S, h)) else none | none => none)
      else if ab_ref h o 10 && ab_in i (ab_ln h o) then some (.inl (pc + 1, L, .int (h.2.1 o i.toNatClampNeg) :: S, h)) else none
    | _ => none
  | .baload => match S with | .int i :: .ref o :: S => if (ab_ref h o 12 || ab_ref h o 13) && ab_in i (ab_ln h o) then some (.inl (pc + 1, L, .int (h.2.1 o i.toNatClampNeg) :: S, h)) else none | _ => none
  | .laload => match S with | .int i :: .ref o :: S => if ab_ref h o 11 && ab_in i (ab_ln h o) then some (.inl (pc + 1, L, .long (h.2.2 o i.toNatClampNeg) :: S, h)) else none | _ => none
  | .aaload => match S with | .int i :: .ref o :: S => if (ab_ref h o 14 || ab_ref h o 15) && ab_in i (ab_ln h o) then some (.inl (pc + 1, L, va_rf (ab_rf h o i.toNatClampNeg) :: S, h)) else none | _ => none
  | .iastore => match S with | .int x :: .int i :: .ref o :: S => if ab_ref h o 10 && ab_in i (ab_ln h o) then some (.inl (pc + 1, L, S, ab_seti h o i.toNatClampNeg x)) else none | _ => none
  | .bastore => match S with | .int x :: .int i :: .ref o :: S => if (ab_ref h o 12 || ab_ref h o 13) && ab_in i (ab_ln h o) then some (.inl (pc + 1, L, S, ab_seti h o i.toNatClampNeg (if ab_kd h o = 12 then vp_nar .boolean x else vp_nar .byte x))) else none | _ => none
  | .lastore => match S with | .long x :: .int i :: .ref o :: S => if ab_ref h o 11 && ab_in i (ab_ln h o) then some (.inl (pc + 1, L, S, ab_setl h o i.toNatClampNeg x)) else none | _ => none
  | .aastore => match S with | .ref r :: .int i :: .ref o :: S => if ab_ref h o 15 && ab_ref h r 3 && ab_in i (ab_ln h o) then some (.inl (pc + 1, L, S, ab_setr h o i.toNatClampNeg r)) else none | _ => none
  | .arraylength => match S with | .ref o :: S => (if o = 2000 then (match scr with | some xs => some (.inl (pc + 1, L, .int xs.length.toInt32 :: S, h)) | none => none) else none) | _ => none
  | .new i => match ab_nw own i with | some ci => if ci < 9 ∧ ab_nx h < 1000 ∧ (L.all (fun v => (v.map (ab_ok (ab_nx h))).getD true) && S.all (ab_ok (ab_nx h))) = true then some (.inl (pc + 3, L, .ref (ab_nx h) :: S, ab_new h ci (ab_N ci) (List.replicate (ab_N ci) none))) else none | none => none
  | .newarray ty => match S with | .int n :: S => (if 0 ≤ n ∧ n.toNatClampNeg ≤ 1000 ∧ ab_nx h < 1000 ∧ (L.all (fun v => (v.map (ab_ok (ab_nx h))).getD true) && S.all (ab_ok (ab_nx h))) = true then (match ty with
      | .int => some (.inl (pc + 2, L, .ref (ab_nx h) :: S, ab_new h 10 n.toNatClampNeg []))
      | .long => some (.inl (pc + 2, L, .ref (ab_nx h) :: S, ab_new h 11 n.toNatClampNeg []))
      | .boolean => some (.inl (pc + 2, L, .ref (ab_nx h) :: S, ab_new h 12 n.toNatClampNeg []))
      | .byte => some (.inl (pc + 2, L, .ref (ab_nx h) :: S, ab_new h 13 n.toNatClampNeg []))
      | _ => none) else none) | _ => none
  | .anewarray i => match ab_nw own i, S with
    | some ci, .int n :: S => if ci = 3 ∧ 0 ≤ n ∧ n.toNatClampNeg ≤ 1000 ∧ ab_nx h < 1000 ∧ (L.all (fun v => (v.map (ab_ok (ab_nx h))).getD true) && S.all (ab_ok (ab_nx h))) = true then some (.inl (pc + 3, L, .ref (ab_nx h) :: S, ab_new h 15 n.toNatClampNeg (List.replicate n.toNatClampNeg none))) else none
    | _, _ => none
  | .multianewarray i d => match S with
    | .int k :: .int n :: S => if d = 2 ∧ ((own = 3 ∧ i = 33) ∨ (own = 5 ∧ i = 18)) ∧ 0 ≤ n ∧ 0 ≤ k ∧ n.toNatClampNeg ≤ 1000 ∧ k.toNatClampNeg ≤ 1000 ∧ ab_nx h + n.toNatClampNeg < 1000 ∧ (L.all (fun v => (v.map (ab_ok (ab_nx h))).getD true) && S.all (ab_ok (ab_nx h))) = true then some (.inl (pc + 4, L, .ref (ab_nx h) :: S, ab_mna h n.toNatClampNeg k.toNatClampNeg)) else none
    | _ => none
  | .ireturn => ab_ret ret S h
  | .lreturn => match S with | [.long v] => if ret = some .long then some (.inr (some (.long v), h)) else none | _ => none
  | .return_ => match S with | [] => if ret = none then some (.inr (none, h)) else none | _ => none
  | .invokevirtual i => ab_inv call own i true pc L S h
  | .invokestatic i => ab_inv call own i false pc L S h
  | .invokespecial i => ab_spc call own i pc L S h
  | _ => none
def ab_loop (call : Nat → List Value → ab_H → Option (Option Value × ab_H)) (code : Nat → Option (Instr × Nat)) (own : Nat) (ini : Bool) (ret : Option FieldType) (scr : Option (List Int32)) : Nat → ab_F → Option (Option Value × ab_H)
  | 0, _ => none
  | n + 1, (pc, L, S, h) => match code pc with
    | some (ins, len) => match ab_step call own ini ret scr ins len pc L S h with
      | some (.inl st) => ab_loop call code own ini ret scr n st
      | some (.inr r) => some r
      | none => none
    | none => none
