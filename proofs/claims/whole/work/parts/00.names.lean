/-- a private method of a class that the tables say can be made, by its rows of tables_1 -/
def lw_okq (q : MethodName × Nat) : Prop := (q.1.cls ≠ "java/lang/invoke/MethodHandle" ∧ q.1.cls ≠ "java/lang/invoke/VarHandle") ∧ Cond.instantiable q.1.cls q.2 ∈ tables_1 ∧ Cond.privateMethod q.1 ∈ tables_1 ∧ Cond.instanceMethod q.1 ∈ tables_1
theorem lw_p0 : lw_okq (⟨"ValueNumberer$Reader", "scan", "()V"⟩, 12) := ⟨⟨by decide +kernel, by decide +kernel⟩, List.mem_of_getElem? (i := 26) (by decide +kernel), List.mem_of_getElem? (i := 337) (by decide +kernel), List.mem_of_getElem? (i := 338) (by decide +kernel)⟩
theorem lw_p1 : lw_okq (⟨"ValueNumberer$Reader", "skip", "(II)V"⟩, 12) := ⟨⟨by decide +kernel, by decide +kernel⟩, List.mem_of_getElem? (i := 26) (by decide +kernel), List.mem_of_getElem? (i := 341) (by decide +kernel), List.mem_of_getElem? (i := 342) (by decide +kernel)⟩
theorem lw_p2 : lw_okq (⟨"ValueNumberer$Reader", "scanToken", "(I)I"⟩, 12) := ⟨⟨by decide +kernel, by decide +kernel⟩, List.mem_of_getElem? (i := 26) (by decide +kernel), List.mem_of_getElem? (i := 349) (by decide +kernel), List.mem_of_getElem? (i := 350) (by decide +kernel)⟩
theorem lw_p3 : lw_okq (⟨"ValueNumberer$Reader", "wordFrom", "(I)I"⟩, 12) := ⟨⟨by decide +kernel, by decide +kernel⟩, List.mem_of_getElem? (i := 26) (by decide +kernel), List.mem_of_getElem? (i := 353) (by decide +kernel), List.mem_of_getElem? (i := 354) (by decide +kernel)⟩
theorem lw_p4 : lw_okq (⟨"ValueNumberer$Reader", "isWord", "(ILjava/lang/String;)Z"⟩, 12) := ⟨⟨by decide +kernel, by decide +kernel⟩, List.mem_of_getElem? (i := 26) (by decide +kernel), List.mem_of_getElem? (i := 358) (by decide +kernel), List.mem_of_getElem? (i := 359) (by decide +kernel)⟩
theorem lw_p5 : lw_okq (⟨"ValueNumberer$Reader", "figureFrom", "(I)I"⟩, 12) := ⟨⟨by decide +kernel, by decide +kernel⟩, List.mem_of_getElem? (i := 26) (by decide +kernel), List.mem_of_getElem? (i := 421) (by decide +kernel), List.mem_of_getElem? (i := 422) (by decide +kernel)⟩
theorem lw_p6 : lw_okq (⟨"ValueNumberer$Reader", "readLine", "()Z"⟩, 12) := ⟨⟨by decide +kernel, by decide +kernel⟩, List.mem_of_getElem? (i := 26) (by decide +kernel), List.mem_of_getElem? (i := 429) (by decide +kernel), List.mem_of_getElem? (i := 430) (by decide +kernel)⟩
theorem lw_p7 : lw_okq (⟨"ValueNumberer$Reader", "readHead", "()Z"⟩, 12) := ⟨⟨by decide +kernel, by decide +kernel⟩, List.mem_of_getElem? (i := 26) (by decide +kernel), List.mem_of_getElem? (i := 433) (by decide +kernel), List.mem_of_getElem? (i := 434) (by decide +kernel)⟩
theorem lw_p8 : lw_okq (⟨"ValueNumberer$Reader", "refuse", "(I)Z"⟩, 12) := ⟨⟨by decide +kernel, by decide +kernel⟩, List.mem_of_getElem? (i := 26) (by decide +kernel), List.mem_of_getElem? (i := 437) (by decide +kernel), List.mem_of_getElem? (i := 438) (by decide +kernel)⟩
theorem lw_p9 : lw_okq (⟨"ValueNumberer$Reader", "takeSemicolon", "()Z"⟩, 12) := ⟨⟨by decide +kernel, by decide +kernel⟩, List.mem_of_getElem? (i := 26) (by decide +kernel), List.mem_of_getElem? (i := 445) (by decide +kernel), List.mem_of_getElem? (i := 446) (by decide +kernel)⟩
theorem lw_p10 : lw_okq (⟨"ValueNumberer$Reader", "readName", "()Z"⟩, 12) := ⟨⟨by decide +kernel, by decide +kernel⟩, List.mem_of_getElem? (i := 26) (by decide +kernel), List.mem_of_getElem? (i := 449) (by decide +kernel), List.mem_of_getElem? (i := 450) (by decide +kernel)⟩
theorem lw_p11 : lw_okq (⟨"ValueNumberer$Reader", "readFigure", "(I)Z"⟩, 12) := ⟨⟨by decide +kernel, by decide +kernel⟩, List.mem_of_getElem? (i := 26) (by decide +kernel), List.mem_of_getElem? (i := 457) (by decide +kernel), List.mem_of_getElem? (i := 458) (by decide +kernel)⟩
theorem lw_p12 : lw_okq (⟨"ValueNumberer$Reader", "takeNumber", "(II)Z"⟩, 12) := ⟨⟨by decide +kernel, by decide +kernel⟩, List.mem_of_getElem? (i := 26) (by decide +kernel), List.mem_of_getElem? (i := 464) (by decide +kernel), List.mem_of_getElem? (i := 465) (by decide +kernel)⟩
theorem lw_p13 : lw_okq (⟨"ValueNumberer$Reader", "readOperands", "(I)Z"⟩, 12) := ⟨⟨by decide +kernel, by decide +kernel⟩, List.mem_of_getElem? (i := 26) (by decide +kernel), List.mem_of_getElem? (i := 472) (by decide +kernel), List.mem_of_getElem? (i := 473) (by decide +kernel)⟩
theorem lw_p14 : lw_okq (⟨"ValueNumberer$Reader", "readEnd", "()Z"⟩, 12) := ⟨⟨by decide +kernel, by decide +kernel⟩, List.mem_of_getElem? (i := 26) (by decide +kernel), List.mem_of_getElem? (i := 480) (by decide +kernel), List.mem_of_getElem? (i := 481) (by decide +kernel)⟩
theorem lw_p15 : lw_okq (⟨"ValueNumberer$Machine", "pass", "(LValueNumberer$Program;II)V"⟩, 10) := ⟨⟨by decide +kernel, by decide +kernel⟩, List.mem_of_getElem? (i := 189) (by decide +kernel), List.mem_of_getElem? (i := 632) (by decide +kernel), List.mem_of_getElem? (i := 633) (by decide +kernel)⟩
def lw_privs_1 : List (MethodName × Nat) := [(⟨"ValueNumberer$Reader", "scan", "()V"⟩, 12), (⟨"ValueNumberer$Reader", "skip", "(II)V"⟩, 12), (⟨"ValueNumberer$Reader", "scanToken", "(I)I"⟩, 12), (⟨"ValueNumberer$Reader", "wordFrom", "(I)I"⟩, 12), (⟨"ValueNumberer$Reader", "isWord", "(ILjava/lang/String;)Z"⟩, 12), (⟨"ValueNumberer$Reader", "figureFrom", "(I)I"⟩, 12), (⟨"ValueNumberer$Reader", "readLine", "()Z"⟩, 12), (⟨"ValueNumberer$Reader", "readHead", "()Z"⟩, 12), (⟨"ValueNumberer$Reader", "refuse", "(I)Z"⟩, 12), (⟨"ValueNumberer$Reader", "takeSemicolon", "()Z"⟩, 12), (⟨"ValueNumberer$Reader", "readName", "()Z"⟩, 12), (⟨"ValueNumberer$Reader", "readFigure", "(I)Z"⟩, 12), (⟨"ValueNumberer$Reader", "takeNumber", "(II)Z"⟩, 12), (⟨"ValueNumberer$Reader", "readOperands", "(I)Z"⟩, 12), (⟨"ValueNumberer$Reader", "readEnd", "()Z"⟩, 12), (⟨"ValueNumberer$Machine", "pass", "(LValueNumberer$Program;II)V"⟩, 10)]
theorem lw_r1 : ∀ q ∈ lw_privs_1, lw_okq q := List.forall_mem_cons.mpr ⟨lw_p0, List.forall_mem_cons.mpr ⟨lw_p1, List.forall_mem_cons.mpr ⟨lw_p2, List.forall_mem_cons.mpr ⟨lw_p3, List.forall_mem_cons.mpr ⟨lw_p4, List.forall_mem_cons.mpr ⟨lw_p5, List.forall_mem_cons.mpr ⟨lw_p6, List.forall_mem_cons.mpr ⟨lw_p7, List.forall_mem_cons.mpr ⟨lw_p8, List.forall_mem_cons.mpr ⟨lw_p9, List.forall_mem_cons.mpr ⟨lw_p10, List.forall_mem_cons.mpr ⟨lw_p11, List.forall_mem_cons.mpr ⟨lw_p12, List.forall_mem_cons.mpr ⟨lw_p13, List.forall_mem_cons.mpr ⟨lw_p14, List.forall_mem_cons.mpr ⟨lw_p15, fun _ h => absurd h List.not_mem_nil⟩⟩⟩⟩⟩⟩⟩⟩⟩⟩⟩⟩⟩⟩⟩⟩
theorem lw_p16 : lw_okq (⟨"ValueNumberer$Machine", "passPhis", "(LValueNumberer$Program;III)V"⟩, 10) := ⟨⟨by decide +kernel, by decide +kernel⟩, List.mem_of_getElem? (i := 189) (by decide +kernel), List.mem_of_getElem? (i := 640) (by decide +kernel), List.mem_of_getElem? (i := 641) (by decide +kernel)⟩
theorem lw_p17 : lw_okq (⟨"ValueNumberer$Machine", "compare", "()V"⟩, 10) := ⟨⟨by decide +kernel, by decide +kernel⟩, List.mem_of_getElem? (i := 189) (by decide +kernel), List.mem_of_getElem? (i := 644) (by decide +kernel), List.mem_of_getElem? (i := 645) (by decide +kernel)⟩
theorem lw_p18 : lw_okq (⟨"ValueNumberer$Machine", "bringOf", "(LValueNumberer$Program;I)J"⟩, 10) := ⟨⟨by decide +kernel, by decide +kernel⟩, List.mem_of_getElem? (i := 189) (by decide +kernel), List.mem_of_getElem? (i := 648) (by decide +kernel), List.mem_of_getElem? (i := 649) (by decide +kernel)⟩
theorem lw_p19 : lw_okq (⟨"ValueNumberer$Machine", "nextBlock", "(LValueNumberer$Program;I)I"⟩, 10) := ⟨⟨by decide +kernel, by decide +kernel⟩, List.mem_of_getElem? (i := 189) (by decide +kernel), List.mem_of_getElem? (i := 657) (by decide +kernel), List.mem_of_getElem? (i := 658) (by decide +kernel)⟩
theorem lw_p20 : lw_okq (⟨"ValueNumberer$Classes", "firstAtStart", "(LValueNumberer$Program;I)I"⟩, 3) := ⟨⟨by decide +kernel, by decide +kernel⟩, List.mem_of_getElem? (i := 234) (by decide +kernel), List.mem_of_getElem? (i := 679) (by decide +kernel), List.mem_of_getElem? (i := 680) (by decide +kernel)⟩
theorem lw_p21 : lw_okq (⟨"ValueNumberer$Classes", "isHopeful", "(LValueNumberer$Program;II)Z"⟩, 3) := ⟨⟨by decide +kernel, by decide +kernel⟩, List.mem_of_getElem? (i := 234) (by decide +kernel), List.mem_of_getElem? (i := 683) (by decide +kernel), List.mem_of_getElem? (i := 684) (by decide +kernel)⟩
theorem lw_p22 : lw_okq (⟨"ValueNumberer$Classes", "splitOnce", "(LValueNumberer$Program;)Z"⟩, 3) := ⟨⟨by decide +kernel, by decide +kernel⟩, List.mem_of_getElem? (i := 234) (by decide +kernel), List.mem_of_getElem? (i := 688) (by decide +kernel), List.mem_of_getElem? (i := 689) (by decide +kernel)⟩
theorem lw_p23 : lw_okq (⟨"ValueNumberer$Classes", "areOperandsAlike", "(LValueNumberer$Program;II)Z"⟩, 3) := ⟨⟨by decide +kernel, by decide +kernel⟩, List.mem_of_getElem? (i := 234) (by decide +kernel), List.mem_of_getElem? (i := 692) (by decide +kernel), List.mem_of_getElem? (i := 693) (by decide +kernel)⟩
theorem lw_p24 : lw_okq (⟨"ValueNumberer$Classes", "isAlike", "(LValueNumberer$Program;IIII)Z"⟩, 3) := ⟨⟨by decide +kernel, by decide +kernel⟩, List.mem_of_getElem? (i := 234) (by decide +kernel), List.mem_of_getElem? (i := 696) (by decide +kernel), List.mem_of_getElem? (i := 697) (by decide +kernel)⟩
theorem lw_p25 : lw_okq (⟨"ValueNumberer$Classes", "sizeOf", "(LValueNumberer$Program;I)I"⟩, 3) := ⟨⟨by decide +kernel, by decide +kernel⟩, List.mem_of_getElem? (i := 234) (by decide +kernel), List.mem_of_getElem? (i := 709) (by decide +kernel), List.mem_of_getElem? (i := 710) (by decide +kernel)⟩
theorem lw_p26 : lw_okq (⟨"ValueNumberer$Forms", "codeOf", "(LValueNumberer$Program;I)J"⟩, 1) := ⟨⟨by decide +kernel, by decide +kernel⟩, List.mem_of_getElem? (i := 252) (by decide +kernel), List.mem_of_getElem? (i := 743) (by decide +kernel), List.mem_of_getElem? (i := 744) (by decide +kernel)⟩
theorem lw_p27 : lw_okq (⟨"ValueNumberer$Forms", "earlier", "(LValueNumberer$Program;I)J"⟩, 1) := ⟨⟨by decide +kernel, by decide +kernel⟩, List.mem_of_getElem? (i := 252) (by decide +kernel), List.mem_of_getElem? (i := 748) (by decide +kernel), List.mem_of_getElem? (i := 749) (by decide +kernel)⟩
theorem lw_p28 : lw_okq (⟨"ValueNumberer$Forms", "isSame", "(LValueNumberer$Program;II)Z"⟩, 1) := ⟨⟨by decide +kernel, by decide +kernel⟩, List.mem_of_getElem? (i := 252) (by decide +kernel), List.mem_of_getElem? (i := 759) (by decide +kernel), List.mem_of_getElem? (i := 760) (by decide +kernel)⟩
theorem lw_p29 : lw_okq (⟨"ValueNumberer$Forms", "isSameOperand", "(LValueNumberer$Program;IIII)Z"⟩, 1) := ⟨⟨by decide +kernel, by decide +kernel⟩, List.mem_of_getElem? (i := 252) (by decide +kernel), List.mem_of_getElem? (i := 767) (by decide +kernel), List.mem_of_getElem? (i := 768) (by decide +kernel)⟩
theorem lw_p30 : lw_okq (⟨"ValueNumberer$Forms", "codeOfNeg", "(LValueNumberer$Program;I)J"⟩, 1) := ⟨⟨by decide +kernel, by decide +kernel⟩, List.mem_of_getElem? (i := 252) (by decide +kernel), List.mem_of_getElem? (i := 771) (by decide +kernel), List.mem_of_getElem? (i := 772) (by decide +kernel)⟩
theorem lw_p31 : lw_okq (⟨"ValueNumberer$Forms", "codeOfPhi", "(LValueNumberer$Program;I)J"⟩, 1) := ⟨⟨by decide +kernel, by decide +kernel⟩, List.mem_of_getElem? (i := 252) (by decide +kernel), List.mem_of_getElem? (i := 776) (by decide +kernel), List.mem_of_getElem? (i := 777) (by decide +kernel)⟩
def lw_privs_2 : List (MethodName × Nat) := [(⟨"ValueNumberer$Machine", "passPhis", "(LValueNumberer$Program;III)V"⟩, 10), (⟨"ValueNumberer$Machine", "compare", "()V"⟩, 10), (⟨"ValueNumberer$Machine", "bringOf", "(LValueNumberer$Program;I)J"⟩, 10), (⟨"ValueNumberer$Machine", "nextBlock", "(LValueNumberer$Program;I)I"⟩, 10), (⟨"ValueNumberer$Classes", "firstAtStart", "(LValueNumberer$Program;I)I"⟩, 3), (⟨"ValueNumberer$Classes", "isHopeful", "(LValueNumberer$Program;II)Z"⟩, 3), (⟨"ValueNumberer$Classes", "splitOnce", "(LValueNumberer$Program;)Z"⟩, 3), (⟨"ValueNumberer$Classes", "areOperandsAlike", "(LValueNumberer$Program;II)Z"⟩, 3), (⟨"ValueNumberer$Classes", "isAlike", "(LValueNumberer$Program;IIII)Z"⟩, 3), (⟨"ValueNumberer$Classes", "sizeOf", "(LValueNumberer$Program;I)I"⟩, 3), (⟨"ValueNumberer$Forms", "codeOf", "(LValueNumberer$Program;I)J"⟩, 1), (⟨"ValueNumberer$Forms", "earlier", "(LValueNumberer$Program;I)J"⟩, 1), (⟨"ValueNumberer$Forms", "isSame", "(LValueNumberer$Program;II)Z"⟩, 1), (⟨"ValueNumberer$Forms", "isSameOperand", "(LValueNumberer$Program;IIII)Z"⟩, 1), (⟨"ValueNumberer$Forms", "codeOfNeg", "(LValueNumberer$Program;I)J"⟩, 1), (⟨"ValueNumberer$Forms", "codeOfPhi", "(LValueNumberer$Program;I)J"⟩, 1)]
theorem lw_r2 : ∀ q ∈ lw_privs_2, lw_okq q := List.forall_mem_cons.mpr ⟨lw_p16, List.forall_mem_cons.mpr ⟨lw_p17, List.forall_mem_cons.mpr ⟨lw_p18, List.forall_mem_cons.mpr ⟨lw_p19, List.forall_mem_cons.mpr ⟨lw_p20, List.forall_mem_cons.mpr ⟨lw_p21, List.forall_mem_cons.mpr ⟨lw_p22, List.forall_mem_cons.mpr ⟨lw_p23, List.forall_mem_cons.mpr ⟨lw_p24, List.forall_mem_cons.mpr ⟨lw_p25, List.forall_mem_cons.mpr ⟨lw_p26, List.forall_mem_cons.mpr ⟨lw_p27, List.forall_mem_cons.mpr ⟨lw_p28, List.forall_mem_cons.mpr ⟨lw_p29, List.forall_mem_cons.mpr ⟨lw_p30, List.forall_mem_cons.mpr ⟨lw_p31, fun _ h => absurd h List.not_mem_nil⟩⟩⟩⟩⟩⟩⟩⟩⟩⟩⟩⟩⟩⟩⟩⟩
theorem lw_p32 : lw_okq (⟨"ValueNumberer$Forms", "codeOfPair", "(LValueNumberer$Program;I)J"⟩, 1) := ⟨⟨by decide +kernel, by decide +kernel⟩, List.mem_of_getElem? (i := 252) (by decide +kernel), List.mem_of_getElem? (i := 780) (by decide +kernel), List.mem_of_getElem? (i := 781) (by decide +kernel)⟩
theorem lw_p33 : lw_okq (⟨"ValueNumberer", "giveCells", "(II)V"⟩, 10) := ⟨⟨by decide +kernel, by decide +kernel⟩, List.mem_of_getElem? (i := 18) (by decide +kernel), List.mem_of_getElem? (i := 878) (by decide +kernel), List.mem_of_getElem? (i := 879) (by decide +kernel)⟩
theorem lw_p34 : lw_okq (⟨"ValueNumberer", "countImages", "()I"⟩, 10) := ⟨⟨by decide +kernel, by decide +kernel⟩, List.mem_of_getElem? (i := 18) (by decide +kernel), List.mem_of_getElem? (i := 894) (by decide +kernel), List.mem_of_getElem? (i := 895) (by decide +kernel)⟩
theorem lw_p35 : lw_okq (⟨"ValueNumbererModel", "readsOn", "()V"⟩, 36) := ⟨⟨by decide +kernel, by decide +kernel⟩, List.mem_of_getElem? (i := 902) (by decide +kernel), List.mem_of_getElem? (i := 1033) (by decide +kernel), List.mem_of_getElem? (i := 1034) (by decide +kernel)⟩
theorem lw_p36 : lw_okq (⟨"ValueNumbererModel", "byteAt", "(I)I"⟩, 36) := ⟨⟨by decide +kernel, by decide +kernel⟩, List.mem_of_getElem? (i := 902) (by decide +kernel), List.mem_of_getElem? (i := 1037) (by decide +kernel), List.mem_of_getElem? (i := 1038) (by decide +kernel)⟩
theorem lw_p37 : lw_okq (⟨"ValueNumbererModel", "fails", "(I)V"⟩, 36) := ⟨⟨by decide +kernel, by decide +kernel⟩, List.mem_of_getElem? (i := 902) (by decide +kernel), List.mem_of_getElem? (i := 1045) (by decide +kernel), List.mem_of_getElem? (i := 1046) (by decide +kernel)⟩
theorem lw_p38 : lw_okq (⟨"ValueNumbererModel", "readBlock", "()V"⟩, 36) := ⟨⟨by decide +kernel, by decide +kernel⟩, List.mem_of_getElem? (i := 902) (by decide +kernel), List.mem_of_getElem? (i := 1049) (by decide +kernel), List.mem_of_getElem? (i := 1050) (by decide +kernel)⟩
theorem lw_p39 : lw_okq (⟨"ValueNumbererModel", "nameHere", "()I"⟩, 36) := ⟨⟨by decide +kernel, by decide +kernel⟩, List.mem_of_getElem? (i := 902) (by decide +kernel), List.mem_of_getElem? (i := 1053) (by decide +kernel), List.mem_of_getElem? (i := 1054) (by decide +kernel)⟩
theorem lw_p40 : lw_okq (⟨"ValueNumbererModel", "endsLine", "()V"⟩, 36) := ⟨⟨by decide +kernel, by decide +kernel⟩, List.mem_of_getElem? (i := 902) (by decide +kernel), List.mem_of_getElem? (i := 1057) (by decide +kernel), List.mem_of_getElem? (i := 1058) (by decide +kernel)⟩
theorem lw_p41 : lw_okq (⟨"ValueNumbererModel", "readName", "(II)V"⟩, 36) := ⟨⟨by decide +kernel, by decide +kernel⟩, List.mem_of_getElem? (i := 902) (by decide +kernel), List.mem_of_getElem? (i := 1062) (by decide +kernel), List.mem_of_getElem? (i := 1063) (by decide +kernel)⟩
theorem lw_p42 : lw_okq (⟨"ValueNumbererModel", "numberRead", "(II)I"⟩, 36) := ⟨⟨by decide +kernel, by decide +kernel⟩, List.mem_of_getElem? (i := 902) (by decide +kernel), List.mem_of_getElem? (i := 1066) (by decide +kernel), List.mem_of_getElem? (i := 1067) (by decide +kernel)⟩
theorem lw_p43 : lw_okq (⟨"ValueNumbererModel", "readEnd", "(II)V"⟩, 36) := ⟨⟨by decide +kernel, by decide +kernel⟩, List.mem_of_getElem? (i := 902) (by decide +kernel), List.mem_of_getElem? (i := 1075) (by decide +kernel), List.mem_of_getElem? (i := 1076) (by decide +kernel)⟩
theorem lw_p44 : lw_okq (⟨"ValueNumbererModel", "isWhole", "()Z"⟩, 36) := ⟨⟨by decide +kernel, by decide +kernel⟩, List.mem_of_getElem? (i := 902) (by decide +kernel), List.mem_of_getElem? (i := 1079) (by decide +kernel), List.mem_of_getElem? (i := 1080) (by decide +kernel)⟩
theorem lw_p45 : lw_okq (⟨"ValueNumbererModel", "isBlockWhole", "(I)Z"⟩, 36) := ⟨⟨by decide +kernel, by decide +kernel⟩, List.mem_of_getElem? (i := 902) (by decide +kernel), List.mem_of_getElem? (i := 1083) (by decide +kernel), List.mem_of_getElem? (i := 1084) (by decide +kernel)⟩
theorem lw_p46 : lw_okq (⟨"ValueNumbererModel", "shapesOn", "(I)V"⟩, 36) := ⟨⟨by decide +kernel, by decide +kernel⟩, List.mem_of_getElem? (i := 902) (by decide +kernel), List.mem_of_getElem? (i := 1087) (by decide +kernel), List.mem_of_getElem? (i := 1088) (by decide +kernel)⟩
theorem lw_p47 : lw_okq (⟨"ValueNumbererModel", "comesOn", "(II)I"⟩, 36) := ⟨⟨by decide +kernel, by decide +kernel⟩, List.mem_of_getElem? (i := 902) (by decide +kernel), List.mem_of_getElem? (i := 1091) (by decide +kernel), List.mem_of_getElem? (i := 1092) (by decide +kernel)⟩
def lw_privs_3 : List (MethodName × Nat) := [(⟨"ValueNumberer$Forms", "codeOfPair", "(LValueNumberer$Program;I)J"⟩, 1), (⟨"ValueNumberer", "giveCells", "(II)V"⟩, 10), (⟨"ValueNumberer", "countImages", "()I"⟩, 10), (⟨"ValueNumbererModel", "readsOn", "()V"⟩, 36), (⟨"ValueNumbererModel", "byteAt", "(I)I"⟩, 36), (⟨"ValueNumbererModel", "fails", "(I)V"⟩, 36), (⟨"ValueNumbererModel", "readBlock", "()V"⟩, 36), (⟨"ValueNumbererModel", "nameHere", "()I"⟩, 36), (⟨"ValueNumbererModel", "endsLine", "()V"⟩, 36), (⟨"ValueNumbererModel", "readName", "(II)V"⟩, 36), (⟨"ValueNumbererModel", "numberRead", "(II)I"⟩, 36), (⟨"ValueNumbererModel", "readEnd", "(II)V"⟩, 36), (⟨"ValueNumbererModel", "isWhole", "()Z"⟩, 36), (⟨"ValueNumbererModel", "isBlockWhole", "(I)Z"⟩, 36), (⟨"ValueNumbererModel", "shapesOn", "(I)V"⟩, 36), (⟨"ValueNumbererModel", "comesOn", "(II)I"⟩, 36)]
theorem lw_r3 : ∀ q ∈ lw_privs_3, lw_okq q := List.forall_mem_cons.mpr ⟨lw_p32, List.forall_mem_cons.mpr ⟨lw_p33, List.forall_mem_cons.mpr ⟨lw_p34, List.forall_mem_cons.mpr ⟨lw_p35, List.forall_mem_cons.mpr ⟨lw_p36, List.forall_mem_cons.mpr ⟨lw_p37, List.forall_mem_cons.mpr ⟨lw_p38, List.forall_mem_cons.mpr ⟨lw_p39, List.forall_mem_cons.mpr ⟨lw_p40, List.forall_mem_cons.mpr ⟨lw_p41, List.forall_mem_cons.mpr ⟨lw_p42, List.forall_mem_cons.mpr ⟨lw_p43, List.forall_mem_cons.mpr ⟨lw_p44, List.forall_mem_cons.mpr ⟨lw_p45, List.forall_mem_cons.mpr ⟨lw_p46, List.forall_mem_cons.mpr ⟨lw_p47, fun _ h => absurd h List.not_mem_nil⟩⟩⟩⟩⟩⟩⟩⟩⟩⟩⟩⟩⟩⟩⟩⟩
theorem lw_p48 : lw_okq (⟨"ValueNumbererModel", "isNameWhole", "(I)Z"⟩, 36) := ⟨⟨by decide +kernel, by decide +kernel⟩, List.mem_of_getElem? (i := 902) (by decide +kernel), List.mem_of_getElem? (i := 1095) (by decide +kernel), List.mem_of_getElem? (i := 1096) (by decide +kernel)⟩
theorem lw_p49 : lw_okq (⟨"ValueNumbererModel", "isSeenAsOperand", "(IIII)Z"⟩, 36) := ⟨⟨by decide +kernel, by decide +kernel⟩, List.mem_of_getElem? (i := 902) (by decide +kernel), List.mem_of_getElem? (i := 1099) (by decide +kernel), List.mem_of_getElem? (i := 1100) (by decide +kernel)⟩
theorem lw_p50 : lw_okq (⟨"ValueNumbererModel", "isSeenAtEnd", "(III)Z"⟩, 36) := ⟨⟨by decide +kernel, by decide +kernel⟩, List.mem_of_getElem? (i := 902) (by decide +kernel), List.mem_of_getElem? (i := 1103) (by decide +kernel), List.mem_of_getElem? (i := 1104) (by decide +kernel)⟩
theorem lw_p51 : lw_okq (⟨"ValueNumbererModel", "isOver", "(II)Z"⟩, 36) := ⟨⟨by decide +kernel, by decide +kernel⟩, List.mem_of_getElem? (i := 902) (by decide +kernel), List.mem_of_getElem? (i := 1107) (by decide +kernel), List.mem_of_getElem? (i := 1108) (by decide +kernel)⟩
theorem lw_p52 : lw_okq (⟨"ValueNumbererModel", "isSeenOn", "(III)Z"⟩, 36) := ⟨⟨by decide +kernel, by decide +kernel⟩, List.mem_of_getElem? (i := 902) (by decide +kernel), List.mem_of_getElem? (i := 1111) (by decide +kernel), List.mem_of_getElem? (i := 1112) (by decide +kernel)⟩
theorem lw_p53 : lw_okq (⟨"ValueNumbererModel", "copies", "(II)V"⟩, 36) := ⟨⟨by decide +kernel, by decide +kernel⟩, List.mem_of_getElem? (i := 902) (by decide +kernel), List.mem_of_getElem? (i := 1115) (by decide +kernel), List.mem_of_getElem? (i := 1116) (by decide +kernel)⟩
theorem lw_p54 : lw_okq (⟨"ValueNumbererModel", "ofKind", "(I)I"⟩, 36) := ⟨⟨by decide +kernel, by decide +kernel⟩, List.mem_of_getElem? (i := 902) (by decide +kernel), List.mem_of_getElem? (i := 1127) (by decide +kernel), List.mem_of_getElem? (i := 1128) (by decide +kernel)⟩
theorem lw_p55 : lw_okq (⟨"ValueNumbererModel", "uses", "(IZ)I"⟩, 36) := ⟨⟨by decide +kernel, by decide +kernel⟩, List.mem_of_getElem? (i := 902) (by decide +kernel), List.mem_of_getElem? (i := 1131) (by decide +kernel), List.mem_of_getElem? (i := 1132) (by decide +kernel)⟩
theorem lw_p56 : lw_okq (⟨"ValueNumbererModel", "isBlock", "(I)Z"⟩, 36) := ⟨⟨by decide +kernel, by decide +kernel⟩, List.mem_of_getElem? (i := 902) (by decide +kernel), List.mem_of_getElem? (i := 1139) (by decide +kernel), List.mem_of_getElem? (i := 1140) (by decide +kernel)⟩
theorem lw_p57 : lw_okq (⟨"ValueNumbererModel", "nearest", "(I)I"⟩, 36) := ⟨⟨by decide +kernel, by decide +kernel⟩, List.mem_of_getElem? (i := 902) (by decide +kernel), List.mem_of_getElem? (i := 1143) (by decide +kernel), List.mem_of_getElem? (i := 1144) (by decide +kernel)⟩
theorem lw_p58 : lw_okq (⟨"ValueNumbererModel", "isName", "(I)Z"⟩, 36) := ⟨⟨by decide +kernel, by decide +kernel⟩, List.mem_of_getElem? (i := 902) (by decide +kernel), List.mem_of_getElem? (i := 1155) (by decide +kernel), List.mem_of_getElem? (i := 1156) (by decide +kernel)⟩
theorem lw_p59 : lw_okq (⟨"ValueNumbererModel", "isOperand", "(II)Z"⟩, 36) := ⟨⟨by decide +kernel, by decide +kernel⟩, List.mem_of_getElem? (i := 902) (by decide +kernel), List.mem_of_getElem? (i := 1163) (by decide +kernel), List.mem_of_getElem? (i := 1164) (by decide +kernel)⟩
theorem lw_p60 : lw_okq (⟨"ValueNumbererModel", "runsNow", "()J"⟩, 36) := ⟨⟨by decide +kernel, by decide +kernel⟩, List.mem_of_getElem? (i := 902) (by decide +kernel), List.mem_of_getElem? (i := 1175) (by decide +kernel), List.mem_of_getElem? (i := 1176) (by decide +kernel)⟩
theorem lw_p61 : lw_okq (⟨"ValueNumbererModel", "goes", "(III)J"⟩, 36) := ⟨⟨by decide +kernel, by decide +kernel⟩, List.mem_of_getElem? (i := 902) (by decide +kernel), List.mem_of_getElem? (i := 1179) (by decide +kernel), List.mem_of_getElem? (i := 1180) (by decide +kernel)⟩
theorem lw_p62 : lw_okq (⟨"ValueNumbererModel", "goesThrough", "(IIIII)V"⟩, 36) := ⟨⟨by decide +kernel, by decide +kernel⟩, List.mem_of_getElem? (i := 902) (by decide +kernel), List.mem_of_getElem? (i := 1184) (by decide +kernel), List.mem_of_getElem? (i := 1185) (by decide +kernel)⟩
theorem lw_p63 : lw_okq (⟨"ValueNumbererModel", "compares", "(III)V"⟩, 36) := ⟨⟨by decide +kernel, by decide +kernel⟩, List.mem_of_getElem? (i := 902) (by decide +kernel), List.mem_of_getElem? (i := 1188) (by decide +kernel), List.mem_of_getElem? (i := 1189) (by decide +kernel)⟩
def lw_privs_4 : List (MethodName × Nat) := [(⟨"ValueNumbererModel", "isNameWhole", "(I)Z"⟩, 36), (⟨"ValueNumbererModel", "isSeenAsOperand", "(IIII)Z"⟩, 36), (⟨"ValueNumbererModel", "isSeenAtEnd", "(III)Z"⟩, 36), (⟨"ValueNumbererModel", "isOver", "(II)Z"⟩, 36), (⟨"ValueNumbererModel", "isSeenOn", "(III)Z"⟩, 36), (⟨"ValueNumbererModel", "copies", "(II)V"⟩, 36), (⟨"ValueNumbererModel", "ofKind", "(I)I"⟩, 36), (⟨"ValueNumbererModel", "uses", "(IZ)I"⟩, 36), (⟨"ValueNumbererModel", "isBlock", "(I)Z"⟩, 36), (⟨"ValueNumbererModel", "nearest", "(I)I"⟩, 36), (⟨"ValueNumbererModel", "isName", "(I)Z"⟩, 36), (⟨"ValueNumbererModel", "isOperand", "(II)Z"⟩, 36), (⟨"ValueNumbererModel", "runsNow", "()J"⟩, 36), (⟨"ValueNumbererModel", "goes", "(III)J"⟩, 36), (⟨"ValueNumbererModel", "goesThrough", "(IIIII)V"⟩, 36), (⟨"ValueNumbererModel", "compares", "(III)V"⟩, 36)]
theorem lw_r4 : ∀ q ∈ lw_privs_4, lw_okq q := List.forall_mem_cons.mpr ⟨lw_p48, List.forall_mem_cons.mpr ⟨lw_p49, List.forall_mem_cons.mpr ⟨lw_p50, List.forall_mem_cons.mpr ⟨lw_p51, List.forall_mem_cons.mpr ⟨lw_p52, List.forall_mem_cons.mpr ⟨lw_p53, List.forall_mem_cons.mpr ⟨lw_p54, List.forall_mem_cons.mpr ⟨lw_p55, List.forall_mem_cons.mpr ⟨lw_p56, List.forall_mem_cons.mpr ⟨lw_p57, List.forall_mem_cons.mpr ⟨lw_p58, List.forall_mem_cons.mpr ⟨lw_p59, List.forall_mem_cons.mpr ⟨lw_p60, List.forall_mem_cons.mpr ⟨lw_p61, List.forall_mem_cons.mpr ⟨lw_p62, List.forall_mem_cons.mpr ⟨lw_p63, fun _ h => absurd h List.not_mem_nil⟩⟩⟩⟩⟩⟩⟩⟩⟩⟩⟩⟩⟩⟩⟩⟩
theorem lw_p64 : lw_okq (⟨"ValueNumbererModel", "valueOf", "(II)J"⟩, 36) := ⟨⟨by decide +kernel, by decide +kernel⟩, List.mem_of_getElem? (i := 902) (by decide +kernel), List.mem_of_getElem? (i := 1192) (by decide +kernel), List.mem_of_getElem? (i := 1193) (by decide +kernel)⟩
theorem lw_p65 : lw_okq (⟨"ValueNumbererModel", "rounds", "(I)I"⟩, 36) := ⟨⟨by decide +kernel, by decide +kernel⟩, List.mem_of_getElem? (i := 902) (by decide +kernel), List.mem_of_getElem? (i := 1214) (by decide +kernel), List.mem_of_getElem? (i := 1215) (by decide +kernel)⟩
theorem lw_p66 : lw_okq (⟨"ValueNumbererModel", "isAlikeFirst", "(II)Z"⟩, 36) := ⟨⟨by decide +kernel, by decide +kernel⟩, List.mem_of_getElem? (i := 902) (by decide +kernel), List.mem_of_getElem? (i := 1218) (by decide +kernel), List.mem_of_getElem? (i := 1219) (by decide +kernel)⟩
theorem lw_p67 : lw_okq (⟨"ValueNumbererModel", "splits", "()Z"⟩, 36) := ⟨⟨by decide +kernel, by decide +kernel⟩, List.mem_of_getElem? (i := 902) (by decide +kernel), List.mem_of_getElem? (i := 1222) (by decide +kernel), List.mem_of_getElem? (i := 1223) (by decide +kernel)⟩
theorem lw_p68 : lw_okq (⟨"ValueNumbererModel", "isAlikeNext", "(II)Z"⟩, 36) := ⟨⟨by decide +kernel, by decide +kernel⟩, List.mem_of_getElem? (i := 902) (by decide +kernel), List.mem_of_getElem? (i := 1226) (by decide +kernel), List.mem_of_getElem? (i := 1227) (by decide +kernel)⟩
theorem lw_p69 : lw_okq (⟨"ValueNumbererModel", "leaderOf", "(I)I"⟩, 36) := ⟨⟨by decide +kernel, by decide +kernel⟩, List.mem_of_getElem? (i := 902) (by decide +kernel), List.mem_of_getElem? (i := 1244) (by decide +kernel), List.mem_of_getElem? (i := 1245) (by decide +kernel)⟩
theorem lw_p70 : lw_okq (⟨"ValueNumbererModel", "isAmong", "(II)Z"⟩, 36) := ⟨⟨by decide +kernel, by decide +kernel⟩, List.mem_of_getElem? (i := 902) (by decide +kernel), List.mem_of_getElem? (i := 1248) (by decide +kernel), List.mem_of_getElem? (i := 1249) (by decide +kernel)⟩
theorem lw_p71 : lw_okq (⟨"ValueNumbererModel", "forms", "()V"⟩, 36) := ⟨⟨by decide +kernel, by decide +kernel⟩, List.mem_of_getElem? (i := 902) (by decide +kernel), List.mem_of_getElem? (i := 1256) (by decide +kernel), List.mem_of_getElem? (i := 1257) (by decide +kernel)⟩
theorem lw_p72 : lw_okq (⟨"ValueNumbererModel", "becomes", "(IIJ)V"⟩, 36) := ⟨⟨by decide +kernel, by decide +kernel⟩, List.mem_of_getElem? (i := 902) (by decide +kernel), List.mem_of_getElem? (i := 1260) (by decide +kernel), List.mem_of_getElem? (i := 1261) (by decide +kernel)⟩
theorem lw_p73 : lw_okq (⟨"ValueNumbererModel", "formsNegative", "(I)V"⟩, 36) := ⟨⟨by decide +kernel, by decide +kernel⟩, List.mem_of_getElem? (i := 902) (by decide +kernel), List.mem_of_getElem? (i := 1264) (by decide +kernel), List.mem_of_getElem? (i := 1265) (by decide +kernel)⟩
theorem lw_p74 : lw_okq (⟨"ValueNumbererModel", "operandOf", "(II)I"⟩, 36) := ⟨⟨by decide +kernel, by decide +kernel⟩, List.mem_of_getElem? (i := 902) (by decide +kernel), List.mem_of_getElem? (i := 1268) (by decide +kernel), List.mem_of_getElem? (i := 1269) (by decide +kernel)⟩
theorem lw_p75 : lw_okq (⟨"ValueNumbererModel", "becomesAs", "(II)V"⟩, 36) := ⟨⟨by decide +kernel, by decide +kernel⟩, List.mem_of_getElem? (i := 902) (by decide +kernel), List.mem_of_getElem? (i := 1272) (by decide +kernel), List.mem_of_getElem? (i := 1273) (by decide +kernel)⟩
theorem lw_p76 : lw_okq (⟨"ValueNumbererModel", "becomesFirst", "(I)V"⟩, 36) := ⟨⟨by decide +kernel, by decide +kernel⟩, List.mem_of_getElem? (i := 902) (by decide +kernel), List.mem_of_getElem? (i := 1276) (by decide +kernel), List.mem_of_getElem? (i := 1277) (by decide +kernel)⟩
theorem lw_p77 : lw_okq (⟨"ValueNumbererModel", "isFormAs", "(II)Z"⟩, 36) := ⟨⟨by decide +kernel, by decide +kernel⟩, List.mem_of_getElem? (i := 902) (by decide +kernel), List.mem_of_getElem? (i := 1280) (by decide +kernel), List.mem_of_getElem? (i := 1281) (by decide +kernel)⟩
theorem lw_p78 : lw_okq (⟨"ValueNumbererModel", "isBehindAll", "(I)Z"⟩, 36) := ⟨⟨by decide +kernel, by decide +kernel⟩, List.mem_of_getElem? (i := 902) (by decide +kernel), List.mem_of_getElem? (i := 1284) (by decide +kernel), List.mem_of_getElem? (i := 1285) (by decide +kernel)⟩
theorem lw_p79 : lw_okq (⟨"ValueNumbererModel", "isSameForm", "(II)Z"⟩, 36) := ⟨⟨by decide +kernel, by decide +kernel⟩, List.mem_of_getElem? (i := 902) (by decide +kernel), List.mem_of_getElem? (i := 1288) (by decide +kernel), List.mem_of_getElem? (i := 1289) (by decide +kernel)⟩
def lw_privs_5 : List (MethodName × Nat) := [(⟨"ValueNumbererModel", "valueOf", "(II)J"⟩, 36), (⟨"ValueNumbererModel", "rounds", "(I)I"⟩, 36), (⟨"ValueNumbererModel", "isAlikeFirst", "(II)Z"⟩, 36), (⟨"ValueNumbererModel", "splits", "()Z"⟩, 36), (⟨"ValueNumbererModel", "isAlikeNext", "(II)Z"⟩, 36), (⟨"ValueNumbererModel", "leaderOf", "(I)I"⟩, 36), (⟨"ValueNumbererModel", "isAmong", "(II)Z"⟩, 36), (⟨"ValueNumbererModel", "forms", "()V"⟩, 36), (⟨"ValueNumbererModel", "becomes", "(IIJ)V"⟩, 36), (⟨"ValueNumbererModel", "formsNegative", "(I)V"⟩, 36), (⟨"ValueNumbererModel", "operandOf", "(II)I"⟩, 36), (⟨"ValueNumbererModel", "becomesAs", "(II)V"⟩, 36), (⟨"ValueNumbererModel", "becomesFirst", "(I)V"⟩, 36), (⟨"ValueNumbererModel", "isFormAs", "(II)Z"⟩, 36), (⟨"ValueNumbererModel", "isBehindAll", "(I)Z"⟩, 36), (⟨"ValueNumbererModel", "isSameForm", "(II)Z"⟩, 36)]
theorem lw_r5 : ∀ q ∈ lw_privs_5, lw_okq q := List.forall_mem_cons.mpr ⟨lw_p64, List.forall_mem_cons.mpr ⟨lw_p65, List.forall_mem_cons.mpr ⟨lw_p66, List.forall_mem_cons.mpr ⟨lw_p67, List.forall_mem_cons.mpr ⟨lw_p68, List.forall_mem_cons.mpr ⟨lw_p69, List.forall_mem_cons.mpr ⟨lw_p70, List.forall_mem_cons.mpr ⟨lw_p71, List.forall_mem_cons.mpr ⟨lw_p72, List.forall_mem_cons.mpr ⟨lw_p73, List.forall_mem_cons.mpr ⟨lw_p74, List.forall_mem_cons.mpr ⟨lw_p75, List.forall_mem_cons.mpr ⟨lw_p76, List.forall_mem_cons.mpr ⟨lw_p77, List.forall_mem_cons.mpr ⟨lw_p78, List.forall_mem_cons.mpr ⟨lw_p79, fun _ h => absurd h List.not_mem_nil⟩⟩⟩⟩⟩⟩⟩⟩⟩⟩⟩⟩⟩⟩⟩⟩
theorem lw_p80 : lw_okq (⟨"ValueNumbererModel", "formsPair", "(I)V"⟩, 36) := ⟨⟨by decide +kernel, by decide +kernel⟩, List.mem_of_getElem? (i := 902) (by decide +kernel), List.mem_of_getElem? (i := 1292) (by decide +kernel), List.mem_of_getElem? (i := 1293) (by decide +kernel)⟩
theorem lw_p81 : lw_okq (⟨"ValueNumbererModel", "isNumber", "(IJ)Z"⟩, 36) := ⟨⟨by decide +kernel, by decide +kernel⟩, List.mem_of_getElem? (i := 902) (by decide +kernel), List.mem_of_getElem? (i := 1296) (by decide +kernel), List.mem_of_getElem? (i := 1297) (by decide +kernel)⟩
theorem lw_p82 : lw_okq (⟨"ValueNumbererModel", "isOfOne", "(I)Z"⟩, 36) := ⟨⟨by decide +kernel, by decide +kernel⟩, List.mem_of_getElem? (i := 902) (by decide +kernel), List.mem_of_getElem? (i := 1300) (by decide +kernel), List.mem_of_getElem? (i := 1301) (by decide +kernel)⟩
theorem lw_p83 : lw_okq (⟨"ValueNumbererModel", "foundAt", "(IIJ)I"⟩, 36) := ⟨⟨by decide +kernel, by decide +kernel⟩, List.mem_of_getElem? (i := 902) (by decide +kernel), List.mem_of_getElem? (i := 1353) (by decide +kernel), List.mem_of_getElem? (i := 1354) (by decide +kernel)⟩
def lw_privs_6 : List (MethodName × Nat) := [(⟨"ValueNumbererModel", "formsPair", "(I)V"⟩, 36), (⟨"ValueNumbererModel", "isNumber", "(IJ)Z"⟩, 36), (⟨"ValueNumbererModel", "isOfOne", "(I)Z"⟩, 36), (⟨"ValueNumbererModel", "foundAt", "(IIJ)I"⟩, 36)]
theorem lw_r6 : ∀ q ∈ lw_privs_6, lw_okq q := List.forall_mem_cons.mpr ⟨lw_p80, List.forall_mem_cons.mpr ⟨lw_p81, List.forall_mem_cons.mpr ⟨lw_p82, List.forall_mem_cons.mpr ⟨lw_p83, fun _ h => absurd h List.not_mem_nil⟩⟩⟩⟩
def lw_privs : List (MethodName × Nat) := lw_privs_1 ++ (lw_privs_2 ++ (lw_privs_3 ++ (lw_privs_4 ++ (lw_privs_5 ++ (lw_privs_6)))))
def lw_tbl : List Cond := k2_sels lw_privs ++ tables_1
theorem lw_privs_ok : ∀ q ∈ lw_privs, lw_okq q := by
  show ∀ q ∈ lw_privs_1 ++ (lw_privs_2 ++ (lw_privs_3 ++ (lw_privs_4 ++ (lw_privs_5 ++ (lw_privs_6))))), lw_okq q
  exact List.forall_mem_append.mpr ⟨lw_r1, List.forall_mem_append.mpr ⟨lw_r2, List.forall_mem_append.mpr ⟨lw_r3, List.forall_mem_append.mpr ⟨lw_r4, List.forall_mem_append.mpr ⟨lw_r5, lw_r6⟩⟩⟩⟩⟩
def RX0 : String := "ValueNumberer$Classes"
def TX0 : u_T := fun k => match k with
  | 0 => ("ValueNumberer$Classes", "first", "[I", true)
  | 1 => ("ValueNumberer$Classes", "rounds", "I", false)
  | _ => ("ValueNumberer$Classes", "next", "[I", true)
def tyX0 : Nat → FieldType := fun k => match k with
  | 0 => .array .int
  | 1 => .int
  | _ => .array .int
abbrev wsX00 : List Cond := u_ws RX0 TX0 3
theorem nmX0 : ∀ a, a < 3 → ∀ b, b < 3 → a ≠ b → (TX0 a).2.1 ≠ (TX0 b).2.1 := by decide +kernel
theorem tyX0_ok : ∀ k, k < 3 → parseFieldDescriptor (TX0 k).2.2.1 = some (tyX0 k) := by decide +kernel
abbrev cX0_init : ByteArray := prog_2_method_1_code
def yX0_init : MethodName := ⟨RX0, "<init>", "()V"⟩
abbrev cX0_split : ByteArray := prog_2_method_2_code
def yX0_split : MethodName := ⟨RX0, "split", "(LValueNumberer$Program;I)V"⟩
abbrev cX0_firstAtStart : ByteArray := prog_2_method_3_code
def yX0_firstAtStart : MethodName := ⟨RX0, "firstAtStart", "(LValueNumberer$Program;I)I"⟩
abbrev cX0_isHopeful : ByteArray := prog_2_method_4_code
def yX0_isHopeful : MethodName := ⟨RX0, "isHopeful", "(LValueNumberer$Program;II)Z"⟩
abbrev cX0_splitOnce : ByteArray := prog_2_method_5_code
def yX0_splitOnce : MethodName := ⟨RX0, "splitOnce", "(LValueNumberer$Program;)Z"⟩
abbrev cX0_areOperandsAlike : ByteArray := prog_2_method_6_code
def yX0_areOperandsAlike : MethodName := ⟨RX0, "areOperandsAlike", "(LValueNumberer$Program;II)Z"⟩
abbrev cX0_isAlike : ByteArray := prog_2_method_7_code
def yX0_isAlike : MethodName := ⟨RX0, "isAlike", "(LValueNumberer$Program;IIII)Z"⟩
abbrev cX0_countClasses : ByteArray := prog_2_method_8_code
def yX0_countClasses : MethodName := ⟨RX0, "countClasses", "(LValueNumberer$Program;)I"⟩
abbrev cX0_greatestClass : ByteArray := prog_2_method_9_code
def yX0_greatestClass : MethodName := ⟨RX0, "greatestClass", "(LValueNumberer$Program;)I"⟩
abbrev cX0_sizeOf : ByteArray := prog_2_method_10_code
def yX0_sizeOf : MethodName := ⟨RX0, "sizeOf", "(LValueNumberer$Program;I)I"⟩
abbrev cX0_leaderOf : ByteArray := prog_2_method_11_code
def yX0_leaderOf : MethodName := ⟨RX0, "leaderOf", "(LValueNumberer$Program;I)I"⟩
def RX1 : String := "ValueNumberer$Forms"
def TX1 : u_T := fun k => match k with
  | _ => ("ValueNumberer$Forms", "codes", "[J", true)
def tyX1 : Nat → FieldType := fun k => match k with
  | _ => .array .long
abbrev wsX10 : List Cond := u_ws RX1 TX1 1
theorem nmX1 : ∀ a, a < 1 → ∀ b, b < 1 → a ≠ b → (TX1 a).2.1 ≠ (TX1 b).2.1 := by decide +kernel
theorem tyX1_ok : ∀ k, k < 1 → parseFieldDescriptor (TX1 k).2.2.1 = some (tyX1 k) := by decide +kernel
abbrev cX1_init : ByteArray := prog_3_method_1_code
def yX1_init : MethodName := ⟨RX1, "<init>", "()V"⟩
abbrev cX1_find : ByteArray := prog_3_method_2_code
def yX1_find : MethodName := ⟨RX1, "find", "(LValueNumberer$Program;)V"⟩
abbrev cX1_nameOf : ByteArray := prog_3_method_3_code
def yX1_nameOf : MethodName := ⟨RX1, "nameOf", "(I)I"⟩
abbrev cX1_numberOf : ByteArray := prog_3_method_4_code
def yX1_numberOf : MethodName := ⟨RX1, "numberOf", "(I)J"⟩
abbrev cX1_isName : ByteArray := prog_3_method_5_code
def yX1_isName : MethodName := ⟨RX1, "isName", "(J)Z"⟩
abbrev cX1_codeOf : ByteArray := prog_3_method_6_code
def yX1_codeOf : MethodName := ⟨RX1, "codeOf", "(LValueNumberer$Program;I)J"⟩
abbrev cX1_codeOfNeg : ByteArray := prog_3_method_7_code
def yX1_codeOfNeg : MethodName := ⟨RX1, "codeOfNeg", "(LValueNumberer$Program;I)J"⟩
abbrev cX1_codeOfPair : ByteArray := prog_3_method_8_code
def yX1_codeOfPair : MethodName := ⟨RX1, "codeOfPair", "(LValueNumberer$Program;I)J"⟩
abbrev cX1_codeOfPhi : ByteArray := prog_3_method_9_code
def yX1_codeOfPhi : MethodName := ⟨RX1, "codeOfPhi", "(LValueNumberer$Program;I)J"⟩
abbrev cX1_earlier : ByteArray := prog_3_method_10_code
def yX1_earlier : MethodName := ⟨RX1, "earlier", "(LValueNumberer$Program;I)J"⟩
abbrev cX1_isSame : ByteArray := prog_3_method_11_code
def yX1_isSame : MethodName := ⟨RX1, "isSame", "(LValueNumberer$Program;II)Z"⟩
abbrev cX1_isSameOperand : ByteArray := prog_3_method_12_code
def yX1_isSameOperand : MethodName := ⟨RX1, "isSameOperand", "(LValueNumberer$Program;IIII)Z"⟩
def RX2 : String := "ValueNumberer$Machine"
def TX2 : u_T := fun k => match k with
  | 0 => ("ValueNumberer$Machine", "arguments", "[I", true)
  | 1 => ("ValueNumberer$Machine", "values", "[J", true)
  | 2 => ("ValueNumberer$Machine", "hasRun", "Z", false)
  | 3 => ("ValueNumberer$Machine", "returned", "Z", false)
  | 4 => ("ValueNumberer$Machine", "steps", "I", false)
  | 5 => ("ValueNumberer$Machine", "got", "I", false)
  | 6 => ("ValueNumberer$Machine", "differences", "I", false)
  | 7 => ("ValueNumberer$Machine", "coming", "[J", true)
  | 8 => ("ValueNumberer$Machine", "watched", "I", false)
  | _ => ("ValueNumberer$Machine", "compared", "I", false)
def tyX2 : Nat → FieldType := fun k => match k with
  | 0 => .array .int
  | 1 => .array .long
  | 2 => .boolean
  | 3 => .boolean
  | 4 => .int
  | 5 => .int
  | 6 => .int
  | 7 => .array .long
  | 8 => .int
  | _ => .int
abbrev wsX20 : List Cond := u_ws RX2 TX2 10
theorem nmX2 : ∀ a, a < 10 → ∀ b, b < 10 → a ≠ b → (TX2 a).2.1 ≠ (TX2 b).2.1 := by decide +kernel
theorem tyX2_ok : ∀ k, k < 10 → parseFieldDescriptor (TX2 k).2.2.1 = some (tyX2 k) := by decide +kernel
abbrev cX2_init : ByteArray := prog_4_method_1_code
def yX2_init : MethodName := ⟨RX2, "<init>", "()V"⟩
abbrev cX2_forget : ByteArray := prog_4_method_2_code
def yX2_forget : MethodName := ⟨RX2, "forget", "()V"⟩
abbrev cX2_give : ByteArray := prog_4_method_3_code
def yX2_give : MethodName := ⟨RX2, "give", "(IIII)V"⟩
abbrev cX2_giveBySeed : ByteArray := prog_4_method_4_code
def yX2_giveBySeed : MethodName := ⟨RX2, "giveBySeed", "(I)I"⟩
abbrev cX2_watch : ByteArray := prog_4_method_5_code
def yX2_watch : MethodName := ⟨RX2, "watch", "(II)V"⟩
abbrev cX2_go : ByteArray := prog_4_method_6_code
def yX2_go : MethodName := ⟨RX2, "go", "(LValueNumberer$Program;)J"⟩
abbrev cX2_nextBlock : ByteArray := prog_4_method_7_code
def yX2_nextBlock : MethodName := ⟨RX2, "nextBlock", "(LValueNumberer$Program;I)I"⟩
abbrev cX2_pass : ByteArray := prog_4_method_8_code
def yX2_pass : MethodName := ⟨RX2, "pass", "(LValueNumberer$Program;II)V"⟩
abbrev cX2_passPhis : ByteArray := prog_4_method_9_code
def yX2_passPhis : MethodName := ⟨RX2, "passPhis", "(LValueNumberer$Program;III)V"⟩
abbrev cX2_bringOf : ByteArray := prog_4_method_10_code
def yX2_bringOf : MethodName := ⟨RX2, "bringOf", "(LValueNumberer$Program;I)J"⟩
abbrev cX2_compare : ByteArray := prog_4_method_11_code
def yX2_compare : MethodName := ⟨RX2, "compare", "()V"⟩
def RX3 : String := "ValueNumberer$Program"
def TX3 : u_T := fun k => match k with
  | 0 => ("ValueNumberer$Program", "blocks", "I", false)
  | 1 => ("ValueNumberer$Program", "names", "I", false)
  | 2 => ("ValueNumberer$Program", "first", "[I", true)
  | 3 => ("ValueNumberer$Program", "size", "[I", true)
  | 4 => ("ValueNumberer$Program", "ending", "[I", true)
  | 5 => ("ValueNumberer$Program", "goal", "[I", true)
  | 6 => ("ValueNumberer$Program", "other", "[I", true)
  | 7 => ("ValueNumberer$Program", "asked", "[I", true)
  | 8 => ("ValueNumberer$Program", "preds", "[I", true)
  | 9 => ("ValueNumberer$Program", "predRows", "[[I", true)
  | 10 => ("ValueNumberer$Program", "dominators", "[I", true)
  | 11 => ("ValueNumberer$Program", "kind", "[I", true)
  | 12 => ("ValueNumberer$Program", "home", "[I", true)
  | 13 => ("ValueNumberer$Program", "arity", "[I", true)
  | 14 => ("ValueNumberer$Program", "figure", "[I", true)
  | 15 => ("ValueNumberer$Program", "operandRows", "[[I", true)
  | _ => ("ValueNumberer$Program", "needed", "[Z", true)
def tyX3 : Nat → FieldType := fun k => match k with
  | 0 => .int
  | 1 => .int
  | 2 => .array .int
  | 3 => .array .int
  | 4 => .array .int
  | 5 => .array .int
  | 6 => .array .int
  | 7 => .array .int
  | 8 => .array .int
  | 9 => .array (.array .int)
  | 10 => .array .int
  | 11 => .array .int
  | 12 => .array .int
  | 13 => .array .int
  | 14 => .array .int
  | 15 => .array (.array .int)
  | _ => .array .boolean
abbrev wsX30 : List Cond := u_ws RX3 TX3 17
theorem nmX3 : ∀ a, a < 17 → ∀ b, b < 17 → a ≠ b → (TX3 a).2.1 ≠ (TX3 b).2.1 := by decide +kernel
theorem tyX3_ok : ∀ k, k < 17 → parseFieldDescriptor (TX3 k).2.2.1 = some (tyX3 k) := by decide +kernel
abbrev cX3_init : ByteArray := prog_5_method_1_code
def yX3_init : MethodName := ⟨RX3, "<init>", "()V"⟩
abbrev cX3_clear : ByteArray := prog_5_method_2_code
def yX3_clear : MethodName := ⟨RX3, "clear", "()V"⟩
abbrev cX3_openBlock : ByteArray := prog_5_method_3_code
def yX3_openBlock : MethodName := ⟨RX3, "openBlock", "()Z"⟩
abbrev cX3_openName : ByteArray := prog_5_method_4_code
def yX3_openName : MethodName := ⟨RX3, "openName", "(I)Z"⟩
abbrev cX3_putFigure : ByteArray := prog_5_method_5_code
def yX3_putFigure : MethodName := ⟨RX3, "putFigure", "(I)V"⟩
abbrev cX3_putOperand : ByteArray := prog_5_method_6_code
def yX3_putOperand : MethodName := ⟨RX3, "putOperand", "(I)V"⟩
abbrev cX3_putEnd : ByteArray := prog_5_method_7_code
def yX3_putEnd : MethodName := ⟨RX3, "putEnd", "(I)V"⟩
abbrev cX3_putAsked : ByteArray := prog_5_method_8_code
def yX3_putAsked : MethodName := ⟨RX3, "putAsked", "(I)V"⟩
abbrev cX3_putGoal : ByteArray := prog_5_method_9_code
def yX3_putGoal : MethodName := ⟨RX3, "putGoal", "(I)V"⟩
abbrev cX3_putOther : ByteArray := prog_5_method_10_code
def yX3_putOther : MethodName := ⟨RX3, "putOther", "(I)V"⟩
abbrev cX3_copyFrom : ByteArray := prog_5_method_11_code
def yX3_copyFrom : MethodName := ⟨RX3, "copyFrom", "(LValueNumberer$Program;)V"⟩
abbrev cX3_hasBlock : ByteArray := prog_5_method_12_code
def yX3_hasBlock : MethodName := ⟨RX3, "hasBlock", "(I)Z"⟩
abbrev cX3_hasName : ByteArray := prog_5_method_13_code
def yX3_hasName : MethodName := ⟨RX3, "hasName", "(I)Z"⟩
abbrev cX3_hasOperand : ByteArray := prog_5_method_14_code
def yX3_hasOperand : MethodName := ⟨RX3, "hasOperand", "(II)Z"⟩
abbrev cX3_hasFigure : ByteArray := prog_5_method_15_code
def yX3_hasFigure : MethodName := ⟨RX3, "hasFigure", "(I)Z"⟩
abbrev cX3_successors : ByteArray := prog_5_method_16_code
def yX3_successors : MethodName := ⟨RX3, "successors", "(I)I"⟩
abbrev cX3_reachOutside : ByteArray := prog_5_method_17_code
def yX3_reachOutside : MethodName := ⟨RX3, "reachOutside", "(I)I"⟩
abbrev cX3_findDominators : ByteArray := prog_5_method_18_code
def yX3_findDominators : MethodName := ⟨RX3, "findDominators", "()V"⟩
abbrev cX3_findPreds : ByteArray := prog_5_method_19_code
def yX3_findPreds : MethodName := ⟨RX3, "findPreds", "()V"⟩
abbrev cX3_nearestDominator : ByteArray := prog_5_method_20_code
def yX3_nearestDominator : MethodName := ⟨RX3, "nearestDominator", "(I)I"⟩
abbrev cX3_routeFrom : ByteArray := prog_5_method_21_code
def yX3_routeFrom : MethodName := ⟨RX3, "routeFrom", "(II)I"⟩
abbrev cX3_isSeen : ByteArray := prog_5_method_22_code
def yX3_isSeen : MethodName := ⟨RX3, "isSeen", "(II)Z"⟩
abbrev cX3_isSeenAtEnd : ByteArray := prog_5_method_23_code
def yX3_isSeenAtEnd : MethodName := ⟨RX3, "isSeenAtEnd", "(II)Z"⟩
abbrev cX3_isSeenByOperand : ByteArray := prog_5_method_24_code
def yX3_isSeenByOperand : MethodName := ⟨RX3, "isSeenByOperand", "(III)Z"⟩
abbrev cX3_isSound : ByteArray := prog_5_method_25_code
def yX3_isSound : MethodName := ⟨RX3, "isSound", "()Z"⟩
abbrev cX3_areOperandsSound : ByteArray := prog_5_method_26_code
def yX3_areOperandsSound : MethodName := ⟨RX3, "areOperandsSound", "(I)Z"⟩
abbrev cX3_looksBehind : ByteArray := prog_5_method_27_code
def yX3_looksBehind : MethodName := ⟨RX3, "looksBehind", "(I)Z"⟩
abbrev cX3_countKind : ByteArray := prog_5_method_28_code
def yX3_countKind : MethodName := ⟨RX3, "countKind", "(I)I"⟩
abbrev cX3_countOperands : ByteArray := prog_5_method_29_code
def yX3_countOperands : MethodName := ⟨RX3, "countOperands", "()I"⟩
abbrev cX3_countUses : ByteArray := prog_5_method_30_code
def yX3_countUses : MethodName := ⟨RX3, "countUses", "(I)I"⟩
abbrev cX3_sumOfNumbers : ByteArray := prog_5_method_31_code
def yX3_sumOfNumbers : MethodName := ⟨RX3, "sumOfNumbers", "()I"⟩
abbrev cX3_exchange : ByteArray := prog_5_method_32_code
def yX3_exchange : MethodName := ⟨RX3, "exchange", "([I)I"⟩
abbrev cX3_dropUnneeded : ByteArray := prog_5_method_33_code
def yX3_dropUnneeded : MethodName := ⟨RX3, "dropUnneeded", "()I"⟩
abbrev cX3_findNeeded : ByteArray := prog_5_method_34_code
def yX3_findNeeded : MethodName := ⟨RX3, "findNeeded", "()V"⟩
abbrev cX3_markOperands : ByteArray := prog_5_method_35_code
def yX3_markOperands : MethodName := ⟨RX3, "markOperands", "(I)V"⟩
def RX4 : String := "ValueNumberer$Reader"
def TX4 : u_T := fun k => match k with
  | 0 => ("ValueNumberer$Reader", "tape", "LValueNumberer$Tape;", true)
  | 1 => ("ValueNumberer$Reader", "draft", "LValueNumberer$Program;", true)
  | 2 => ("ValueNumberer$Reader", "fault", "I", false)
  | 3 => ("ValueNumberer$Reader", "faultPlace", "I", false)
  | 4 => ("ValueNumberer$Reader", "tokens", "[I", true)
  | 5 => ("ValueNumberer$Reader", "starts", "[I", true)
  | 6 => ("ValueNumberer$Reader", "figures", "[I", true)
  | 7 => ("ValueNumberer$Reader", "at", "I", false)
  | 8 => ("ValueNumberer$Reader", "place", "I", false)
  | 9 => ("ValueNumberer$Reader", "taken", "I", false)
  | 10 => ("ValueNumberer$Reader", "isInBlock", "Z", false)
  | _ => ("ValueNumberer$Reader", "isPhiOver", "Z", false)
def tyX4 : Nat → FieldType := fun k => match k with
  | 0 => .object "ValueNumberer$Tape"
  | 1 => .object "ValueNumberer$Program"
  | 2 => .int
  | 3 => .int
  | 4 => .array .int
  | 5 => .array .int
  | 6 => .array .int
  | 7 => .int
  | 8 => .int
  | 9 => .int
  | 10 => .boolean
  | _ => .boolean
abbrev wsX40 : List Cond := u_ws RX4 TX4 12
theorem nmX4 : ∀ a, a < 12 → ∀ b, b < 12 → a ≠ b → (TX4 a).2.1 ≠ (TX4 b).2.1 := by decide +kernel
theorem tyX4_ok : ∀ k, k < 12 → parseFieldDescriptor (TX4 k).2.2.1 = some (tyX4 k) := by decide +kernel
abbrev cX4_init : ByteArray := prog_6_method_1_code
def yX4_init : MethodName := ⟨RX4, "<init>", "()V"⟩
abbrev cX4_readText : ByteArray := prog_6_method_2_code
def yX4_readText : MethodName := ⟨RX4, "readText", "()Z"⟩
abbrev cX4_refuse : ByteArray := prog_6_method_3_code
def yX4_refuse : MethodName := ⟨RX4, "refuse", "(I)Z"⟩
abbrev cX4_readLine : ByteArray := prog_6_method_4_code
def yX4_readLine : MethodName := ⟨RX4, "readLine", "()Z"⟩
abbrev cX4_readHead : ByteArray := prog_6_method_5_code
def yX4_readHead : MethodName := ⟨RX4, "readHead", "()Z"⟩
abbrev cX4_readName : ByteArray := prog_6_method_6_code
def yX4_readName : MethodName := ⟨RX4, "readName", "()Z"⟩
abbrev cX4_readFigure : ByteArray := prog_6_method_7_code
def yX4_readFigure : MethodName := ⟨RX4, "readFigure", "(I)Z"⟩
abbrev cX4_readOperands : ByteArray := prog_6_method_8_code
def yX4_readOperands : MethodName := ⟨RX4, "readOperands", "(I)Z"⟩
abbrev cX4_readEnd : ByteArray := prog_6_method_9_code
def yX4_readEnd : MethodName := ⟨RX4, "readEnd", "()Z"⟩
abbrev cX4_takeSemicolon : ByteArray := prog_6_method_10_code
def yX4_takeSemicolon : MethodName := ⟨RX4, "takeSemicolon", "()Z"⟩
abbrev cX4_takeNumber : ByteArray := prog_6_method_11_code
def yX4_takeNumber : MethodName := ⟨RX4, "takeNumber", "(II)Z"⟩
abbrev cX4_scan : ByteArray := prog_6_method_12_code
def yX4_scan : MethodName := ⟨RX4, "scan", "()V"⟩
abbrev cX4_scanToken : ByteArray := prog_6_method_13_code
def yX4_scanToken : MethodName := ⟨RX4, "scanToken", "(I)I"⟩
abbrev cX4_skip : ByteArray := prog_6_method_14_code
def yX4_skip : MethodName := ⟨RX4, "skip", "(II)V"⟩
abbrev cX4_figureFrom : ByteArray := prog_6_method_15_code
def yX4_figureFrom : MethodName := ⟨RX4, "figureFrom", "(I)I"⟩
abbrev cX4_wordFrom : ByteArray := prog_6_method_16_code
def yX4_wordFrom : MethodName := ⟨RX4, "wordFrom", "(I)I"⟩
abbrev cX4_isWord : ByteArray := prog_6_method_17_code
def yX4_isWord : MethodName := ⟨RX4, "isWord", "(ILjava/lang/String;)Z"⟩
def RX5 : String := "ValueNumberer$Sheets"
def TX5 : u_T := fun k => match k with
  | 0 => ("ValueNumberer$Sheets", "length", "[I", true)
  | 1 => ("ValueNumberer$Sheets", "torn", "I", false)
  | 2 => ("ValueNumberer$Sheets", "lanes", "[I", true)
  | _ => ("ValueNumberer$Sheets", "cells", "[[I", true)
def tyX5 : Nat → FieldType := fun k => match k with
  | 0 => .array .int
  | 1 => .int
  | 2 => .array .int
  | _ => .array (.array .int)
abbrev wsX50 : List Cond := u_ws RX5 TX5 4
theorem nmX5 : ∀ a, a < 4 → ∀ b, b < 4 → a ≠ b → (TX5 a).2.1 ≠ (TX5 b).2.1 := by decide +kernel
theorem tyX5_ok : ∀ k, k < 4 → parseFieldDescriptor (TX5 k).2.2.1 = some (tyX5 k) := by decide +kernel
abbrev cX5_init : ByteArray := prog_7_method_1_code
def yX5_init : MethodName := ⟨RX5, "<init>", "()V"⟩
abbrev cX5_renew : ByteArray := prog_7_method_2_code
def yX5_renew : MethodName := ⟨RX5, "renew", "(III)V"⟩
abbrev cX5_faultAt : ByteArray := prog_7_method_3_code
def yX5_faultAt : MethodName := ⟨RX5, "faultAt", "(II)I"⟩
abbrev cX5_faultOfFour : ByteArray := prog_7_method_4_code
def yX5_faultOfFour : MethodName := ⟨RX5, "faultOfFour", "(III)I"⟩
abbrev cX5_write : ByteArray := prog_7_method_5_code
def yX5_write : MethodName := ⟨RX5, "write", "(III)V"⟩
abbrev cX5_cellAt : ByteArray := prog_7_method_6_code
def yX5_cellAt : MethodName := ⟨RX5, "cellAt", "(II)I"⟩
def RX6 : String := "ValueNumberer$Tape"
def TX6 : u_T := fun k => match k with
  | 0 => ("ValueNumberer$Tape", "bytes", "[B", true)
  | _ => ("ValueNumberer$Tape", "length", "I", false)
def tyX6 : Nat → FieldType := fun k => match k with
  | 0 => .array .byte
  | _ => .int
abbrev wsX60 : List Cond := u_ws RX6 TX6 2
theorem nmX6 : ∀ a, a < 2 → ∀ b, b < 2 → a ≠ b → (TX6 a).2.1 ≠ (TX6 b).2.1 := by decide +kernel
theorem tyX6_ok : ∀ k, k < 2 → parseFieldDescriptor (TX6 k).2.2.1 = some (tyX6 k) := by decide +kernel
abbrev cX6_init : ByteArray := prog_8_method_1_code
def yX6_init : MethodName := ⟨RX6, "<init>", "()V"⟩
abbrev cX6_push : ByteArray := prog_8_method_2_code
def yX6_push : MethodName := ⟨RX6, "push", "(I)Z"⟩
abbrev cX6_has : ByteArray := prog_8_method_3_code
def yX6_has : MethodName := ⟨RX6, "has", "(III)Z"⟩
def RX7 : String := "ValueNumberer"
def TX7 : u_T := fun k => match k with
  | 0 => ("ValueNumberer", "reader", "LValueNumberer$Reader;", true)
  | 1 => ("ValueNumberer", "latest", "LValueNumberer$Machine;", true)
  | 2 => ("ValueNumberer", "trial", "LValueNumberer$Machine;", true)
  | 3 => ("ValueNumberer", "alike", "LValueNumberer$Classes;", true)
  | 4 => ("ValueNumberer", "forms", "LValueNumberer$Forms;", true)
  | 5 => ("ValueNumberer", "sheets", "LValueNumberer$Sheets;", true)
  | 6 => ("ValueNumberer", "images", "[LValueNumberer$Program;", true)
  | 7 => ("ValueNumberer", "kept", "[Z", true)
  | 8 => ("ValueNumberer", "leaders", "[I", true)
  | _ => ("ValueNumberer", "told", "LValueNumberer$Program;", true)
def tyX7 : Nat → FieldType := fun k => match k with
  | 0 => .object "ValueNumberer$Reader"
  | 1 => .object "ValueNumberer$Machine"
  | 2 => .object "ValueNumberer$Machine"
  | 3 => .object "ValueNumberer$Classes"
  | 4 => .object "ValueNumberer$Forms"
  | 5 => .object "ValueNumberer$Sheets"
  | 6 => .array (.object "ValueNumberer$Program")
  | 7 => .array .boolean
  | 8 => .array .int
  | _ => .object "ValueNumberer$Program"
abbrev wsX70 : List Cond := u_ws RX7 TX7 10
theorem nmX7 : ∀ a, a < 10 → ∀ b, b < 10 → a ≠ b → (TX7 a).2.1 ≠ (TX7 b).2.1 := by decide +kernel
theorem tyX7_ok : ∀ k, k < 10 → parseFieldDescriptor (TX7 k).2.2.1 = some (tyX7 k) := by decide +kernel
abbrev cX7_init : ByteArray := prog_1_method_1_code
def yX7_init : MethodName := ⟨RX7, "<init>", "()V"⟩
abbrev cX7_feed : ByteArray := prog_1_method_2_code
def yX7_feed : MethodName := ⟨RX7, "feed", "(I)I"⟩
abbrev cX7_end : ByteArray := prog_1_method_3_code
def yX7_end : MethodName := ⟨RX7, "end", "(I)I"⟩
abbrev cX7_text : ByteArray := prog_1_method_4_code
def yX7_text : MethodName := ⟨RX7, "text", "()I"⟩
abbrev cX7_fault : ByteArray := prog_1_method_5_code
def yX7_fault : MethodName := ⟨RX7, "fault", "()I"⟩
abbrev cX7_rule : ByteArray := prog_1_method_6_code
def yX7_rule : MethodName := ⟨RX7, "rule", "(I)I"⟩
abbrev cX7_block : ByteArray := prog_1_method_7_code
def yX7_block : MethodName := ⟨RX7, "block", "(II)I"⟩
abbrev cX7_pred : ByteArray := prog_1_method_8_code
def yX7_pred : MethodName := ⟨RX7, "pred", "(II)I"⟩
abbrev cX7_name : ByteArray := prog_1_method_9_code
def yX7_name : MethodName := ⟨RX7, "name", "(II)I"⟩
abbrev cX7_operand : ByteArray := prog_1_method_10_code
def yX7_operand : MethodName := ⟨RX7, "operand", "(II)I"⟩
abbrev cX7_seen : ByteArray := prog_1_method_11_code
def yX7_seen : MethodName := ⟨RX7, "seen", "(II)I"⟩
abbrev cX7_run : ByteArray := prog_1_method_12_code
def yX7_run : MethodName := ⟨RX7, "run", "(IIII)J"⟩
abbrev cX7_value : ByteArray := prog_1_method_13_code
def yX7_value : MethodName := ⟨RX7, "value", "(I)J"⟩
abbrev cX7_went : ByteArray := prog_1_method_14_code
def yX7_went : MethodName := ⟨RX7, "went", "(I)I"⟩
abbrev cX7_classes : ByteArray := prog_1_method_15_code
def yX7_classes : MethodName := ⟨RX7, "classes", "(I)I"⟩
abbrev cX7_part : ByteArray := prog_1_method_16_code
def yX7_part : MethodName := ⟨RX7, "part", "(I)I"⟩
abbrev cX7_partAt : ByteArray := prog_1_method_17_code
def yX7_partAt : MethodName := ⟨RX7, "partAt", "(II)I"⟩
abbrev cX7_leader : ByteArray := prog_1_method_18_code
def yX7_leader : MethodName := ⟨RX7, "leader", "(I)I"⟩
abbrev cX7_form : ByteArray := prog_1_method_19_code
def yX7_form : MethodName := ⟨RX7, "form", "(I)I"⟩
abbrev cX7_number : ByteArray := prog_1_method_20_code
def yX7_number : MethodName := ⟨RX7, "number", "(I)J"⟩
abbrev cX7_replace : ByteArray := prog_1_method_21_code
def yX7_replace : MethodName := ⟨RX7, "replace", "()I"⟩
abbrev cX7_sweep : ByteArray := prog_1_method_22_code
def yX7_sweep : MethodName := ⟨RX7, "sweep", "()I"⟩
abbrev cX7_set : ByteArray := prog_1_method_23_code
def yX7_set : MethodName := ⟨RX7, "set", "(III)I"⟩
abbrev cX7_alter : ByteArray := prog_1_method_24_code
def yX7_alter : MethodName := ⟨RX7, "alter", "(II)I"⟩
abbrev cX7_agree : ByteArray := prog_1_method_25_code
def yX7_agree : MethodName := ⟨RX7, "agree", "(IIIII)I"⟩
abbrev cX7_keep : ByteArray := prog_1_method_26_code
def yX7_keep : MethodName := ⟨RX7, "keep", "(I)I"⟩
abbrev cX7_back : ByteArray := prog_1_method_27_code
def yX7_back : MethodName := ⟨RX7, "back", "(I)I"⟩
abbrev cX7_sheet : ByteArray := prog_1_method_28_code
def yX7_sheet : MethodName := ⟨RX7, "sheet", "(III)I"⟩
abbrev cX7_lay : ByteArray := prog_1_method_29_code
def yX7_lay : MethodName := ⟨RX7, "lay", "(III)I"⟩
abbrev cX7_read : ByteArray := prog_1_method_30_code
def yX7_read : MethodName := ⟨RX7, "read", "(IIII)I"⟩
abbrev cX7_torn : ByteArray := prog_1_method_31_code
def yX7_torn : MethodName := ⟨RX7, "torn", "()I"⟩
abbrev cX7_count : ByteArray := prog_1_method_32_code
def yX7_count : MethodName := ⟨RX7, "count", "(I)I"⟩
abbrev cX7_countImages : ByteArray := prog_1_method_33_code
def yX7_countImages : MethodName := ⟨RX7, "countImages", "()I"⟩
abbrev cX7_giveCells : ByteArray := prog_1_method_34_code
def yX7_giveCells : MethodName := ⟨RX7, "giveCells", "(II)V"⟩
abbrev cX7_highestFigure : ByteArray := prog_1_method_35_code
def yX7_highestFigure : MethodName := ⟨RX7, "highestFigure", "(I)I"⟩
abbrev cX7_hasBit : ByteArray := prog_1_method_36_code
def yX7_hasBit : MethodName := ⟨RX7, "hasBit", "(II)Z"⟩
abbrev cX7_bring : ByteArray := prog_1_method_37_code
def yX7_bring : MethodName := ⟨RX7, "bring", "(IJJ)J"⟩
def RX8 : String := "ValueNumbererModel"
def TX8 : u_T := fun k => match k with
  | 0 => ("ValueNumbererModel", "state", "[I", true)
  | 1 => ("ValueNumbererModel", "tape", "[I", true)
  | 2 => ("ValueNumbererModel", "taped", "I", false)
  | 3 => ("ValueNumbererModel", "fault", "I", false)
  | 4 => ("ValueNumbererModel", "broken", "I", false)
  | 5 => ("ValueNumbererModel", "brokenAt", "I", false)
  | 6 => ("ValueNumbererModel", "spot", "I", false)
  | 7 => ("ValueNumbererModel", "here", "I", false)
  | 8 => ("ValueNumbererModel", "token", "I", false)
  | 9 => ("ValueNumbererModel", "value", "I", false)
  | 10 => ("ValueNumbererModel", "ends", "[I", true)
  | 11 => ("ValueNumbererModel", "letters", "[I", true)
  | 12 => ("ValueNumbererModel", "preds", "[I", true)
  | 13 => ("ValueNumbererModel", "predMany", "[I", true)
  | 14 => ("ValueNumbererModel", "over", "[I", true)
  | 15 => ("ValueNumbererModel", "values", "[J", true)
  | 16 => ("ValueNumbererModel", "phis", "[J", true)
  | 17 => ("ValueNumbererModel", "arguments", "[I", true)
  | 18 => ("ValueNumbererModel", "isRun", "Z", false)
  | 19 => ("ValueNumbererModel", "wentBlocks", "I", false)
  | 20 => ("ValueNumbererModel", "wentValues", "I", false)
  | 21 => ("ValueNumbererModel", "isReturned", "Z", false)
  | 22 => ("ValueNumbererModel", "steps", "I", false)
  | 23 => ("ValueNumbererModel", "got", "I", false)
  | 24 => ("ValueNumbererModel", "isOut", "Z", false)
  | 25 => ("ValueNumbererModel", "differs", "I", false)
  | 26 => ("ValueNumbererModel", "parts", "[I", true)
  | 27 => ("ValueNumbererModel", "nextPart", "[I", true)
  | 28 => ("ValueNumbererModel", "formName", "[I", true)
  | 29 => ("ValueNumbererModel", "formNumber", "[J", true)
  | 30 => ("ValueNumbererModel", "leaders", "[I", true)
  | 31 => ("ValueNumbererModel", "isKept", "[Z", true)
  | 32 => ("ValueNumbererModel", "lanes", "[I", true)
  | 33 => ("ValueNumbererModel", "lengths", "[I", true)
  | 34 => ("ValueNumbererModel", "cells", "[I", true)
  | _ => ("ValueNumbererModel", "torn", "I", false)
def tyX8 : Nat → FieldType := fun k => match k with
  | 0 => .array .int
  | 1 => .array .int
  | 2 => .int
  | 3 => .int
  | 4 => .int
  | 5 => .int
  | 6 => .int
  | 7 => .int
  | 8 => .int
  | 9 => .int
  | 10 => .array .int
  | 11 => .array .int
  | 12 => .array .int
  | 13 => .array .int
  | 14 => .array .int
  | 15 => .array .long
  | 16 => .array .long
  | 17 => .array .int
  | 18 => .boolean
  | 19 => .int
  | 20 => .int
  | 21 => .boolean
  | 22 => .int
  | 23 => .int
  | 24 => .boolean
  | 25 => .int
  | 26 => .array .int
  | 27 => .array .int
  | 28 => .array .int
  | 29 => .array .long
  | 30 => .array .int
  | 31 => .array .boolean
  | 32 => .array .int
  | 33 => .array .int
  | 34 => .array .int
  | _ => .int
abbrev wsX80 : List Cond := u_ws RX8 TX8 36
theorem nmX8 : ∀ a, a < 36 → ∀ b, b < 36 → a ≠ b → (TX8 a).2.1 ≠ (TX8 b).2.1 := by decide +kernel
theorem tyX8_ok : ∀ k, k < 36 → parseFieldDescriptor (TX8 k).2.2.1 = some (tyX8 k) := by decide +kernel
abbrev cX8_init : ByteArray := prog_10_method_1_code
def yX8_init : MethodName := ⟨RX8, "<init>", "()V"⟩
abbrev cX8_in : ByteArray := prog_10_method_3_code
def yX8_in : MethodName := ⟨RX8, "in", "(JJJ)Z"⟩
abbrev cX8_feed : ByteArray := prog_10_method_4_code
def yX8_feed : MethodName := ⟨RX8, "feed", "(I)I"⟩
abbrev cX8_end : ByteArray := prog_10_method_5_code
def yX8_end : MethodName := ⟨RX8, "end", "(I)I"⟩
abbrev cX8_byteAt : ByteArray := prog_10_method_6_code
def yX8_byteAt : MethodName := ⟨RX8, "byteAt", "(I)I"⟩
abbrev cX8_fails : ByteArray := prog_10_method_7_code
def yX8_fails : MethodName := ⟨RX8, "fails", "(I)V"⟩
abbrev cX8_nameHere : ByteArray := prog_10_method_8_code
def yX8_nameHere : MethodName := ⟨RX8, "nameHere", "()I"⟩
abbrev cX8_readsOn : ByteArray := prog_10_method_9_code
def yX8_readsOn : MethodName := ⟨RX8, "readsOn", "()V"⟩
abbrev cX8_numberRead : ByteArray := prog_10_method_10_code
def yX8_numberRead : MethodName := ⟨RX8, "numberRead", "(II)I"⟩
abbrev cX8_endsLine : ByteArray := prog_10_method_11_code
def yX8_endsLine : MethodName := ⟨RX8, "endsLine", "()V"⟩
abbrev cX8_operandsOf : ByteArray := prog_10_method_12_code
def yX8_operandsOf : MethodName := ⟨RX8, "operandsOf", "(I)I"⟩
abbrev cX8_readName : ByteArray := prog_10_method_13_code
def yX8_readName : MethodName := ⟨RX8, "readName", "(II)V"⟩
abbrev cX8_readEnd : ByteArray := prog_10_method_14_code
def yX8_readEnd : MethodName := ⟨RX8, "readEnd", "(II)V"⟩
abbrev cX8_readBlock : ByteArray := prog_10_method_15_code
def yX8_readBlock : MethodName := ⟨RX8, "readBlock", "()V"⟩
abbrev cX8_text : ByteArray := prog_10_method_16_code
def yX8_text : MethodName := ⟨RX8, "text", "()I"⟩
abbrev cX8_fault : ByteArray := prog_10_method_17_code
def yX8_fault : MethodName := ⟨RX8, "fault", "()I"⟩
abbrev cX8_copies : ByteArray := prog_10_method_18_code
def yX8_copies : MethodName := ⟨RX8, "copies", "(II)V"⟩
abbrev cX8_comesOn : ByteArray := prog_10_method_19_code
def yX8_comesOn : MethodName := ⟨RX8, "comesOn", "(II)I"⟩
abbrev cX8_shapesOn : ByteArray := prog_10_method_20_code
def yX8_shapesOn : MethodName := ⟨RX8, "shapesOn", "(I)V"⟩
abbrev cX8_isOver : ByteArray := prog_10_method_21_code
def yX8_isOver : MethodName := ⟨RX8, "isOver", "(II)Z"⟩
abbrev cX8_isSeenOn : ByteArray := prog_10_method_22_code
def yX8_isSeenOn : MethodName := ⟨RX8, "isSeenOn", "(III)Z"⟩
abbrev cX8_isSeenAtEnd : ByteArray := prog_10_method_23_code
def yX8_isSeenAtEnd : MethodName := ⟨RX8, "isSeenAtEnd", "(III)Z"⟩
abbrev cX8_isSeenAsOperand : ByteArray := prog_10_method_24_code
def yX8_isSeenAsOperand : MethodName := ⟨RX8, "isSeenAsOperand", "(IIII)Z"⟩
abbrev cX8_isBlockWhole : ByteArray := prog_10_method_25_code
def yX8_isBlockWhole : MethodName := ⟨RX8, "isBlockWhole", "(I)Z"⟩
abbrev cX8_isNameWhole : ByteArray := prog_10_method_26_code
def yX8_isNameWhole : MethodName := ⟨RX8, "isNameWhole", "(I)Z"⟩
abbrev cX8_isWhole : ByteArray := prog_10_method_27_code
def yX8_isWhole : MethodName := ⟨RX8, "isWhole", "()Z"⟩
abbrev cX8_isBlock : ByteArray := prog_10_method_28_code
def yX8_isBlock : MethodName := ⟨RX8, "isBlock", "(I)Z"⟩
abbrev cX8_isName : ByteArray := prog_10_method_29_code
def yX8_isName : MethodName := ⟨RX8, "isName", "(I)Z"⟩
abbrev cX8_ofKind : ByteArray := prog_10_method_30_code
def yX8_ofKind : MethodName := ⟨RX8, "ofKind", "(I)I"⟩
abbrev cX8_uses : ByteArray := prog_10_method_31_code
def yX8_uses : MethodName := ⟨RX8, "uses", "(IZ)I"⟩
abbrev cX8_rule : ByteArray := prog_10_method_32_code
def yX8_rule : MethodName := ⟨RX8, "rule", "(I)I"⟩
abbrev cX8_nearest : ByteArray := prog_10_method_33_code
def yX8_nearest : MethodName := ⟨RX8, "nearest", "(I)I"⟩
abbrev cX8_block : ByteArray := prog_10_method_34_code
def yX8_block : MethodName := ⟨RX8, "block", "(II)I"⟩
abbrev cX8_pred : ByteArray := prog_10_method_35_code
def yX8_pred : MethodName := ⟨RX8, "pred", "(II)I"⟩
abbrev cX8_name : ByteArray := prog_10_method_36_code
def yX8_name : MethodName := ⟨RX8, "name", "(II)I"⟩
abbrev cX8_isOperand : ByteArray := prog_10_method_37_code
def yX8_isOperand : MethodName := ⟨RX8, "isOperand", "(II)Z"⟩
abbrev cX8_operand : ByteArray := prog_10_method_38_code
def yX8_operand : MethodName := ⟨RX8, "operand", "(II)I"⟩
abbrev cX8_seen : ByteArray := prog_10_method_39_code
def yX8_seen : MethodName := ⟨RX8, "seen", "(II)I"⟩
abbrev cX8_brings : ByteArray := prog_10_method_40_code
def yX8_brings : MethodName := ⟨RX8, "brings", "(IJJ)J"⟩
abbrev cX8_valueOf : ByteArray := prog_10_method_41_code
def yX8_valueOf : MethodName := ⟨RX8, "valueOf", "(II)J"⟩
abbrev cX8_compares : ByteArray := prog_10_method_42_code
def yX8_compares : MethodName := ⟨RX8, "compares", "(III)V"⟩
abbrev cX8_goesThrough : ByteArray := prog_10_method_43_code
def yX8_goesThrough : MethodName := ⟨RX8, "goesThrough", "(IIIII)V"⟩
abbrev cX8_goes : ByteArray := prog_10_method_44_code
def yX8_goes : MethodName := ⟨RX8, "goes", "(III)J"⟩
abbrev cX8_runsNow : ByteArray := prog_10_method_45_code
def yX8_runsNow : MethodName := ⟨RX8, "runsNow", "()J"⟩
abbrev cX8_run : ByteArray := prog_10_method_46_code
def yX8_run : MethodName := ⟨RX8, "run", "(IIII)J"⟩
abbrev cX8_value : ByteArray := prog_10_method_47_code
def yX8_value : MethodName := ⟨RX8, "value", "(I)J"⟩
abbrev cX8_went : ByteArray := prog_10_method_48_code
def yX8_went : MethodName := ⟨RX8, "went", "(I)I"⟩
abbrev cX8_isAlikeFirst : ByteArray := prog_10_method_49_code
def yX8_isAlikeFirst : MethodName := ⟨RX8, "isAlikeFirst", "(II)Z"⟩
abbrev cX8_isAlikeNext : ByteArray := prog_10_method_50_code
def yX8_isAlikeNext : MethodName := ⟨RX8, "isAlikeNext", "(II)Z"⟩
abbrev cX8_splits : ByteArray := prog_10_method_51_code
def yX8_splits : MethodName := ⟨RX8, "splits", "()Z"⟩
abbrev cX8_rounds : ByteArray := prog_10_method_52_code
def yX8_rounds : MethodName := ⟨RX8, "rounds", "(I)I"⟩
abbrev cX8_classes : ByteArray := prog_10_method_53_code
def yX8_classes : MethodName := ⟨RX8, "classes", "(I)I"⟩
abbrev cX8_part : ByteArray := prog_10_method_54_code
def yX8_part : MethodName := ⟨RX8, "part", "(I)I"⟩
abbrev cX8_partAt : ByteArray := prog_10_method_55_code
def yX8_partAt : MethodName := ⟨RX8, "partAt", "(II)I"⟩
abbrev cX8_isAmong : ByteArray := prog_10_method_56_code
def yX8_isAmong : MethodName := ⟨RX8, "isAmong", "(II)Z"⟩
abbrev cX8_leaderOf : ByteArray := prog_10_method_57_code
def yX8_leaderOf : MethodName := ⟨RX8, "leaderOf", "(I)I"⟩
abbrev cX8_leader : ByteArray := prog_10_method_58_code
def yX8_leader : MethodName := ⟨RX8, "leader", "(I)I"⟩
abbrev cX8_isSameForm : ByteArray := prog_10_method_59_code
def yX8_isSameForm : MethodName := ⟨RX8, "isSameForm", "(II)Z"⟩
abbrev cX8_isNumber : ByteArray := prog_10_method_60_code
def yX8_isNumber : MethodName := ⟨RX8, "isNumber", "(IJ)Z"⟩
abbrev cX8_becomes : ByteArray := prog_10_method_61_code
def yX8_becomes : MethodName := ⟨RX8, "becomes", "(IIJ)V"⟩
abbrev cX8_becomesAs : ByteArray := prog_10_method_62_code
def yX8_becomesAs : MethodName := ⟨RX8, "becomesAs", "(II)V"⟩
abbrev cX8_operandOf : ByteArray := prog_10_method_63_code
def yX8_operandOf : MethodName := ⟨RX8, "operandOf", "(II)I"⟩
abbrev cX8_isBehindAll : ByteArray := prog_10_method_64_code
def yX8_isBehindAll : MethodName := ⟨RX8, "isBehindAll", "(I)Z"⟩
abbrev cX8_isOfOne : ByteArray := prog_10_method_65_code
def yX8_isOfOne : MethodName := ⟨RX8, "isOfOne", "(I)Z"⟩
abbrev cX8_isFormAs : ByteArray := prog_10_method_66_code
def yX8_isFormAs : MethodName := ⟨RX8, "isFormAs", "(II)Z"⟩
abbrev cX8_becomesFirst : ByteArray := prog_10_method_67_code
def yX8_becomesFirst : MethodName := ⟨RX8, "becomesFirst", "(I)V"⟩
abbrev cX8_formsNegative : ByteArray := prog_10_method_68_code
def yX8_formsNegative : MethodName := ⟨RX8, "formsNegative", "(I)V"⟩
abbrev cX8_formsPair : ByteArray := prog_10_method_69_code
def yX8_formsPair : MethodName := ⟨RX8, "formsPair", "(I)V"⟩
abbrev cX8_forms : ByteArray := prog_10_method_70_code
def yX8_forms : MethodName := ⟨RX8, "forms", "()V"⟩
abbrev cX8_form : ByteArray := prog_10_method_71_code
def yX8_form : MethodName := ⟨RX8, "form", "(I)I"⟩
abbrev cX8_number : ByteArray := prog_10_method_72_code
def yX8_number : MethodName := ⟨RX8, "number", "(I)J"⟩
abbrev cX8_replace : ByteArray := prog_10_method_73_code
def yX8_replace : MethodName := ⟨RX8, "replace", "()I"⟩
abbrev cX8_sweep : ByteArray := prog_10_method_74_code
def yX8_sweep : MethodName := ⟨RX8, "sweep", "()I"⟩
abbrev cX8_set : ByteArray := prog_10_method_75_code
def yX8_set : MethodName := ⟨RX8, "set", "(III)I"⟩
abbrev cX8_alter : ByteArray := prog_10_method_76_code
def yX8_alter : MethodName := ⟨RX8, "alter", "(II)I"⟩
abbrev cX8_agree : ByteArray := prog_10_method_77_code
def yX8_agree : MethodName := ⟨RX8, "agree", "(IIIII)I"⟩
abbrev cX8_keep : ByteArray := prog_10_method_78_code
def yX8_keep : MethodName := ⟨RX8, "keep", "(I)I"⟩
abbrev cX8_back : ByteArray := prog_10_method_79_code
def yX8_back : MethodName := ⟨RX8, "back", "(I)I"⟩
abbrev cX8_sheet : ByteArray := prog_10_method_80_code
def yX8_sheet : MethodName := ⟨RX8, "sheet", "(III)I"⟩
abbrev cX8_lay : ByteArray := prog_10_method_81_code
def yX8_lay : MethodName := ⟨RX8, "lay", "(III)I"⟩
abbrev cX8_foundAt : ByteArray := prog_10_method_82_code
def yX8_foundAt : MethodName := ⟨RX8, "foundAt", "(IIJ)I"⟩
abbrev cX8_read : ByteArray := prog_10_method_83_code
def yX8_read : MethodName := ⟨RX8, "read", "(IIII)I"⟩
abbrev cX8_torn : ByteArray := prog_10_method_84_code
def yX8_torn : MethodName := ⟨RX8, "torn", "()I"⟩
abbrev cX8_count : ByteArray := prog_10_method_85_code
def yX8_count : MethodName := ⟨RX8, "count", "(I)I"⟩
def RJ6 : String := "java/lang/Integer"
def TJ6 : u_T := fun k => match k with
  | _ => ("", "", "", false)
def tyJ6 : Nat → FieldType := fun k => match k with
  | _ => .int
abbrev wsJ60 : List Cond := u_ws RJ6 TJ6 0
theorem nmJ6 : ∀ a, a < 0 → ∀ b, b < 0 → a ≠ b → (TJ6 a).2.1 ≠ (TJ6 b).2.1 := by decide +kernel
theorem tyJ6_ok : ∀ k, k < 0 → parseFieldDescriptor (TJ6 k).2.2.1 = some (tyJ6 k) := by decide +kernel
abbrev cJ6_bitCount_0f7a4 : ByteArray := prog_11_method_49_code
def yJ6_bitCount_0f7a4 : MethodName := ⟨RJ6, "bitCount", "(I)I"⟩
def RJ9 : String := "java/lang/Math"
def TJ9 : u_T := fun k => match k with
  | _ => ("", "", "", false)
def tyJ9 : Nat → FieldType := fun k => match k with
  | _ => .int
abbrev wsJ90 : List Cond := u_ws RJ9 TJ9 0
theorem nmJ9 : ∀ a, a < 0 → ∀ b, b < 0 → a ≠ b → (TJ9 a).2.1 ≠ (TJ9 b).2.1 := by decide +kernel
theorem tyJ9_ok : ∀ k, k < 0 → parseFieldDescriptor (TJ9 k).2.2.1 = some (tyJ9 k) := by decide +kernel
abbrev cJ9_max_7cf53 : ByteArray := prog_12_method_65_code
def yJ9_max_7cf53 : MethodName := ⟨RJ9, "max", "(II)I"⟩
def RJ0 : String := "java/lang/String"
def TJ0 : u_T := fun k => match k with
  | _ => ("", "", "", false)
def tyJ0 : Nat → FieldType := fun k => match k with
  | _ => .int
abbrev wsJ00 : List Cond := u_ws RJ0 TJ0 0
theorem nmJ0 : ∀ a, a < 0 → ∀ b, b < 0 → a ≠ b → (TJ0 a).2.1 ≠ (TJ0 b).2.1 := by decide +kernel
theorem tyJ0_ok : ∀ k, k < 0 → parseFieldDescriptor (TJ0 k).2.2.1 = some (tyJ0 k) := by decide +kernel
abbrev cJ0_length_8abf5 : ByteArray := prog_13_method_54_code
def yJ0_length_8abf5 : MethodName := ⟨RJ0, "length", "()I"⟩
abbrev cJ0_charAt_5068e : ByteArray := prog_13_method_56_code
def yJ0_charAt_5068e : MethodName := ⟨RJ0, "charAt", "(I)C"⟩
abbrev cJ0_coder_7d493 : ByteArray := prog_13_method_152_code
def yJ0_coder_7d493 : MethodName := ⟨RJ0, "coder", "()B"⟩
abbrev cJ0_isLatin1_aae02 : ByteArray := prog_13_method_154_code
def yJ0_isLatin1_aae02 : MethodName := ⟨RJ0, "isLatin1", "()Z"⟩
abbrev cJ0_checkIndex_df160 : ByteArray := prog_13_method_155_code
def yJ0_checkIndex_df160 : MethodName := ⟨RJ0, "checkIndex", "(II)V"⟩
def RJ1 : String := "java/lang/StringLatin1"
def TJ1 : u_T := fun k => match k with
  | _ => ("", "", "", false)
def tyJ1 : Nat → FieldType := fun k => match k with
  | _ => .int
abbrev wsJ10 : List Cond := u_ws RJ1 TJ1 0
theorem nmJ1 : ∀ a, a < 0 → ∀ b, b < 0 → a ≠ b → (TJ1 a).2.1 ≠ (TJ1 b).2.1 := by decide +kernel
theorem tyJ1_ok : ∀ k, k < 0 → parseFieldDescriptor (TJ1 k).2.2.1 = some (tyJ1 k) := by decide +kernel
abbrev cJ1_charAt_3b067 : ByteArray := prog_14_method_2_code
def yJ1_charAt_3b067 : MethodName := ⟨RJ1, "charAt", "([BI)C"⟩
def RJ2 : String := "java/lang/StringUTF16"
def TJ2 : u_T := fun k => match k with
  | _ => ("", "", "", false)
def tyJ2 : Nat → FieldType := fun k => match k with
  | _ => .int
abbrev wsJ20 : List Cond := u_ws RJ2 TJ2 0
theorem nmJ2 : ∀ a, a < 0 → ∀ b, b < 0 → a ≠ b → (TJ2 a).2.1 ≠ (TJ2 b).2.1 := by decide +kernel
theorem tyJ2_ok : ∀ k, k < 0 → parseFieldDescriptor (TJ2 k).2.2.1 = some (tyJ2 k) := by decide +kernel
abbrev cJ2_getChar_3b067 : ByteArray := prog_15_method_5_code
def yJ2_getChar_3b067 : MethodName := ⟨RJ2, "getChar", "([BI)C"⟩
abbrev cJ2_length_9d52b : ByteArray := prog_15_method_6_code
def yJ2_length_9d52b : MethodName := ⟨RJ2, "length", "([B)I"⟩
abbrev cJ2_charAt_3b067 : ByteArray := prog_15_method_83_code
def yJ2_charAt_3b067 : MethodName := ⟨RJ2, "charAt", "([BI)C"⟩
abbrev cJ2_checkIndex_2214a : ByteArray := prog_15_method_91_code
def yJ2_checkIndex_2214a : MethodName := ⟨RJ2, "checkIndex", "(I[B)V"⟩
def RJ10 : String := "java/lang/System"
def TJ10 : u_T := fun k => match k with
  | _ => ("", "", "", false)
def tyJ10 : Nat → FieldType := fun k => match k with
  | _ => .int
abbrev wsJ100 : List Cond := u_ws RJ10 TJ10 0
theorem nmJ10 : ∀ a, a < 0 → ∀ b, b < 0 → a ≠ b → (TJ10 a).2.1 ≠ (TJ10 b).2.1 := by decide +kernel
theorem tyJ10_ok : ∀ k, k < 0 → parseFieldDescriptor (TJ10 k).2.2.1 = some (tyJ10 k) := by decide +kernel
def RJ3 : String := "jdk/internal/util/Preconditions"
def TJ3 : u_T := fun k => match k with
  | _ => ("", "", "", false)
def tyJ3 : Nat → FieldType := fun k => match k with
  | _ => .int
abbrev wsJ30 : List Cond := u_ws RJ3 TJ3 0
theorem nmJ3 : ∀ a, a < 0 → ∀ b, b < 0 → a ≠ b → (TJ3 a).2.1 ≠ (TJ3 b).2.1 := by decide +kernel
theorem tyJ3_ok : ∀ k, k < 0 → parseFieldDescriptor (TJ3 k).2.2.1 = some (tyJ3 k) := by decide +kernel
abbrev cJ3_checkIndex_8e157 : ByteArray := prog_17_method_11_code
def yJ3_checkIndex_8e157 : MethodName := ⟨RJ3, "checkIndex", "(IILjava/util/function/BiFunction;)I"⟩
def RL : String := "ValueNumbererLaw"
abbrev cL_law : ByteArray := code
def yL_law : MethodName := ⟨RL, "law", "([I)Z"⟩
abbrev vwCl : List vw_C := [(RX0, TX0, 3), (RX1, TX1, 1), (RX2, TX2, 10), (RX3, TX3, 17), (RX4, TX4, 12), (RX5, TX5, 4), (RX6, TX6, 2), (RX7, TX7, 10), (RX8, TX8, 36)]
