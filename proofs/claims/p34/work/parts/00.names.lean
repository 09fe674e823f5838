/-- a private method of a class that the tables say can be made, by its rows of tables_1 -/
def lw_okq (q : MethodName × Nat) : Prop := (q.1.cls ≠ "java/lang/invoke/MethodHandle" ∧ q.1.cls ≠ "java/lang/invoke/VarHandle") ∧ Cond.instantiable q.1.cls q.2 ∈ tables_1 ∧ Cond.privateMethod q.1 ∈ tables_1 ∧ Cond.instanceMethod q.1 ∈ tables_1
theorem lw_p0 : lw_okq (⟨"ValueNumberer$Machine", "pass", "(LValueNumberer$Program;II)V"⟩, 10) := ⟨⟨by decide +kernel, by decide +kernel⟩, List.mem_of_getElem? (i := 178) (by decide +kernel), List.mem_of_getElem? (i := 368) (by decide +kernel), List.mem_of_getElem? (i := 369) (by decide +kernel)⟩
theorem lw_p1 : lw_okq (⟨"ValueNumberer$Machine", "passPhis", "(LValueNumberer$Program;III)V"⟩, 10) := ⟨⟨by decide +kernel, by decide +kernel⟩, List.mem_of_getElem? (i := 178) (by decide +kernel), List.mem_of_getElem? (i := 376) (by decide +kernel), List.mem_of_getElem? (i := 377) (by decide +kernel)⟩
theorem lw_p2 : lw_okq (⟨"ValueNumberer$Machine", "compare", "()V"⟩, 10) := ⟨⟨by decide +kernel, by decide +kernel⟩, List.mem_of_getElem? (i := 178) (by decide +kernel), List.mem_of_getElem? (i := 380) (by decide +kernel), List.mem_of_getElem? (i := 381) (by decide +kernel)⟩
theorem lw_p3 : lw_okq (⟨"ValueNumberer$Machine", "bringOf", "(LValueNumberer$Program;I)J"⟩, 10) := ⟨⟨by decide +kernel, by decide +kernel⟩, List.mem_of_getElem? (i := 178) (by decide +kernel), List.mem_of_getElem? (i := 384) (by decide +kernel), List.mem_of_getElem? (i := 385) (by decide +kernel)⟩
theorem lw_p4 : lw_okq (⟨"ValueNumberer$Machine", "nextBlock", "(LValueNumberer$Program;I)I"⟩, 10) := ⟨⟨by decide +kernel, by decide +kernel⟩, List.mem_of_getElem? (i := 178) (by decide +kernel), List.mem_of_getElem? (i := 393) (by decide +kernel), List.mem_of_getElem? (i := 394) (by decide +kernel)⟩
theorem lw_p5 : lw_okq (⟨"ValueNumberer$Classes", "firstAtStart", "(LValueNumberer$Program;I)I"⟩, 3) := ⟨⟨by decide +kernel, by decide +kernel⟩, List.mem_of_getElem? (i := 222) (by decide +kernel), List.mem_of_getElem? (i := 415) (by decide +kernel), List.mem_of_getElem? (i := 416) (by decide +kernel)⟩
theorem lw_p6 : lw_okq (⟨"ValueNumberer$Classes", "isHopeful", "(LValueNumberer$Program;II)Z"⟩, 3) := ⟨⟨by decide +kernel, by decide +kernel⟩, List.mem_of_getElem? (i := 222) (by decide +kernel), List.mem_of_getElem? (i := 419) (by decide +kernel), List.mem_of_getElem? (i := 420) (by decide +kernel)⟩
theorem lw_p7 : lw_okq (⟨"ValueNumberer$Classes", "splitOnce", "(LValueNumberer$Program;)Z"⟩, 3) := ⟨⟨by decide +kernel, by decide +kernel⟩, List.mem_of_getElem? (i := 222) (by decide +kernel), List.mem_of_getElem? (i := 424) (by decide +kernel), List.mem_of_getElem? (i := 425) (by decide +kernel)⟩
theorem lw_p8 : lw_okq (⟨"ValueNumberer$Classes", "areOperandsAlike", "(LValueNumberer$Program;II)Z"⟩, 3) := ⟨⟨by decide +kernel, by decide +kernel⟩, List.mem_of_getElem? (i := 222) (by decide +kernel), List.mem_of_getElem? (i := 428) (by decide +kernel), List.mem_of_getElem? (i := 429) (by decide +kernel)⟩
theorem lw_p9 : lw_okq (⟨"ValueNumberer$Classes", "isAlike", "(LValueNumberer$Program;IIII)Z"⟩, 3) := ⟨⟨by decide +kernel, by decide +kernel⟩, List.mem_of_getElem? (i := 222) (by decide +kernel), List.mem_of_getElem? (i := 432) (by decide +kernel), List.mem_of_getElem? (i := 433) (by decide +kernel)⟩
theorem lw_p10 : lw_okq (⟨"ValueNumberer$Classes", "sizeOf", "(LValueNumberer$Program;I)I"⟩, 3) := ⟨⟨by decide +kernel, by decide +kernel⟩, List.mem_of_getElem? (i := 222) (by decide +kernel), List.mem_of_getElem? (i := 447) (by decide +kernel), List.mem_of_getElem? (i := 448) (by decide +kernel)⟩
theorem lw_p11 : lw_okq (⟨"ValueNumberer$Forms", "codeOf", "(LValueNumberer$Program;I)J"⟩, 1) := ⟨⟨by decide +kernel, by decide +kernel⟩, List.mem_of_getElem? (i := 240) (by decide +kernel), List.mem_of_getElem? (i := 481) (by decide +kernel), List.mem_of_getElem? (i := 482) (by decide +kernel)⟩
theorem lw_p12 : lw_okq (⟨"ValueNumberer$Forms", "earlier", "(LValueNumberer$Program;I)J"⟩, 1) := ⟨⟨by decide +kernel, by decide +kernel⟩, List.mem_of_getElem? (i := 240) (by decide +kernel), List.mem_of_getElem? (i := 486) (by decide +kernel), List.mem_of_getElem? (i := 487) (by decide +kernel)⟩
theorem lw_p13 : lw_okq (⟨"ValueNumberer$Forms", "isSame", "(LValueNumberer$Program;II)Z"⟩, 1) := ⟨⟨by decide +kernel, by decide +kernel⟩, List.mem_of_getElem? (i := 240) (by decide +kernel), List.mem_of_getElem? (i := 497) (by decide +kernel), List.mem_of_getElem? (i := 498) (by decide +kernel)⟩
theorem lw_p14 : lw_okq (⟨"ValueNumberer$Forms", "isSameOperand", "(LValueNumberer$Program;IIII)Z"⟩, 1) := ⟨⟨by decide +kernel, by decide +kernel⟩, List.mem_of_getElem? (i := 240) (by decide +kernel), List.mem_of_getElem? (i := 505) (by decide +kernel), List.mem_of_getElem? (i := 506) (by decide +kernel)⟩
theorem lw_p15 : lw_okq (⟨"ValueNumberer$Forms", "codeOfNeg", "(LValueNumberer$Program;I)J"⟩, 1) := ⟨⟨by decide +kernel, by decide +kernel⟩, List.mem_of_getElem? (i := 240) (by decide +kernel), List.mem_of_getElem? (i := 509) (by decide +kernel), List.mem_of_getElem? (i := 510) (by decide +kernel)⟩
def lw_privs_1 : List (MethodName × Nat) := [(⟨"ValueNumberer$Machine", "pass", "(LValueNumberer$Program;II)V"⟩, 10), (⟨"ValueNumberer$Machine", "passPhis", "(LValueNumberer$Program;III)V"⟩, 10), (⟨"ValueNumberer$Machine", "compare", "()V"⟩, 10), (⟨"ValueNumberer$Machine", "bringOf", "(LValueNumberer$Program;I)J"⟩, 10), (⟨"ValueNumberer$Machine", "nextBlock", "(LValueNumberer$Program;I)I"⟩, 10), (⟨"ValueNumberer$Classes", "firstAtStart", "(LValueNumberer$Program;I)I"⟩, 3), (⟨"ValueNumberer$Classes", "isHopeful", "(LValueNumberer$Program;II)Z"⟩, 3), (⟨"ValueNumberer$Classes", "splitOnce", "(LValueNumberer$Program;)Z"⟩, 3), (⟨"ValueNumberer$Classes", "areOperandsAlike", "(LValueNumberer$Program;II)Z"⟩, 3), (⟨"ValueNumberer$Classes", "isAlike", "(LValueNumberer$Program;IIII)Z"⟩, 3), (⟨"ValueNumberer$Classes", "sizeOf", "(LValueNumberer$Program;I)I"⟩, 3), (⟨"ValueNumberer$Forms", "codeOf", "(LValueNumberer$Program;I)J"⟩, 1), (⟨"ValueNumberer$Forms", "earlier", "(LValueNumberer$Program;I)J"⟩, 1), (⟨"ValueNumberer$Forms", "isSame", "(LValueNumberer$Program;II)Z"⟩, 1), (⟨"ValueNumberer$Forms", "isSameOperand", "(LValueNumberer$Program;IIII)Z"⟩, 1), (⟨"ValueNumberer$Forms", "codeOfNeg", "(LValueNumberer$Program;I)J"⟩, 1)]
theorem lw_r1 : ∀ q ∈ lw_privs_1, lw_okq q := List.forall_mem_cons.mpr ⟨lw_p0, List.forall_mem_cons.mpr ⟨lw_p1, List.forall_mem_cons.mpr ⟨lw_p2, List.forall_mem_cons.mpr ⟨lw_p3, List.forall_mem_cons.mpr ⟨lw_p4, List.forall_mem_cons.mpr ⟨lw_p5, List.forall_mem_cons.mpr ⟨lw_p6, List.forall_mem_cons.mpr ⟨lw_p7, List.forall_mem_cons.mpr ⟨lw_p8, List.forall_mem_cons.mpr ⟨lw_p9, List.forall_mem_cons.mpr ⟨lw_p10, List.forall_mem_cons.mpr ⟨lw_p11, List.forall_mem_cons.mpr ⟨lw_p12, List.forall_mem_cons.mpr ⟨lw_p13, List.forall_mem_cons.mpr ⟨lw_p14, List.forall_mem_cons.mpr ⟨lw_p15, fun _ h => absurd h List.not_mem_nil⟩⟩⟩⟩⟩⟩⟩⟩⟩⟩⟩⟩⟩⟩⟩⟩
theorem lw_p16 : lw_okq (⟨"ValueNumberer$Forms", "codeOfPhi", "(LValueNumberer$Program;I)J"⟩, 1) := ⟨⟨by decide +kernel, by decide +kernel⟩, List.mem_of_getElem? (i := 240) (by decide +kernel), List.mem_of_getElem? (i := 514) (by decide +kernel), List.mem_of_getElem? (i := 515) (by decide +kernel)⟩
theorem lw_p17 : lw_okq (⟨"ValueNumberer$Forms", "codeOfPair", "(LValueNumberer$Program;I)J"⟩, 1) := ⟨⟨by decide +kernel, by decide +kernel⟩, List.mem_of_getElem? (i := 240) (by decide +kernel), List.mem_of_getElem? (i := 518) (by decide +kernel), List.mem_of_getElem? (i := 519) (by decide +kernel)⟩
theorem lw_p18 : lw_okq (⟨"ValueNumberer$Reader", "scan", "()V"⟩, 12) := ⟨⟨by decide +kernel, by decide +kernel⟩, List.mem_of_getElem? (i := 24) (by decide +kernel), List.mem_of_getElem? (i := 678) (by decide +kernel), List.mem_of_getElem? (i := 679) (by decide +kernel)⟩
theorem lw_p19 : lw_okq (⟨"ValueNumberer$Reader", "skip", "(II)V"⟩, 12) := ⟨⟨by decide +kernel, by decide +kernel⟩, List.mem_of_getElem? (i := 24) (by decide +kernel), List.mem_of_getElem? (i := 682) (by decide +kernel), List.mem_of_getElem? (i := 683) (by decide +kernel)⟩
theorem lw_p20 : lw_okq (⟨"ValueNumberer$Reader", "scanToken", "(I)I"⟩, 12) := ⟨⟨by decide +kernel, by decide +kernel⟩, List.mem_of_getElem? (i := 24) (by decide +kernel), List.mem_of_getElem? (i := 690) (by decide +kernel), List.mem_of_getElem? (i := 691) (by decide +kernel)⟩
theorem lw_p21 : lw_okq (⟨"ValueNumberer$Reader", "wordFrom", "(I)I"⟩, 12) := ⟨⟨by decide +kernel, by decide +kernel⟩, List.mem_of_getElem? (i := 24) (by decide +kernel), List.mem_of_getElem? (i := 694) (by decide +kernel), List.mem_of_getElem? (i := 695) (by decide +kernel)⟩
theorem lw_p22 : lw_okq (⟨"ValueNumberer$Reader", "isWord", "(ILjava/lang/String;)Z"⟩, 12) := ⟨⟨by decide +kernel, by decide +kernel⟩, List.mem_of_getElem? (i := 24) (by decide +kernel), List.mem_of_getElem? (i := 699) (by decide +kernel), List.mem_of_getElem? (i := 700) (by decide +kernel)⟩
theorem lw_p23 : lw_okq (⟨"ValueNumberer$Reader", "figureFrom", "(I)I"⟩, 12) := ⟨⟨by decide +kernel, by decide +kernel⟩, List.mem_of_getElem? (i := 24) (by decide +kernel), List.mem_of_getElem? (i := 762) (by decide +kernel), List.mem_of_getElem? (i := 763) (by decide +kernel)⟩
theorem lw_p24 : lw_okq (⟨"ValueNumberer$Reader", "readLine", "()Z"⟩, 12) := ⟨⟨by decide +kernel, by decide +kernel⟩, List.mem_of_getElem? (i := 24) (by decide +kernel), List.mem_of_getElem? (i := 770) (by decide +kernel), List.mem_of_getElem? (i := 771) (by decide +kernel)⟩
theorem lw_p25 : lw_okq (⟨"ValueNumberer$Reader", "readHead", "()Z"⟩, 12) := ⟨⟨by decide +kernel, by decide +kernel⟩, List.mem_of_getElem? (i := 24) (by decide +kernel), List.mem_of_getElem? (i := 774) (by decide +kernel), List.mem_of_getElem? (i := 775) (by decide +kernel)⟩
theorem lw_p26 : lw_okq (⟨"ValueNumberer$Reader", "refuse", "(I)Z"⟩, 12) := ⟨⟨by decide +kernel, by decide +kernel⟩, List.mem_of_getElem? (i := 24) (by decide +kernel), List.mem_of_getElem? (i := 778) (by decide +kernel), List.mem_of_getElem? (i := 779) (by decide +kernel)⟩
theorem lw_p27 : lw_okq (⟨"ValueNumberer$Reader", "takeSemicolon", "()Z"⟩, 12) := ⟨⟨by decide +kernel, by decide +kernel⟩, List.mem_of_getElem? (i := 24) (by decide +kernel), List.mem_of_getElem? (i := 786) (by decide +kernel), List.mem_of_getElem? (i := 787) (by decide +kernel)⟩
theorem lw_p28 : lw_okq (⟨"ValueNumberer$Reader", "readName", "()Z"⟩, 12) := ⟨⟨by decide +kernel, by decide +kernel⟩, List.mem_of_getElem? (i := 24) (by decide +kernel), List.mem_of_getElem? (i := 790) (by decide +kernel), List.mem_of_getElem? (i := 791) (by decide +kernel)⟩
theorem lw_p29 : lw_okq (⟨"ValueNumberer$Reader", "readFigure", "(I)Z"⟩, 12) := ⟨⟨by decide +kernel, by decide +kernel⟩, List.mem_of_getElem? (i := 24) (by decide +kernel), List.mem_of_getElem? (i := 798) (by decide +kernel), List.mem_of_getElem? (i := 799) (by decide +kernel)⟩
theorem lw_p30 : lw_okq (⟨"ValueNumberer$Reader", "takeNumber", "(II)Z"⟩, 12) := ⟨⟨by decide +kernel, by decide +kernel⟩, List.mem_of_getElem? (i := 24) (by decide +kernel), List.mem_of_getElem? (i := 803) (by decide +kernel), List.mem_of_getElem? (i := 804) (by decide +kernel)⟩
theorem lw_p31 : lw_okq (⟨"ValueNumberer$Reader", "readOperands", "(I)Z"⟩, 12) := ⟨⟨by decide +kernel, by decide +kernel⟩, List.mem_of_getElem? (i := 24) (by decide +kernel), List.mem_of_getElem? (i := 811) (by decide +kernel), List.mem_of_getElem? (i := 812) (by decide +kernel)⟩
def lw_privs_2 : List (MethodName × Nat) := [(⟨"ValueNumberer$Forms", "codeOfPhi", "(LValueNumberer$Program;I)J"⟩, 1), (⟨"ValueNumberer$Forms", "codeOfPair", "(LValueNumberer$Program;I)J"⟩, 1), (⟨"ValueNumberer$Reader", "scan", "()V"⟩, 12), (⟨"ValueNumberer$Reader", "skip", "(II)V"⟩, 12), (⟨"ValueNumberer$Reader", "scanToken", "(I)I"⟩, 12), (⟨"ValueNumberer$Reader", "wordFrom", "(I)I"⟩, 12), (⟨"ValueNumberer$Reader", "isWord", "(ILjava/lang/String;)Z"⟩, 12), (⟨"ValueNumberer$Reader", "figureFrom", "(I)I"⟩, 12), (⟨"ValueNumberer$Reader", "readLine", "()Z"⟩, 12), (⟨"ValueNumberer$Reader", "readHead", "()Z"⟩, 12), (⟨"ValueNumberer$Reader", "refuse", "(I)Z"⟩, 12), (⟨"ValueNumberer$Reader", "takeSemicolon", "()Z"⟩, 12), (⟨"ValueNumberer$Reader", "readName", "()Z"⟩, 12), (⟨"ValueNumberer$Reader", "readFigure", "(I)Z"⟩, 12), (⟨"ValueNumberer$Reader", "takeNumber", "(II)Z"⟩, 12), (⟨"ValueNumberer$Reader", "readOperands", "(I)Z"⟩, 12)]
theorem lw_r2 : ∀ q ∈ lw_privs_2, lw_okq q := List.forall_mem_cons.mpr ⟨lw_p16, List.forall_mem_cons.mpr ⟨lw_p17, List.forall_mem_cons.mpr ⟨lw_p18, List.forall_mem_cons.mpr ⟨lw_p19, List.forall_mem_cons.mpr ⟨lw_p20, List.forall_mem_cons.mpr ⟨lw_p21, List.forall_mem_cons.mpr ⟨lw_p22, List.forall_mem_cons.mpr ⟨lw_p23, List.forall_mem_cons.mpr ⟨lw_p24, List.forall_mem_cons.mpr ⟨lw_p25, List.forall_mem_cons.mpr ⟨lw_p26, List.forall_mem_cons.mpr ⟨lw_p27, List.forall_mem_cons.mpr ⟨lw_p28, List.forall_mem_cons.mpr ⟨lw_p29, List.forall_mem_cons.mpr ⟨lw_p30, List.forall_mem_cons.mpr ⟨lw_p31, fun _ h => absurd h List.not_mem_nil⟩⟩⟩⟩⟩⟩⟩⟩⟩⟩⟩⟩⟩⟩⟩⟩
theorem lw_p32 : lw_okq (⟨"ValueNumberer$Reader", "readEnd", "()Z"⟩, 12) := ⟨⟨by decide +kernel, by decide +kernel⟩, List.mem_of_getElem? (i := 24) (by decide +kernel), List.mem_of_getElem? (i := 819) (by decide +kernel), List.mem_of_getElem? (i := 820) (by decide +kernel)⟩
def lw_privs_3 : List (MethodName × Nat) := [(⟨"ValueNumberer$Reader", "readEnd", "()Z"⟩, 12)]
theorem lw_r3 : ∀ q ∈ lw_privs_3, lw_okq q := List.forall_mem_cons.mpr ⟨lw_p32, fun _ h => absurd h List.not_mem_nil⟩
def lw_privs : List (MethodName × Nat) := lw_privs_1 ++ (lw_privs_2 ++ (lw_privs_3))
def lw_tbl : List Cond := k2_sels lw_privs ++ tables_1
theorem lw_privs_ok : ∀ q ∈ lw_privs, lw_okq q := by
  show ∀ q ∈ lw_privs_1 ++ (lw_privs_2 ++ (lw_privs_3)), lw_okq q
  exact List.forall_mem_append.mpr ⟨lw_r1, List.forall_mem_append.mpr ⟨lw_r2, lw_r3⟩⟩
def RX0 : String := "ValueNumberer$Classes"
def TX0 : u_T := fun k => match k with
  | 0 => ("ValueNumberer$Classes", "first", "[I", true)
  | 1 => ("ValueNumberer$Classes", "rounds", "I", false)
  | _ => ("ValueNumberer$Classes", "next", "[I", true)
def tyX0 : Nat → FieldType := fun k => match k with
  | 0 => .array .int
  | 1 => .int
  | _ => .array .int
abbrev wsX00 : List Cond := u_ws RX0 TX0 3
theorem nmX0 : ∀ a, a < 3 → ∀ b, b < 3 → a ≠ b → (TX0 a).2.1 ≠ (TX0 b).2.1 := by decide +kernel
theorem tyX0_ok : ∀ k, k < 3 → parseFieldDescriptor (TX0 k).2.2.1 = some (tyX0 k) := by decide +kernel
abbrev cX0_init : ByteArray := prog_2_method_1_code
def yX0_init : MethodName := ⟨RX0, "<init>", "()V"⟩
abbrev cX0_split : ByteArray := prog_2_method_2_code
def yX0_split : MethodName := ⟨RX0, "split", "(LValueNumberer$Program;I)V"⟩
abbrev cX0_firstAtStart : ByteArray := prog_2_method_3_code
def yX0_firstAtStart : MethodName := ⟨RX0, "firstAtStart", "(LValueNumberer$Program;I)I"⟩
abbrev cX0_isHopeful : ByteArray := prog_2_method_4_code
def yX0_isHopeful : MethodName := ⟨RX0, "isHopeful", "(LValueNumberer$Program;II)Z"⟩
abbrev cX0_splitOnce : ByteArray := prog_2_method_5_code
def yX0_splitOnce : MethodName := ⟨RX0, "splitOnce", "(LValueNumberer$Program;)Z"⟩
abbrev cX0_areOperandsAlike : ByteArray := prog_2_method_6_code
def yX0_areOperandsAlike : MethodName := ⟨RX0, "areOperandsAlike", "(LValueNumberer$Program;II)Z"⟩
abbrev cX0_isAlike : ByteArray := prog_2_method_7_code
def yX0_isAlike : MethodName := ⟨RX0, "isAlike", "(LValueNumberer$Program;IIII)Z"⟩
abbrev cX0_countClasses : ByteArray := prog_2_method_8_code
def yX0_countClasses : MethodName := ⟨RX0, "countClasses", "(LValueNumberer$Program;)I"⟩
abbrev cX0_greatestClass : ByteArray := prog_2_method_9_code
def yX0_greatestClass : MethodName := ⟨RX0, "greatestClass", "(LValueNumberer$Program;)I"⟩
abbrev cX0_sizeOf : ByteArray := prog_2_method_10_code
def yX0_sizeOf : MethodName := ⟨RX0, "sizeOf", "(LValueNumberer$Program;I)I"⟩
abbrev cX0_leaderOf : ByteArray := prog_2_method_11_code
def yX0_leaderOf : MethodName := ⟨RX0, "leaderOf", "(LValueNumberer$Program;I)I"⟩
def RX1 : String := "ValueNumberer$Forms"
def TX1 : u_T := fun k => match k with
  | _ => ("ValueNumberer$Forms", "codes", "[J", true)
def tyX1 : Nat → FieldType := fun k => match k with
  | _ => .array .long
abbrev wsX10 : List Cond := u_ws RX1 TX1 1
theorem nmX1 : ∀ a, a < 1 → ∀ b, b < 1 → a ≠ b → (TX1 a).2.1 ≠ (TX1 b).2.1 := by decide +kernel
theorem tyX1_ok : ∀ k, k < 1 → parseFieldDescriptor (TX1 k).2.2.1 = some (tyX1 k) := by decide +kernel
abbrev cX1_init : ByteArray := prog_3_method_1_code
def yX1_init : MethodName := ⟨RX1, "<init>", "()V"⟩
abbrev cX1_find : ByteArray := prog_3_method_2_code
def yX1_find : MethodName := ⟨RX1, "find", "(LValueNumberer$Program;)V"⟩
abbrev cX1_nameOf : ByteArray := prog_3_method_3_code
def yX1_nameOf : MethodName := ⟨RX1, "nameOf", "(I)I"⟩
abbrev cX1_numberOf : ByteArray := prog_3_method_4_code
def yX1_numberOf : MethodName := ⟨RX1, "numberOf", "(I)J"⟩
abbrev cX1_isName : ByteArray := prog_3_method_5_code
def yX1_isName : MethodName := ⟨RX1, "isName", "(J)Z"⟩
abbrev cX1_codeOf : ByteArray := prog_3_method_6_code
def yX1_codeOf : MethodName := ⟨RX1, "codeOf", "(LValueNumberer$Program;I)J"⟩
abbrev cX1_codeOfNeg : ByteArray := prog_3_method_7_code
def yX1_codeOfNeg : MethodName := ⟨RX1, "codeOfNeg", "(LValueNumberer$Program;I)J"⟩
abbrev cX1_codeOfPair : ByteArray := prog_3_method_8_code
def yX1_codeOfPair : MethodName := ⟨RX1, "codeOfPair", "(LValueNumberer$Program;I)J"⟩
abbrev cX1_codeOfPhi : ByteArray := prog_3_method_9_code
def yX1_codeOfPhi : MethodName := ⟨RX1, "codeOfPhi", "(LValueNumberer$Program;I)J"⟩
abbrev cX1_earlier : ByteArray := prog_3_method_10_code
def yX1_earlier : MethodName := ⟨RX1, "earlier", "(LValueNumberer$Program;I)J"⟩
abbrev cX1_isSame : ByteArray := prog_3_method_11_code
def yX1_isSame : MethodName := ⟨RX1, "isSame", "(LValueNumberer$Program;II)Z"⟩
abbrev cX1_isSameOperand : ByteArray := prog_3_method_12_code
def yX1_isSameOperand : MethodName := ⟨RX1, "isSameOperand", "(LValueNumberer$Program;IIII)Z"⟩
def RX2 : String := "ValueNumberer$Machine"
def TX2 : u_T := fun k => match k with
  | 0 => ("ValueNumberer$Machine", "arguments", "[I", true)
  | 1 => ("ValueNumberer$Machine", "values", "[J", true)
  | 2 => ("ValueNumberer$Machine", "hasRun", "Z", false)
  | 3 => ("ValueNumberer$Machine", "returned", "Z", false)
  | 4 => ("ValueNumberer$Machine", "steps", "I", false)
  | 5 => ("ValueNumberer$Machine", "got", "I", false)
  | 6 => ("ValueNumberer$Machine", "differences", "I", false)
  | 7 => ("ValueNumberer$Machine", "coming", "[J", true)
  | 8 => ("ValueNumberer$Machine", "watched", "I", false)
  | _ => ("ValueNumberer$Machine", "compared", "I", false)
def tyX2 : Nat → FieldType := fun k => match k with
  | 0 => .array .int
  | 1 => .array .long
  | 2 => .boolean
  | 3 => .boolean
  | 4 => .int
  | 5 => .int
  | 6 => .int
  | 7 => .array .long
  | 8 => .int
  | _ => .int
abbrev wsX20 : List Cond := u_ws RX2 TX2 10
theorem nmX2 : ∀ a, a < 10 → ∀ b, b < 10 → a ≠ b → (TX2 a).2.1 ≠ (TX2 b).2.1 := by decide +kernel
theorem tyX2_ok : ∀ k, k < 10 → parseFieldDescriptor (TX2 k).2.2.1 = some (tyX2 k) := by decide +kernel
abbrev cX2_init : ByteArray := prog_4_method_1_code
def yX2_init : MethodName := ⟨RX2, "<init>", "()V"⟩
abbrev cX2_forget : ByteArray := prog_4_method_2_code
def yX2_forget : MethodName := ⟨RX2, "forget", "()V"⟩
abbrev cX2_give : ByteArray := prog_4_method_3_code
def yX2_give : MethodName := ⟨RX2, "give", "(IIII)V"⟩
abbrev cX2_giveBySeed : ByteArray := prog_4_method_4_code
def yX2_giveBySeed : MethodName := ⟨RX2, "giveBySeed", "(I)I"⟩
abbrev cX2_watch : ByteArray := prog_4_method_5_code
def yX2_watch : MethodName := ⟨RX2, "watch", "(II)V"⟩
abbrev cX2_go : ByteArray := prog_4_method_6_code
def yX2_go : MethodName := ⟨RX2, "go", "(LValueNumberer$Program;)J"⟩
abbrev cX2_nextBlock : ByteArray := prog_4_method_7_code
def yX2_nextBlock : MethodName := ⟨RX2, "nextBlock", "(LValueNumberer$Program;I)I"⟩
abbrev cX2_pass : ByteArray := prog_4_method_8_code
def yX2_pass : MethodName := ⟨RX2, "pass", "(LValueNumberer$Program;II)V"⟩
abbrev cX2_passPhis : ByteArray := prog_4_method_9_code
def yX2_passPhis : MethodName := ⟨RX2, "passPhis", "(LValueNumberer$Program;III)V"⟩
abbrev cX2_bringOf : ByteArray := prog_4_method_10_code
def yX2_bringOf : MethodName := ⟨RX2, "bringOf", "(LValueNumberer$Program;I)J"⟩
abbrev cX2_compare : ByteArray := prog_4_method_11_code
def yX2_compare : MethodName := ⟨RX2, "compare", "()V"⟩
def RX3 : String := "ValueNumberer$Program"
def TX3 : u_T := fun k => match k with
  | 0 => ("ValueNumberer$Program", "blocks", "I", false)
  | 1 => ("ValueNumberer$Program", "names", "I", false)
  | 2 => ("ValueNumberer$Program", "first", "[I", true)
  | 3 => ("ValueNumberer$Program", "size", "[I", true)
  | 4 => ("ValueNumberer$Program", "ending", "[I", true)
  | 5 => ("ValueNumberer$Program", "goal", "[I", true)
  | 6 => ("ValueNumberer$Program", "other", "[I", true)
  | 7 => ("ValueNumberer$Program", "asked", "[I", true)
  | 8 => ("ValueNumberer$Program", "preds", "[I", true)
  | 9 => ("ValueNumberer$Program", "predRows", "[[I", true)
  | 10 => ("ValueNumberer$Program", "dominators", "[I", true)
  | 11 => ("ValueNumberer$Program", "kind", "[I", true)
  | 12 => ("ValueNumberer$Program", "home", "[I", true)
  | 13 => ("ValueNumberer$Program", "arity", "[I", true)
  | 14 => ("ValueNumberer$Program", "figure", "[I", true)
  | 15 => ("ValueNumberer$Program", "operandRows", "[[I", true)
  | _ => ("ValueNumberer$Program", "needed", "[Z", true)
def tyX3 : Nat → FieldType := fun k => match k with
  | 0 => .int
  | 1 => .int
  | 2 => .array .int
  | 3 => .array .int
  | 4 => .array .int
  | 5 => .array .int
  | 6 => .array .int
  | 7 => .array .int
  | 8 => .array .int
  | 9 => .array (.array .int)
  | 10 => .array .int
  | 11 => .array .int
  | 12 => .array .int
  | 13 => .array .int
  | 14 => .array .int
  | 15 => .array (.array .int)
  | _ => .array .boolean
abbrev wsX30 : List Cond := u_ws RX3 TX3 17
theorem nmX3 : ∀ a, a < 17 → ∀ b, b < 17 → a ≠ b → (TX3 a).2.1 ≠ (TX3 b).2.1 := by decide +kernel
theorem tyX3_ok : ∀ k, k < 17 → parseFieldDescriptor (TX3 k).2.2.1 = some (tyX3 k) := by decide +kernel
abbrev cX3_init : ByteArray := prog_5_method_1_code
def yX3_init : MethodName := ⟨RX3, "<init>", "()V"⟩
abbrev cX3_clear : ByteArray := prog_5_method_2_code
def yX3_clear : MethodName := ⟨RX3, "clear", "()V"⟩
abbrev cX3_openBlock : ByteArray := prog_5_method_3_code
def yX3_openBlock : MethodName := ⟨RX3, "openBlock", "()Z"⟩
abbrev cX3_openName : ByteArray := prog_5_method_4_code
def yX3_openName : MethodName := ⟨RX3, "openName", "(I)Z"⟩
abbrev cX3_putFigure : ByteArray := prog_5_method_5_code
def yX3_putFigure : MethodName := ⟨RX3, "putFigure", "(I)V"⟩
abbrev cX3_putOperand : ByteArray := prog_5_method_6_code
def yX3_putOperand : MethodName := ⟨RX3, "putOperand", "(I)V"⟩
abbrev cX3_putEnd : ByteArray := prog_5_method_7_code
def yX3_putEnd : MethodName := ⟨RX3, "putEnd", "(I)V"⟩
abbrev cX3_putAsked : ByteArray := prog_5_method_8_code
def yX3_putAsked : MethodName := ⟨RX3, "putAsked", "(I)V"⟩
abbrev cX3_putGoal : ByteArray := prog_5_method_9_code
def yX3_putGoal : MethodName := ⟨RX3, "putGoal", "(I)V"⟩
abbrev cX3_putOther : ByteArray := prog_5_method_10_code
def yX3_putOther : MethodName := ⟨RX3, "putOther", "(I)V"⟩
abbrev cX3_copyFrom : ByteArray := prog_5_method_11_code
def yX3_copyFrom : MethodName := ⟨RX3, "copyFrom", "(LValueNumberer$Program;)V"⟩
abbrev cX3_hasBlock : ByteArray := prog_5_method_12_code
def yX3_hasBlock : MethodName := ⟨RX3, "hasBlock", "(I)Z"⟩
abbrev cX3_hasName : ByteArray := prog_5_method_13_code
def yX3_hasName : MethodName := ⟨RX3, "hasName", "(I)Z"⟩
abbrev cX3_hasOperand : ByteArray := prog_5_method_14_code
def yX3_hasOperand : MethodName := ⟨RX3, "hasOperand", "(II)Z"⟩
abbrev cX3_hasFigure : ByteArray := prog_5_method_15_code
def yX3_hasFigure : MethodName := ⟨RX3, "hasFigure", "(I)Z"⟩
abbrev cX3_successors : ByteArray := prog_5_method_16_code
def yX3_successors : MethodName := ⟨RX3, "successors", "(I)I"⟩
abbrev cX3_reachOutside : ByteArray := prog_5_method_17_code
def yX3_reachOutside : MethodName := ⟨RX3, "reachOutside", "(I)I"⟩
abbrev cX3_findDominators : ByteArray := prog_5_method_18_code
def yX3_findDominators : MethodName := ⟨RX3, "findDominators", "()V"⟩
abbrev cX3_findPreds : ByteArray := prog_5_method_19_code
def yX3_findPreds : MethodName := ⟨RX3, "findPreds", "()V"⟩
abbrev cX3_routeFrom : ByteArray := prog_5_method_21_code
def yX3_routeFrom : MethodName := ⟨RX3, "routeFrom", "(II)I"⟩
abbrev cX3_isSeen : ByteArray := prog_5_method_22_code
def yX3_isSeen : MethodName := ⟨RX3, "isSeen", "(II)Z"⟩
abbrev cX3_isSeenAtEnd : ByteArray := prog_5_method_23_code
def yX3_isSeenAtEnd : MethodName := ⟨RX3, "isSeenAtEnd", "(II)Z"⟩
abbrev cX3_isSeenByOperand : ByteArray := prog_5_method_24_code
def yX3_isSeenByOperand : MethodName := ⟨RX3, "isSeenByOperand", "(III)Z"⟩
abbrev cX3_isSound : ByteArray := prog_5_method_25_code
def yX3_isSound : MethodName := ⟨RX3, "isSound", "()Z"⟩
abbrev cX3_areOperandsSound : ByteArray := prog_5_method_26_code
def yX3_areOperandsSound : MethodName := ⟨RX3, "areOperandsSound", "(I)Z"⟩
abbrev cX3_looksBehind : ByteArray := prog_5_method_27_code
def yX3_looksBehind : MethodName := ⟨RX3, "looksBehind", "(I)Z"⟩
abbrev cX3_countKind : ByteArray := prog_5_method_28_code
def yX3_countKind : MethodName := ⟨RX3, "countKind", "(I)I"⟩
abbrev cX3_countOperands : ByteArray := prog_5_method_29_code
def yX3_countOperands : MethodName := ⟨RX3, "countOperands", "()I"⟩
abbrev cX3_countUses : ByteArray := prog_5_method_30_code
def yX3_countUses : MethodName := ⟨RX3, "countUses", "(I)I"⟩
abbrev cX3_exchange : ByteArray := prog_5_method_32_code
def yX3_exchange : MethodName := ⟨RX3, "exchange", "([I)I"⟩
abbrev cX3_dropUnneeded : ByteArray := prog_5_method_33_code
def yX3_dropUnneeded : MethodName := ⟨RX3, "dropUnneeded", "()I"⟩
abbrev cX3_findNeeded : ByteArray := prog_5_method_34_code
def yX3_findNeeded : MethodName := ⟨RX3, "findNeeded", "()V"⟩
abbrev cX3_markOperands : ByteArray := prog_5_method_35_code
def yX3_markOperands : MethodName := ⟨RX3, "markOperands", "(I)V"⟩
def RX4 : String := "ValueNumberer$Reader"
def TX4 : u_T := fun k => match k with
  | 0 => ("ValueNumberer$Reader", "tape", "LValueNumberer$Tape;", true)
  | 1 => ("ValueNumberer$Reader", "draft", "LValueNumberer$Program;", true)
  | 2 => ("ValueNumberer$Reader", "fault", "I", false)
  | 3 => ("ValueNumberer$Reader", "faultPlace", "I", false)
  | 4 => ("ValueNumberer$Reader", "tokens", "[I", true)
  | 5 => ("ValueNumberer$Reader", "starts", "[I", true)
  | 6 => ("ValueNumberer$Reader", "figures", "[I", true)
  | 7 => ("ValueNumberer$Reader", "at", "I", false)
  | 8 => ("ValueNumberer$Reader", "place", "I", false)
  | 9 => ("ValueNumberer$Reader", "taken", "I", false)
  | 10 => ("ValueNumberer$Reader", "isInBlock", "Z", false)
  | _ => ("ValueNumberer$Reader", "isPhiOver", "Z", false)
def tyX4 : Nat → FieldType := fun k => match k with
  | 0 => .object "ValueNumberer$Tape"
  | 1 => .object "ValueNumberer$Program"
  | 2 => .int
  | 3 => .int
  | 4 => .array .int
  | 5 => .array .int
  | 6 => .array .int
  | 7 => .int
  | 8 => .int
  | 9 => .int
  | 10 => .boolean
  | _ => .boolean
abbrev wsX40 : List Cond := u_ws RX4 TX4 12
theorem nmX4 : ∀ a, a < 12 → ∀ b, b < 12 → a ≠ b → (TX4 a).2.1 ≠ (TX4 b).2.1 := by decide +kernel
theorem tyX4_ok : ∀ k, k < 12 → parseFieldDescriptor (TX4 k).2.2.1 = some (tyX4 k) := by decide +kernel
abbrev cX4_init : ByteArray := prog_6_method_1_code
def yX4_init : MethodName := ⟨RX4, "<init>", "()V"⟩
abbrev cX4_readText : ByteArray := prog_6_method_2_code
def yX4_readText : MethodName := ⟨RX4, "readText", "()Z"⟩
abbrev cX4_refuse : ByteArray := prog_6_method_3_code
def yX4_refuse : MethodName := ⟨RX4, "refuse", "(I)Z"⟩
abbrev cX4_readLine : ByteArray := prog_6_method_4_code
def yX4_readLine : MethodName := ⟨RX4, "readLine", "()Z"⟩
abbrev cX4_readHead : ByteArray := prog_6_method_5_code
def yX4_readHead : MethodName := ⟨RX4, "readHead", "()Z"⟩
abbrev cX4_readName : ByteArray := prog_6_method_6_code
def yX4_readName : MethodName := ⟨RX4, "readName", "()Z"⟩
abbrev cX4_readFigure : ByteArray := prog_6_method_7_code
def yX4_readFigure : MethodName := ⟨RX4, "readFigure", "(I)Z"⟩
abbrev cX4_readOperands : ByteArray := prog_6_method_8_code
def yX4_readOperands : MethodName := ⟨RX4, "readOperands", "(I)Z"⟩
abbrev cX4_readEnd : ByteArray := prog_6_method_9_code
def yX4_readEnd : MethodName := ⟨RX4, "readEnd", "()Z"⟩
abbrev cX4_takeSemicolon : ByteArray := prog_6_method_10_code
def yX4_takeSemicolon : MethodName := ⟨RX4, "takeSemicolon", "()Z"⟩
abbrev cX4_takeNumber : ByteArray := prog_6_method_11_code
def yX4_takeNumber : MethodName := ⟨RX4, "takeNumber", "(II)Z"⟩
abbrev cX4_scan : ByteArray := prog_6_method_12_code
def yX4_scan : MethodName := ⟨RX4, "scan", "()V"⟩
abbrev cX4_scanToken : ByteArray := prog_6_method_13_code
def yX4_scanToken : MethodName := ⟨RX4, "scanToken", "(I)I"⟩
abbrev cX4_skip : ByteArray := prog_6_method_14_code
def yX4_skip : MethodName := ⟨RX4, "skip", "(II)V"⟩
abbrev cX4_figureFrom : ByteArray := prog_6_method_15_code
def yX4_figureFrom : MethodName := ⟨RX4, "figureFrom", "(I)I"⟩
abbrev cX4_wordFrom : ByteArray := prog_6_method_16_code
def yX4_wordFrom : MethodName := ⟨RX4, "wordFrom", "(I)I"⟩
abbrev cX4_isWord : ByteArray := prog_6_method_17_code
def yX4_isWord : MethodName := ⟨RX4, "isWord", "(ILjava/lang/String;)Z"⟩
def RX5 : String := "ValueNumberer$Sheets"
def TX5 : u_T := fun k => match k with
  | 0 => ("ValueNumberer$Sheets", "length", "[I", true)
  | 1 => ("ValueNumberer$Sheets", "torn", "I", false)
  | 2 => ("ValueNumberer$Sheets", "lanes", "[I", true)
  | _ => ("ValueNumberer$Sheets", "cells", "[[I", true)
def tyX5 : Nat → FieldType := fun k => match k with
  | 0 => .array .int
  | 1 => .int
  | 2 => .array .int
  | _ => .array (.array .int)
abbrev wsX50 : List Cond := u_ws RX5 TX5 4
theorem nmX5 : ∀ a, a < 4 → ∀ b, b < 4 → a ≠ b → (TX5 a).2.1 ≠ (TX5 b).2.1 := by decide +kernel
theorem tyX5_ok : ∀ k, k < 4 → parseFieldDescriptor (TX5 k).2.2.1 = some (tyX5 k) := by decide +kernel
abbrev cX5_init : ByteArray := prog_7_method_1_code
def yX5_init : MethodName := ⟨RX5, "<init>", "()V"⟩
def RX6 : String := "ValueNumberer$Tape"
def TX6 : u_T := fun k => match k with
  | 0 => ("ValueNumberer$Tape", "bytes", "[B", true)
  | _ => ("ValueNumberer$Tape", "length", "I", false)
def tyX6 : Nat → FieldType := fun k => match k with
  | 0 => .array .byte
  | _ => .int
abbrev wsX60 : List Cond := u_ws RX6 TX6 2
theorem nmX6 : ∀ a, a < 2 → ∀ b, b < 2 → a ≠ b → (TX6 a).2.1 ≠ (TX6 b).2.1 := by decide +kernel
theorem tyX6_ok : ∀ k, k < 2 → parseFieldDescriptor (TX6 k).2.2.1 = some (tyX6 k) := by decide +kernel
abbrev cX6_init : ByteArray := prog_8_method_1_code
def yX6_init : MethodName := ⟨RX6, "<init>", "()V"⟩
abbrev cX6_push : ByteArray := prog_8_method_2_code
def yX6_push : MethodName := ⟨RX6, "push", "(I)Z"⟩
abbrev cX6_has : ByteArray := prog_8_method_3_code
def yX6_has : MethodName := ⟨RX6, "has", "(III)Z"⟩
def RX7 : String := "ValueNumberer"
def TX7 : u_T := fun k => match k with
  | 0 => ("ValueNumberer", "reader", "LValueNumberer$Reader;", true)
  | 1 => ("ValueNumberer", "latest", "LValueNumberer$Machine;", true)
  | 2 => ("ValueNumberer", "trial", "LValueNumberer$Machine;", true)
  | 3 => ("ValueNumberer", "alike", "LValueNumberer$Classes;", true)
  | 4 => ("ValueNumberer", "forms", "LValueNumberer$Forms;", true)
  | 5 => ("ValueNumberer", "sheets", "LValueNumberer$Sheets;", true)
  | 6 => ("ValueNumberer", "images", "[LValueNumberer$Program;", true)
  | 7 => ("ValueNumberer", "kept", "[Z", true)
  | 8 => ("ValueNumberer", "leaders", "[I", true)
  | _ => ("ValueNumberer", "told", "LValueNumberer$Program;", true)
def tyX7 : Nat → FieldType := fun k => match k with
  | 0 => .object "ValueNumberer$Reader"
  | 1 => .object "ValueNumberer$Machine"
  | 2 => .object "ValueNumberer$Machine"
  | 3 => .object "ValueNumberer$Classes"
  | 4 => .object "ValueNumberer$Forms"
  | 5 => .object "ValueNumberer$Sheets"
  | 6 => .array (.object "ValueNumberer$Program")
  | 7 => .array .boolean
  | 8 => .array .int
  | _ => .object "ValueNumberer$Program"
abbrev wsX70 : List Cond := u_ws RX7 TX7 10
theorem nmX7 : ∀ a, a < 10 → ∀ b, b < 10 → a ≠ b → (TX7 a).2.1 ≠ (TX7 b).2.1 := by decide +kernel
theorem tyX7_ok : ∀ k, k < 10 → parseFieldDescriptor (TX7 k).2.2.1 = some (tyX7 k) := by decide +kernel
abbrev cX7_init : ByteArray := prog_1_method_1_code
def yX7_init : MethodName := ⟨RX7, "<init>", "()V"⟩
abbrev cX7_feed : ByteArray := prog_1_method_2_code
def yX7_feed : MethodName := ⟨RX7, "feed", "(I)I"⟩
abbrev cX7_text : ByteArray := prog_1_method_4_code
def yX7_text : MethodName := ⟨RX7, "text", "()I"⟩
abbrev cX7_fault : ByteArray := prog_1_method_5_code
def yX7_fault : MethodName := ⟨RX7, "fault", "()I"⟩
abbrev cX7_rule : ByteArray := prog_1_method_6_code
def yX7_rule : MethodName := ⟨RX7, "rule", "(I)I"⟩
abbrev cX7_name : ByteArray := prog_1_method_9_code
def yX7_name : MethodName := ⟨RX7, "name", "(II)I"⟩
abbrev cX7_operand : ByteArray := prog_1_method_10_code
def yX7_operand : MethodName := ⟨RX7, "operand", "(II)I"⟩
abbrev cX7_seen : ByteArray := prog_1_method_11_code
def yX7_seen : MethodName := ⟨RX7, "seen", "(II)I"⟩
abbrev cX7_run : ByteArray := prog_1_method_12_code
def yX7_run : MethodName := ⟨RX7, "run", "(IIII)J"⟩
abbrev cX7_value : ByteArray := prog_1_method_13_code
def yX7_value : MethodName := ⟨RX7, "value", "(I)J"⟩
abbrev cX7_went : ByteArray := prog_1_method_14_code
def yX7_went : MethodName := ⟨RX7, "went", "(I)I"⟩
abbrev cX7_classes : ByteArray := prog_1_method_15_code
def yX7_classes : MethodName := ⟨RX7, "classes", "(I)I"⟩
abbrev cX7_part : ByteArray := prog_1_method_16_code
def yX7_part : MethodName := ⟨RX7, "part", "(I)I"⟩
abbrev cX7_partAt : ByteArray := prog_1_method_17_code
def yX7_partAt : MethodName := ⟨RX7, "partAt", "(II)I"⟩
abbrev cX7_leader : ByteArray := prog_1_method_18_code
def yX7_leader : MethodName := ⟨RX7, "leader", "(I)I"⟩
abbrev cX7_form : ByteArray := prog_1_method_19_code
def yX7_form : MethodName := ⟨RX7, "form", "(I)I"⟩
abbrev cX7_number : ByteArray := prog_1_method_20_code
def yX7_number : MethodName := ⟨RX7, "number", "(I)J"⟩
abbrev cX7_replace : ByteArray := prog_1_method_21_code
def yX7_replace : MethodName := ⟨RX7, "replace", "()I"⟩
abbrev cX7_sweep : ByteArray := prog_1_method_22_code
def yX7_sweep : MethodName := ⟨RX7, "sweep", "()I"⟩
abbrev cX7_set : ByteArray := prog_1_method_23_code
def yX7_set : MethodName := ⟨RX7, "set", "(III)I"⟩
abbrev cX7_alter : ByteArray := prog_1_method_24_code
def yX7_alter : MethodName := ⟨RX7, "alter", "(II)I"⟩
abbrev cX7_agree : ByteArray := prog_1_method_25_code
def yX7_agree : MethodName := ⟨RX7, "agree", "(IIIII)I"⟩
abbrev cX7_keep : ByteArray := prog_1_method_26_code
def yX7_keep : MethodName := ⟨RX7, "keep", "(I)I"⟩
abbrev cX7_back : ByteArray := prog_1_method_27_code
def yX7_back : MethodName := ⟨RX7, "back", "(I)I"⟩
abbrev cX7_highestFigure : ByteArray := prog_1_method_35_code
def yX7_highestFigure : MethodName := ⟨RX7, "highestFigure", "(I)I"⟩
abbrev cX7_hasBit : ByteArray := prog_1_method_36_code
def yX7_hasBit : MethodName := ⟨RX7, "hasBit", "(II)Z"⟩
abbrev cX7_bring : ByteArray := prog_1_method_37_code
def yX7_bring : MethodName := ⟨RX7, "bring", "(IJJ)J"⟩
def RX8 : String := "ValueNumbererModel"
def TX8 : u_T := fun k => match k with
  | _ => ("", "", "", false)
def tyX8 : Nat → FieldType := fun k => match k with
  | _ => .int
abbrev wsX80 : List Cond := u_ws RX8 TX8 0
theorem nmX8 : ∀ a, a < 0 → ∀ b, b < 0 → a ≠ b → (TX8 a).2.1 ≠ (TX8 b).2.1 := by decide +kernel
theorem tyX8_ok : ∀ k, k < 0 → parseFieldDescriptor (TX8 k).2.2.1 = some (tyX8 k) := by decide +kernel
def RJ9 : String := "java/lang/Math"
def TJ9 : u_T := fun k => match k with
  | _ => ("", "", "", false)
def tyJ9 : Nat → FieldType := fun k => match k with
  | _ => .int
abbrev wsJ90 : List Cond := u_ws RJ9 TJ9 0
theorem nmJ9 : ∀ a, a < 0 → ∀ b, b < 0 → a ≠ b → (TJ9 a).2.1 ≠ (TJ9 b).2.1 := by decide +kernel
theorem tyJ9_ok : ∀ k, k < 0 → parseFieldDescriptor (TJ9 k).2.2.1 = some (tyJ9 k) := by decide +kernel
abbrev cJ9_max_7cf53 : ByteArray := prog_11_method_65_code
def yJ9_max_7cf53 : MethodName := ⟨RJ9, "max", "(II)I"⟩
def RJ0 : String := "java/lang/String"
def TJ0 : u_T := fun k => match k with
  | _ => ("", "", "", false)
def tyJ0 : Nat → FieldType := fun k => match k with
  | _ => .int
abbrev wsJ00 : List Cond := u_ws RJ0 TJ0 0
theorem nmJ0 : ∀ a, a < 0 → ∀ b, b < 0 → a ≠ b → (TJ0 a).2.1 ≠ (TJ0 b).2.1 := by decide +kernel
theorem tyJ0_ok : ∀ k, k < 0 → parseFieldDescriptor (TJ0 k).2.2.1 = some (tyJ0 k) := by decide +kernel
abbrev cJ0_length_8abf5 : ByteArray := prog_12_method_54_code
def yJ0_length_8abf5 : MethodName := ⟨RJ0, "length", "()I"⟩
abbrev cJ0_charAt_5068e : ByteArray := prog_12_method_56_code
def yJ0_charAt_5068e : MethodName := ⟨RJ0, "charAt", "(I)C"⟩
abbrev cJ0_coder_7d493 : ByteArray := prog_12_method_152_code
def yJ0_coder_7d493 : MethodName := ⟨RJ0, "coder", "()B"⟩
abbrev cJ0_isLatin1_aae02 : ByteArray := prog_12_method_154_code
def yJ0_isLatin1_aae02 : MethodName := ⟨RJ0, "isLatin1", "()Z"⟩
abbrev cJ0_checkIndex_df160 : ByteArray := prog_12_method_155_code
def yJ0_checkIndex_df160 : MethodName := ⟨RJ0, "checkIndex", "(II)V"⟩
def RJ1 : String := "java/lang/StringLatin1"
def TJ1 : u_T := fun k => match k with
  | _ => ("", "", "", false)
def tyJ1 : Nat → FieldType := fun k => match k with
  | _ => .int
abbrev wsJ10 : List Cond := u_ws RJ1 TJ1 0
theorem nmJ1 : ∀ a, a < 0 → ∀ b, b < 0 → a ≠ b → (TJ1 a).2.1 ≠ (TJ1 b).2.1 := by decide +kernel
theorem tyJ1_ok : ∀ k, k < 0 → parseFieldDescriptor (TJ1 k).2.2.1 = some (tyJ1 k) := by decide +kernel
abbrev cJ1_charAt_3b067 : ByteArray := prog_13_method_2_code
def yJ1_charAt_3b067 : MethodName := ⟨RJ1, "charAt", "([BI)C"⟩
def RJ2 : String := "java/lang/StringUTF16"
def TJ2 : u_T := fun k => match k with
  | _ => ("", "", "", false)
def tyJ2 : Nat → FieldType := fun k => match k with
  | _ => .int
abbrev wsJ20 : List Cond := u_ws RJ2 TJ2 0
theorem nmJ2 : ∀ a, a < 0 → ∀ b, b < 0 → a ≠ b → (TJ2 a).2.1 ≠ (TJ2 b).2.1 := by decide +kernel
theorem tyJ2_ok : ∀ k, k < 0 → parseFieldDescriptor (TJ2 k).2.2.1 = some (tyJ2 k) := by decide +kernel
abbrev cJ2_getChar_3b067 : ByteArray := prog_14_method_5_code
def yJ2_getChar_3b067 : MethodName := ⟨RJ2, "getChar", "([BI)C"⟩
abbrev cJ2_length_9d52b : ByteArray := prog_14_method_6_code
def yJ2_length_9d52b : MethodName := ⟨RJ2, "length", "([B)I"⟩
abbrev cJ2_charAt_3b067 : ByteArray := prog_14_method_83_code
def yJ2_charAt_3b067 : MethodName := ⟨RJ2, "charAt", "([BI)C"⟩
abbrev cJ2_checkIndex_2214a : ByteArray := prog_14_method_91_code
def yJ2_checkIndex_2214a : MethodName := ⟨RJ2, "checkIndex", "(I[B)V"⟩
def RJ10 : String := "java/lang/System"
def TJ10 : u_T := fun k => match k with
  | _ => ("", "", "", false)
def tyJ10 : Nat → FieldType := fun k => match k with
  | _ => .int
abbrev wsJ100 : List Cond := u_ws RJ10 TJ10 0
theorem nmJ10 : ∀ a, a < 0 → ∀ b, b < 0 → a ≠ b → (TJ10 a).2.1 ≠ (TJ10 b).2.1 := by decide +kernel
theorem tyJ10_ok : ∀ k, k < 0 → parseFieldDescriptor (TJ10 k).2.2.1 = some (tyJ10 k) := by decide +kernel
def RJ3 : String := "jdk/internal/util/Preconditions"
def TJ3 : u_T := fun k => match k with
  | _ => ("", "", "", false)
def tyJ3 : Nat → FieldType := fun k => match k with
  | _ => .int
abbrev wsJ30 : List Cond := u_ws RJ3 TJ3 0
theorem nmJ3 : ∀ a, a < 0 → ∀ b, b < 0 → a ≠ b → (TJ3 a).2.1 ≠ (TJ3 b).2.1 := by decide +kernel
theorem tyJ3_ok : ∀ k, k < 0 → parseFieldDescriptor (TJ3 k).2.2.1 = some (tyJ3 k) := by decide +kernel
abbrev cJ3_checkIndex_8e157 : ByteArray := prog_16_method_11_code
def yJ3_checkIndex_8e157 : MethodName := ⟨RJ3, "checkIndex", "(IILjava/util/function/BiFunction;)I"⟩
def RL : String := "ValueNumbererLaw"
abbrev cL_part : ByteArray := method_2_code
def yL_part : MethodName := ⟨RL, "part", "(II)I"⟩
abbrev cL_cell : ByteArray := method_3_code
def yL_cell : MethodName := ⟨RL, "cell", "([II)I"⟩
abbrev cL_says : ByteArray := method_4_code
def yL_says : MethodName := ⟨RL, "says", "(LValueNumberer;[II)V"⟩
abbrev cL_name : ByteArray := method_5_code
def yL_name : MethodName := ⟨RL, "name", "(LValueNumberer;[IJ)V"⟩
abbrev cL_number : ByteArray := method_6_code
def yL_number : MethodName := ⟨RL, "number", "(LValueNumberer;[II)V"⟩
abbrev cL_ends : ByteArray := method_7_code
def yL_ends : MethodName := ⟨RL, "ends", "(LValueNumberer;[I)I"⟩
abbrev cL_line : ByteArray := method_8_code
def yL_line : MethodName := ⟨RL, "line", "(LValueNumberer;[II)V"⟩
abbrev cL_shape : ByteArray := method_9_code
def yL_shape : MethodName := ⟨RL, "shape", "(III)I"⟩
abbrev cL_over : ByteArray := method_10_code
def yL_over : MethodName := ⟨RL, "over", "(III)Z"⟩
abbrev cL_seen : ByteArray := method_11_code
def yL_seen : MethodName := ⟨RL, "seen", "([I[III)Z"⟩
abbrev cL_may : ByteArray := method_12_code
def yL_may : MethodName := ⟨RL, "may", "([I[I[IIII)Z"⟩
abbrev cL_pick : ByteArray := method_13_code
def yL_pick : MethodName := ⟨RL, "pick", "([I[I[IIII)I"⟩
abbrev cL_atEnd : ByteArray := method_14_code
def yL_atEnd : MethodName := ⟨RL, "atEnd", "([I[III)I"⟩
abbrev cL_program : ByteArray := method_15_code
def yL_program : MethodName := ⟨RL, "program", "(LValueNumberer;[II[I[I[I[I[I[I)Z"⟩
abbrev cL_law : ByteArray := code
def yL_law : MethodName := ⟨RL, "law", "([I)Z"⟩
abbrev vwCl : List vw_C := [(RX0, TX0, 3), (RX1, TX1, 1), (RX2, TX2, 10), (RX3, TX3, 17), (RX4, TX4, 12), (RX5, TX5, 4), (RX6, TX6, 2), (RX7, TX7, 10)]
