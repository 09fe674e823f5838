section
/-- a private method of a class that the tables say can be made, by its rows of tables_1 -/
def lw_okq (q : MethodName × Nat) : Prop := (q.1.cls ≠ "java/lang/invoke/MethodHandle" ∧ q.1.cls ≠ "java/lang/invoke/VarHandle") ∧ Cond.instantiable q.1.cls q.2 ∈ tables_1 ∧ Cond.privateMethod q.1 ∈ tables_1 ∧ Cond.instanceMethod q.1 ∈ tables_1
theorem lw_p0 : lw_okq (⟨"ValueNumberer$Machine", "pass", "(LValueNumberer$Program;II)V"⟩, 10) := ⟨⟨by decide +kernel, by decide +kernel⟩, List.mem_of_getElem? (i := 178) (by decide +kernel), List.mem_of_getElem? (i := 368) (by decide +kernel), List.mem_of_getElem? (i := 369) (by decide +kernel)⟩
theorem lw_p1 : lw_okq (⟨"ValueNumberer$Machine", "passPhis", "(LValueNumberer$Program;III)V"⟩, 10) := ⟨⟨by decide +kernel, by decide +kernel⟩, List.mem_of_getElem? (i := 178) (by decide +kernel), List.mem_of_getElem? (i := 376) (by decide +kernel), List.mem_of_getElem? (i := 377) (by decide +kernel)⟩
theorem lw_p2 : lw_okq (⟨"ValueNumberer$Machine", "compare", "()V"⟩, 10) := ⟨⟨by decide +kernel, by decide +kernel⟩, List.mem_of_getElem? (i := 178) (by decide +kernel), List.mem_of_getElem? (i := 380) (by decide +kernel), List.mem_of_getElem? (i := 381) (by decide +kernel)⟩
theorem lw_p3 : lw_okq (⟨"ValueNumberer$Machine", "bringOf", "(LValueNumberer$Program;I)J"⟩, 10) := ⟨⟨by decide +kernel, by decide +kernel⟩, List.mem_of_getElem? (i := 178) (by decide +kernel), List.mem_of_getElem? (i := 384) (by decide +kernel), List.mem_of_getElem? (i := 385) (by decide +kernel)⟩
theorem lw_p4 : lw_okq (⟨"ValueNumberer$Machine", "nextBlock", "(LValueNumberer$Program;I)I"⟩, 10) := ⟨⟨by decide +kernel, by decide +kernel⟩, List.mem_of_getElem? (i := 178) (by decide +kernel), List.mem_of_getElem? (i := 393) (by decide +kernel), List.mem_of_getElem? (i := 394) (by decide +kernel)⟩
theorem lw_p5 : lw_okq (⟨"ValueNumberer$Classes", "firstAtStart", "(LValueNumberer$Program;I)I"⟩, 3) := ⟨⟨by decide +kernel, by decide +kernel⟩, List.mem_of_getElem? (i := 222) (by decide +kernel), List.mem_of_getElem? (i := 415) (by decide +kernel), List.mem_of_getElem? (i := 416) (by decide +kernel)⟩
theorem lw_p6 : lw_okq (⟨"ValueNumberer$Classes", "isHopeful", "(LValueNumberer$Program;II)Z"⟩, 3) := ⟨⟨by decide +kernel, by decide +kernel⟩, List.mem_of_getElem? (i := 222) (by decide +kernel), List.mem_of_getElem? (i := 419) (by decide +kernel), List.mem_of_getElem? (i := 420) (by decide +kernel)⟩
theorem lw_p7 : lw_okq (⟨"ValueNumberer$Classes", "splitOnce", "(LValueNumberer$Program;)Z"⟩, 3) := ⟨⟨by decide +kernel, by decide +kernel⟩, List.mem_of_getElem? (i := 222) (by decide +kernel), List.mem_of_getElem? (i := 424) (by decide +kernel), List.mem_of_getElem? (i := 425) (by decide +kernel)⟩
theorem lw_p8 : lw_okq (⟨"ValueNumberer$Classes", "areOperandsAlike", "(LValueNumberer$Program;II)Z"⟩, 3) := ⟨⟨by decide +kernel, by decide +kernel⟩, List.mem_of_getElem? (i := 222) (by decide +kernel), List.mem_of_getElem? (i := 428) (by decide +kernel), List.mem_of_getElem? (i := 429) (by decide +kernel)⟩
theorem lw_p9 : lw_okq (⟨"ValueNumberer$Classes", "isAlike", "(LValueNumberer$Program;IIII)Z"⟩, 3) := ⟨⟨by decide +kernel, by decide +kernel⟩, List.mem_of_getElem? (i := 222) (by decide +kernel), List.mem_of_getElem? (i := 432) (by decide +kernel), List.mem_of_getElem? (i := 433) (by decide +kernel)⟩
theorem lw_p10 : lw_okq (⟨"ValueNumberer$Classes", "sizeOf", "(LValueNumberer$Program;I)I"⟩, 3) := ⟨⟨by decide +kernel, by decide +kernel⟩, List.mem_of_getElem? (i := 222) (by decide +kernel), List.mem_of_getElem? (i := 447) (by decide +kernel), List.mem_of_getElem? (i := 448) (by decide +kernel)⟩
theorem lw_p11 : lw_okq (⟨"ValueNumberer$Forms", "codeOf", "(LValueNumberer$Program;I)J"⟩, 1) := ⟨⟨by decide +kernel, by decide +kernel⟩, List.mem_of_getElem? (i := 240) (by decide +kernel), List.mem_of_getElem? (i := 481) (by decide +kernel), List.mem_of_getElem? (i := 482) (by decide +kernel)⟩
theorem lw_p12 : lw_okq (⟨"ValueNumberer$Forms", "earlier", "(LValueNumberer$Program;I)J"⟩, 1) := ⟨⟨by decide +kernel, by decide +kernel⟩, List.mem_of_getElem? (i := 240) (by decide +kernel), List.mem_of_getElem? (i := 486) (by decide +kernel), List.mem_of_getElem? (i := 487) (by decide +kernel)⟩
theorem lw_p13 : lw_okq (⟨"ValueNumberer$Forms", "isSame", "(LValueNumberer$Program;II)Z"⟩, 1) := ⟨⟨by decide +kernel, by decide +kernel⟩, List.mem_of_getElem? (i := 240) (by decide +kernel), List.mem_of_getElem? (i := 497) (by decide +kernel), List.mem_of_getElem? (i := 498) (by decide +kernel)⟩
theorem lw_p14 : lw_okq (⟨"ValueNumberer$Forms", "isSameOperand", "(LValueNumberer$Program;IIII)Z"⟩, 1) := ⟨⟨by decide +kernel, by decide +kernel⟩, List.mem_of_getElem? (i := 240) (by decide +kernel), List.mem_of_getElem? (i := 505) (by decide +kernel), List.mem_of_getElem? (i := 506) (by decide +kernel)⟩
theorem lw_p15 : lw_okq (⟨"ValueNumberer$Forms", "codeOfNeg", "(LValueNumberer$Program;I)J"⟩, 1) := ⟨⟨by decide +kernel, by decide +kernel⟩, List.mem_of_getElem? (i := 240) (by decide +kernel), List.mem_of_getElem? (i := 509) (by decide +kernel), List.mem_of_getElem? (i := 510) (by decide +kernel)⟩
def lw_privs_1 : List (MethodName × Nat) := [(⟨"ValueNumberer$Machine", "pass", "(LValueNumberer$Program;II)V"⟩, 10), (⟨"ValueNumberer$Machine", "passPhis", "(LValueNumberer$Program;III)V"⟩, 10), (⟨"ValueNumberer$Machine", "compare", "()V"⟩, 10), (⟨"ValueNumberer$Machine", "bringOf", "(LValueNumberer$Program;I)J"⟩, 10), (⟨"ValueNumberer$Machine", "nextBlock", "(LValueNumberer$Program;I)I"⟩, 10), (⟨"ValueNumberer$Classes", "firstAtStart", "(LValueNumberer$Program;I)I"⟩, 3), (⟨"ValueNumberer$Classes", "isHopeful", "(LValueNumberer$Program;II)Z"⟩, 3), (⟨"ValueNumberer$Classes", "splitOnce", "(LValueNumberer$Program;)Z"⟩, 3), (⟨"ValueNumberer$Classes", "areOperandsAlike", "(LValueNumberer$Program;II)Z"⟩, 3), (⟨"ValueNumberer$Classes", "isAlike", "(LValueNumberer$Program;IIII)Z"⟩, 3), (⟨"ValueNumberer$Classes", "sizeOf", "(LValueNumberer$Program;I)I"⟩, 3), (⟨"ValueNumberer$Forms", "codeOf", "(LValueNumberer$Program;I)J"⟩, 1), (⟨"ValueNumberer$Forms", "earlier", "(LValueNumberer$Program;I)J"⟩, 1), (⟨"ValueNumberer$Forms", "isSame", "(LValueNumberer$Program;II)Z"⟩, 1), (⟨"ValueNumberer$Forms", "isSameOperand", "(LValueNumberer$Program;IIII)Z"⟩, 1), (⟨"ValueNumberer$Forms", "codeOfNeg", "(LValueNumberer$Program;I)J"⟩, 1)]
theorem lw_r1 : ∀ q ∈ lw_privs_1, lw_okq q := List.forall_mem_cons.mpr ⟨lw_p0, List.forall_mem_cons.mpr ⟨lw_p1, List.forall_mem_cons.mpr ⟨lw_p2, List.forall_mem_cons.mpr ⟨lw_p3, List.forall_mem_cons.mpr ⟨lw_p4, List.forall_mem_cons.mpr ⟨lw_p5, List.forall_mem_cons.mpr ⟨lw_p6, List.forall_mem_cons.mpr ⟨lw_p7, List.forall_mem_cons.mpr ⟨lw_p8, List.forall_mem_cons.mpr ⟨lw_p9, List.forall_mem_cons.mpr ⟨lw_p10, List.forall_mem_cons.mpr ⟨lw_p11, List.forall_mem_cons.mpr ⟨lw_p12, List.forall_mem_cons.mpr ⟨lw_p13, List.forall_mem_cons.mpr ⟨lw_p14, List.forall_mem_cons.mpr ⟨lw_p15, fun _ h => absurd h List.not_mem_nil⟩⟩⟩⟩⟩⟩⟩⟩⟩⟩⟩⟩⟩⟩⟩⟩
theorem lw_p16 : lw_okq (⟨"ValueNumberer$Forms", "codeOfPhi", "(LValueNumberer$Program;I)J"⟩, 1) := ⟨⟨by decide +kernel, by decide +kernel⟩, List.mem_of_getElem? (i := 240) (by decide +kernel), List.mem_of_getElem? (i := 514) (by decide +kernel), List.mem_of_getElem? (i := 515) (by decide +kernel)⟩
theorem lw_p17 : lw_okq (⟨"ValueNumberer$Forms", "codeOfPair", "(LValueNumberer$Program;I)J"⟩, 1) := ⟨⟨by decide +kernel, by decide +kernel⟩, List.mem_of_getElem? (i := 240) (by decide +kernel), List.mem_of_getElem? (i := 518) (by decide +kernel), List.mem_of_getElem? (i := 519) (by decide +kernel)⟩
theorem lw_p18 : lw_okq (⟨"ValueNumberer$Reader", "scan", "()V"⟩, 12) := ⟨⟨by decide +kernel, by decide +kernel⟩, List.mem_of_getElem? (i := 24) (by decide +kernel), List.mem_of_getElem? (i := 678) (by decide +kernel), List.mem_of_getElem? (i := 679) (by decide +kernel)⟩
theorem lw_p19 : lw_okq (⟨"ValueNumberer$Reader", "skip", "(II)V"⟩, 12) := ⟨⟨by decide +kernel, by decide +kernel⟩, List.mem_of_getElem? (i := 24) (by decide +kernel), List.mem_of_getElem? (i := 682) (by decide +kernel), List.mem_of_getElem? (i := 683) (by decide +kernel)⟩
theorem lw_p20 : lw_okq (⟨"ValueNumberer$Reader", "scanToken", "(I)I"⟩, 12) := ⟨⟨by decide +kernel, by decide +kernel⟩, List.mem_of_getElem? (i := 24) (by decide +kernel), List.mem_of_getElem? (i := 690) (by decide +kernel), List.mem_of_getElem? (i := 691) (by decide +kernel)⟩
theorem lw_p21 : lw_okq (⟨"ValueNumberer$Reader", "wordFrom", "(I)I"⟩, 12) := ⟨⟨by decide +kernel, by decide +kernel⟩, List.mem_of_getElem? (i := 24) (by decide +kernel), List.mem_of_getElem? (i := 694) (by decide +kernel), List.mem_of_getElem? (i := 695) (by decide +kernel)⟩
theorem lw_p22 : lw_okq (⟨"ValueNumberer$Reader", "isWord", "(ILjava/lang/String;)Z"⟩, 12) := ⟨⟨by decide +kernel, by decide +kernel⟩, List.mem_of_getElem? (i := 24) (by decide +kernel), List.mem_of_getElem? (i := 699) (by decide +kernel), List.mem_of_getElem? (i := 700) (by decide +kernel)⟩
theorem lw_p23 : lw_okq (⟨"ValueNumberer$Reader", "figureFrom", "(I)I"⟩, 12) := ⟨⟨by decide +kernel, by decide +kernel⟩, List.mem_of_getElem? (i := 24) (by decide +kernel), List.mem_of_getElem? (i := 762) (by decide +kernel), List.mem_of_getElem? (i := 763) (by decide +kernel)⟩
theorem lw_p24 : lw_okq (⟨"ValueNumberer$Reader", "readLine", "()Z"⟩, 12) := ⟨⟨by decide +kernel, by decide +kernel⟩, List.mem_of_getElem? (i := 24) (by decide +kernel), List.mem_of_getElem? (i := 770) (by decide +kernel), List.mem_of_getElem? (i := 771) (by decide +kernel)⟩
theorem lw_p25 : lw_okq (⟨"ValueNumberer$Reader", "readHead", "()Z"⟩, 12) := ⟨⟨by decide +kernel, by decide +kernel⟩, List.mem_of_getElem? (i := 24) (by decide +kernel), List.mem_of_getElem? (i := 774) (by decide +kernel), List.mem_of_getElem? (i := 775) (by decide +kernel)⟩
theorem lw_p26 : lw_okq (⟨"ValueNumberer$Reader", "refuse", "(I)Z"⟩, 12) := ⟨⟨by decide +kernel, by decide +kernel⟩, List.mem_of_getElem? (i := 24) (by decide +kernel), List.mem_of_getElem? (i := 778) (by decide +kernel), List.mem_of_getElem? (i := 779) (by decide +kernel)⟩
theorem lw_p27 : lw_okq (⟨"ValueNumberer$Reader", "takeSemicolon", "()Z"⟩, 12) := ⟨⟨by decide +kernel, by decide +kernel⟩, List.mem_of_getElem? (i := 24) (by decide +kernel), List.mem_of_getElem? (i := 786) (by decide +kernel), List.mem_of_getElem? (i := 787) (by decide +kernel)⟩
theorem lw_p28 : lw_okq (⟨"ValueNumberer$Reader", "readName", "()Z"⟩, 12) := ⟨⟨by decide +kernel, by decide +kernel⟩, List.mem_of_getElem? (i := 24) (by decide +kernel), List.mem_of_getElem? (i := 790) (by decide +kernel), List.mem_of_getElem? (i := 791) (by decide +kernel)⟩
theorem lw_p29 : lw_okq (⟨"ValueNumberer$Reader", "readFigure", "(I)Z"⟩, 12) := ⟨⟨by decide +kernel, by decide +kernel⟩, List.mem_of_getElem? (i := 24) (by decide +kernel), List.mem_of_getElem? (i := 798) (by decide +kernel), List.mem_of_getElem? (i := 799) (by decide +kernel)⟩
theorem lw_p30 : lw_okq (⟨"ValueNumberer$Reader", "takeNumber", "(II)Z"⟩, 12) := ⟨⟨by decide +kernel, by decide +kernel⟩, List.mem_of_getElem? (i := 24) (by decide +kernel), List.mem_of_getElem? (i := 803) (by decide +kernel), List.mem_of_getElem? (i := 804) (by decide +kernel)⟩
theorem lw_p31 : lw_okq (⟨"ValueNumberer$Reader", "readOperands", "(I)Z"⟩, 12) := ⟨⟨by decide +kernel, by decide +kernel⟩, List.mem_of_getElem? (i := 24) (by decide +kernel), List.mem_of_getElem? (i := 811) (by decide +kernel), List.mem_of_getElem? (i := 812) (by decide +kernel)⟩
def lw_privs_2 : List (MethodName × Nat) := [(⟨"ValueNumberer$Forms", "codeOfPhi", "(LValueNumberer$Program;I)J"⟩, 1), (⟨"ValueNumberer$Forms", "codeOfPair", "(LValueNumberer$Program;I)J"⟩, 1), (⟨"ValueNumberer$Reader", "scan", "()V"⟩, 12), (⟨"ValueNumberer$Reader", "skip", "(II)V"⟩, 12), (⟨"ValueNumberer$Reader", "scanToken", "(I)I"⟩, 12), (⟨"ValueNumberer$Reader", "wordFrom", "(I)I"⟩, 12), (⟨"ValueNumberer$Reader", "isWord", "(ILjava/lang/String;)Z"⟩, 12), (⟨"ValueNumberer$Reader", "figureFrom", "(I)I"⟩, 12), (⟨"ValueNumberer$Reader", "readLine", "()Z"⟩, 12), (⟨"ValueNumberer$Reader", "readHead", "()Z"⟩, 12), (⟨"ValueNumberer$Reader", "refuse", "(I)Z"⟩, 12), (⟨"ValueNumberer$Reader", "takeSemicolon", "()Z"⟩, 12), (⟨"ValueNumberer$Reader", "readName", "()Z"⟩, 12), (⟨"ValueNumberer$Reader", "readFigure", "(I)Z"⟩, 12), (⟨"ValueNumberer$Reader", "takeNumber", "(II)Z"⟩, 12), (⟨"ValueNumberer$Reader", "readOperands", "(I)Z"⟩, 12)]
theorem lw_r2 : ∀ q ∈ lw_privs_2, lw_okq q := List.forall_mem_cons.mpr ⟨lw_p16, List.forall_mem_cons.mpr ⟨lw_p17, List.forall_mem_cons.mpr ⟨lw_p18, List.forall_mem_cons.mpr ⟨lw_p19, List.forall_mem_cons.mpr ⟨lw_p20, List.forall_mem_cons.mpr ⟨lw_p21, List.forall_mem_cons.mpr ⟨lw_p22, List.forall_mem_cons.mpr ⟨lw_p23, List.forall_mem_cons.mpr ⟨lw_p24, List.forall_mem_cons.mpr ⟨lw_p25, List.forall_mem_cons.mpr ⟨lw_p26, List.forall_mem_cons.mpr ⟨lw_p27, List.forall_mem_cons.mpr ⟨lw_p28, List.forall_mem_cons.mpr ⟨lw_p29, List.forall_mem_cons.mpr ⟨lw_p30, List.forall_mem_cons.mpr ⟨lw_p31, fun _ h => absurd h List.not_mem_nil⟩⟩⟩⟩⟩⟩⟩⟩⟩⟩⟩⟩⟩⟩⟩⟩
theorem lw_p32 : lw_okq (⟨"ValueNumberer$Reader", "readEnd", "()Z"⟩, 12) := ⟨⟨by decide +kernel, by decide +kernel⟩, List.mem_of_getElem? (i := 24) (by decide +kernel), List.mem_of_getElem? (i := 819) (by decide +kernel), List.mem_of_getElem? (i := 820) (by decide +kernel)⟩
def lw_privs_3 : List (MethodName × Nat) := [(⟨"ValueNumberer$Reader", "readEnd", "()Z"⟩, 12)]
theorem lw_r3 : ∀ q ∈ lw_privs_3, lw_okq q := List.forall_mem_cons.mpr ⟨lw_p32, fun _ h => absurd h List.not_mem_nil⟩
def lw_privs : List (MethodName × Nat) := lw_privs_1 ++ (lw_privs_2 ++ (lw_privs_3))
def lw_tbl : List Cond := k2_sels lw_privs ++ tables_1
theorem lw_privs_ok : ∀ q ∈ lw_privs, lw_okq q := by
  show ∀ q ∈ lw_privs_1 ++ (lw_privs_2 ++ (lw_privs_3)), lw_okq q
  exact List.forall_mem_append.mpr ⟨lw_r1, List.forall_mem_append.mpr ⟨lw_r2, lw_r3⟩⟩
def RX0 : String := "ValueNumberer$Classes"
def TX0 : u_T := fun k => match k with
  | 0 => ("ValueNumberer$Classes", "first", "[I", true)
  | 1 => ("ValueNumberer$Classes", "rounds", "I", false)
  | _ => ("ValueNumberer$Classes", "next", "[I", true)
def tyX0 : Nat → FieldType := fun k => match k with
  | 0 => .array .int
  | 1 => .int
  | _ => .array .int
abbrev wsX00 : List Cond := u_ws RX0 TX0 3
theorem nmX0 : ∀ a, a < 3 → ∀ b, b < 3 → a ≠ b → (TX0 a).2.1 ≠ (TX0 b).2.1 := by decide +kernel
theorem tyX0_ok : ∀ k, k < 3 → parseFieldDescriptor (TX0 k).2.2.1 = some (tyX0 k) := by decide +kernel
abbrev cX0_init : ByteArray := prog_2_method_1_code
def yX0_init : MethodName := ⟨RX0, "<init>", "()V"⟩
abbrev cX0_split : ByteArray := prog_2_method_2_code
def yX0_split : MethodName := ⟨RX0, "split", "(LValueNumberer$Program;I)V"⟩
abbrev cX0_firstAtStart : ByteArray := prog_2_method_3_code
def yX0_firstAtStart : MethodName := ⟨RX0, "firstAtStart", "(LValueNumberer$Program;I)I"⟩
abbrev cX0_isHopeful : ByteArray := prog_2_method_4_code
def yX0_isHopeful : MethodName := ⟨RX0, "isHopeful", "(LValueNumberer$Program;II)Z"⟩
abbrev cX0_splitOnce : ByteArray := prog_2_method_5_code
def yX0_splitOnce : MethodName := ⟨RX0, "splitOnce", "(LValueNumberer$Program;)Z"⟩
abbrev cX0_areOperandsAlike : ByteArray := prog_2_method_6_code
def yX0_areOperandsAlike : MethodName := ⟨RX0, "areOperandsAlike", "(LValueNumberer$Program;II)Z"⟩
abbrev cX0_isAlike : ByteArray := prog_2_method_7_code
def yX0_isAlike : MethodName := ⟨RX0, "isAlike", "(LValueNumberer$Program;IIII)Z"⟩
abbrev cX0_countClasses : ByteArray := prog_2_method_8_code
def yX0_countClasses : MethodName := ⟨RX0, "countClasses", "(LValueNumberer$Program;)I"⟩
abbrev cX0_greatestClass : ByteArray := prog_2_method_9_code
def yX0_greatestClass : MethodName := ⟨RX0, "greatestClass", "(LValueNumberer$Program;)I"⟩
abbrev cX0_sizeOf : ByteArray := prog_2_method_10_code
def yX0_sizeOf : MethodName := ⟨RX0, "sizeOf", "(LValueNumberer$Program;I)I"⟩
abbrev cX0_leaderOf : ByteArray := prog_2_method_11_code
def yX0_leaderOf : MethodName := ⟨RX0, "leaderOf", "(LValueNumberer$Program;I)I"⟩
def RX1 : String := "ValueNumberer$Forms"
def TX1 : u_T := fun k => match k with
  | _ => ("ValueNumberer$Forms", "codes", "[J", true)
def tyX1 : Nat → FieldType := fun k => match k with
  | _ => .array .long
abbrev wsX10 : List Cond := u_ws RX1 TX1 1
theorem nmX1 : ∀ a, a < 1 → ∀ b, b < 1 → a ≠ b → (TX1 a).2.1 ≠ (TX1 b).2.1 := by decide +kernel
theorem tyX1_ok : ∀ k, k < 1 → parseFieldDescriptor (TX1 k).2.2.1 = some (tyX1 k) := by decide +kernel
abbrev cX1_init : ByteArray := prog_3_method_1_code
def yX1_init : MethodName := ⟨RX1, "<init>", "()V"⟩
abbrev cX1_find : ByteArray := prog_3_method_2_code
def yX1_find : MethodName := ⟨RX1, "find", "(LValueNumberer$Program;)V"⟩
abbrev cX1_nameOf : ByteArray := prog_3_method_3_code
def yX1_nameOf : MethodName := ⟨RX1, "nameOf", "(I)I"⟩
abbrev cX1_numberOf : ByteArray := prog_3_method_4_code
def yX1_numberOf : MethodName := ⟨RX1, "numberOf", "(I)J"⟩
abbrev cX1_isName : ByteArray := prog_3_method_5_code
def yX1_isName : MethodName := ⟨RX1, "isName", "(J)Z"⟩
abbrev cX1_codeOf : ByteArray := prog_3_method_6_code
def yX1_codeOf : MethodName := ⟨RX1, "codeOf", "(LValueNumberer$Program;I)J"⟩
abbrev cX1_codeOfNeg : ByteArray := prog_3_method_7_code
def yX1_codeOfNeg : MethodName := ⟨RX1, "codeOfNeg", "(LValueNumberer$Program;I)J"⟩
abbrev cX1_codeOfPair : ByteArray := prog_3_method_8_code
def yX1_codeOfPair : MethodName := ⟨RX1, "codeOfPair", "(LValueNumberer$Program;I)J"⟩
abbrev cX1_codeOfPhi : ByteArray := prog_3_method_9_code
def yX1_codeOfPhi : MethodName := ⟨RX1, "codeOfPhi", "(LValueNumberer$Program;I)J"⟩
abbrev cX1_earlier : ByteArray := prog_3_method_10_code
def yX1_earlier : MethodName := ⟨RX1, "earlier", "(LValueNumberer$Program;I)J"⟩
abbrev cX1_isSame : ByteArray := prog_3_method_11_code
def yX1_isSame : MethodName := ⟨RX1, "isSame", "(LValueNumberer$Program;II)Z"⟩
abbrev cX1_isSameOperand : ByteArray := prog_3_method_12_code
def yX1_isSameOperand : MethodName := ⟨RX1, "isSameOperand", "(LValueNumberer$Program;IIII)Z"⟩
def RX2 : String := "ValueNumberer$Machine"
def TX2 : u_T := fun k => match k with
  | 0 => ("ValueNumberer$Machine", "arguments", "[I", true)
  | 1 => ("ValueNumberer$Machine", "values", "[J", true)
  | 2 => ("ValueNumberer$Machine", "hasRun", "Z", false)
  | 3 => ("ValueNumberer$Machine", "returned", "Z", false)
  | 4 => ("ValueNumberer$Machine", "steps", "I", false)
  | 5 => ("ValueNumberer$Machine", "got", "I", false)
  | 6 => ("ValueNumberer$Machine", "differences", "I", false)
  | 7 => ("ValueNumberer$Machine", "coming", "[J", true)
  | 8 => ("ValueNumberer$Machine", "watched", "I", false)
  | _ => ("ValueNumberer$Machine", "compared", "I", false)
def tyX2 : Nat → FieldType := fun k => match k with
  | 0 => .array .int
  | 1 => .array .long
  | 2 => .boolean
  | 3 => .boolean
  | 4 => .int
  | 5 => .int
  | 6 => .int
  | 7 => .array .long
  | 8 => .int
  | _ => .int
abbrev wsX20 : List Cond := u_ws RX2 TX2 10
theorem nmX2 : ∀ a, a < 10 → ∀ b, b < 10 → a ≠ b → (TX2 a).2.1 ≠ (TX2 b).2.1 := by decide +kernel
theorem tyX2_ok : ∀ k, k < 10 → parseFieldDescriptor (TX2 k).2.2.1 = some (tyX2 k) := by decide +kernel
abbrev cX2_init : ByteArray := prog_4_method_1_code
def yX2_init : MethodName := ⟨RX2, "<init>", "()V"⟩
abbrev cX2_forget : ByteArray := prog_4_method_2_code
def yX2_forget : MethodName := ⟨RX2, "forget", "()V"⟩
abbrev cX2_give : ByteArray := prog_4_method_3_code
def yX2_give : MethodName := ⟨RX2, "give", "(IIII)V"⟩
abbrev cX2_giveBySeed : ByteArray := prog_4_method_4_code
def yX2_giveBySeed : MethodName := ⟨RX2, "giveBySeed", "(I)I"⟩
abbrev cX2_watch : ByteArray := prog_4_method_5_code
def yX2_watch : MethodName := ⟨RX2, "watch", "(II)V"⟩
abbrev cX2_go : ByteArray := prog_4_method_6_code
def yX2_go : MethodName := ⟨RX2, "go", "(LValueNumberer$Program;)J"⟩
abbrev cX2_nextBlock : ByteArray := prog_4_method_7_code
def yX2_nextBlock : MethodName := ⟨RX2, "nextBlock", "(LValueNumberer$Program;I)I"⟩
abbrev cX2_pass : ByteArray := prog_4_method_8_code
def yX2_pass : MethodName := ⟨RX2, "pass", "(LValueNumberer$Program;II)V"⟩
abbrev cX2_passPhis : ByteArray := prog_4_method_9_code
def yX2_passPhis : MethodName := ⟨RX2, "passPhis", "(LValueNumberer$Program;III)V"⟩
abbrev cX2_bringOf : ByteArray := prog_4_method_10_code
def yX2_bringOf : MethodName := ⟨RX2, "bringOf", "(LValueNumberer$Program;I)J"⟩
abbrev cX2_compare : ByteArray := prog_4_method_11_code
def yX2_compare : MethodName := ⟨RX2, "compare", "()V"⟩
def RX3 : String := "ValueNumberer$Program"
def TX3 : u_T := fun k => match k with
  | 0 => ("ValueNumberer$Program", "blocks", "I", false)
  | 1 => ("ValueNumberer$Program", "names", "I", false)
  | 2 => ("ValueNumberer$Program", "first", "[I", true)
  | 3 => ("ValueNumberer$Program", "size", "[I", true)
  | 4 => ("ValueNumberer$Program", "ending", "[I", true)
  | 5 => ("ValueNumberer$Program", "goal", "[I", true)
  | 6 => ("ValueNumberer$Program", "other", "[I", true)
  | 7 => ("ValueNumberer$Program", "asked", "[I", true)
  | 8 => ("ValueNumberer$Program", "preds", "[I", true)
  | 9 => ("ValueNumberer$Program", "predRows", "[[I", true)
  | 10 => ("ValueNumberer$Program", "dominators", "[I", true)
  | 11 => ("ValueNumberer$Program", "kind", "[I", true)
  | 12 => ("ValueNumberer$Program", "home", "[I", true)
  | 13 => ("ValueNumberer$Program", "arity", "[I", true)
  | 14 => ("ValueNumberer$Program", "figure", "[I", true)
  | 15 => ("ValueNumberer$Program", "operandRows", "[[I", true)
  | _ => ("ValueNumberer$Program", "needed", "[Z", true)
def tyX3 : Nat → FieldType := fun k => match k with
  | 0 => .int
  | 1 => .int
  | 2 => .array .int
  | 3 => .array .int
  | 4 => .array .int
  | 5 => .array .int
  | 6 => .array .int
  | 7 => .array .int
  | 8 => .array .int
  | 9 => .array (.array .int)
  | 10 => .array .int
  | 11 => .array .int
  | 12 => .array .int
  | 13 => .array .int
  | 14 => .array .int
  | 15 => .array (.array .int)
  | _ => .array .boolean
abbrev wsX30 : List Cond := u_ws RX3 TX3 17
theorem nmX3 : ∀ a, a < 17 → ∀ b, b < 17 → a ≠ b → (TX3 a).2.1 ≠ (TX3 b).2.1 := by decide +kernel
theorem tyX3_ok : ∀ k, k < 17 → parseFieldDescriptor (TX3 k).2.2.1 = some (tyX3 k) := by decide +kernel
abbrev cX3_init : ByteArray := prog_5_method_1_code
def yX3_init : MethodName := ⟨RX3, "<init>", "()V"⟩
abbrev cX3_clear : ByteArray := prog_5_method_2_code
def yX3_clear : MethodName := ⟨RX3, "clear", "()V"⟩
abbrev cX3_openBlock : ByteArray := prog_5_method_3_code
def yX3_openBlock : MethodName := ⟨RX3, "openBlock", "()Z"⟩
abbrev cX3_openName : ByteArray := prog_5_method_4_code
def yX3_openName : MethodName := ⟨RX3, "openName", "(I)Z"⟩
abbrev cX3_putFigure : ByteArray := prog_5_method_5_code
def yX3_putFigure : MethodName := ⟨RX3, "putFigure", "(I)V"⟩
abbrev cX3_putOperand : ByteArray := prog_5_method_6_code
def yX3_putOperand : MethodName := ⟨RX3, "putOperand", "(I)V"⟩
abbrev cX3_putEnd : ByteArray := prog_5_method_7_code
def yX3_putEnd : MethodName := ⟨RX3, "putEnd", "(I)V"⟩
abbrev cX3_putAsked : ByteArray := prog_5_method_8_code
def yX3_putAsked : MethodName := ⟨RX3, "putAsked", "(I)V"⟩
abbrev cX3_putGoal : ByteArray := prog_5_method_9_code
def yX3_putGoal : MethodName := ⟨RX3, "putGoal", "(I)V"⟩
abbrev cX3_putOther : ByteArray := prog_5_method_10_code
def yX3_putOther : MethodName := ⟨RX3, "putOther", "(I)V"⟩
abbrev cX3_copyFrom : ByteArray := prog_5_method_11_code
def yX3_copyFrom : MethodName := ⟨RX3, "copyFrom", "(LValueNumberer$Program;)V"⟩
abbrev cX3_hasBlock : ByteArray := prog_5_method_12_code
def yX3_hasBlock : MethodName := ⟨RX3, "hasBlock", "(I)Z"⟩
abbrev cX3_hasName : ByteArray := prog_5_method_13_code
def yX3_hasName : MethodName := ⟨RX3, "hasName", "(I)Z"⟩
abbrev cX3_hasOperand : ByteArray := prog_5_method_14_code
def yX3_hasOperand : MethodName := ⟨RX3, "hasOperand", "(II)Z"⟩
abbrev cX3_hasFigure : ByteArray := prog_5_method_15_code
def yX3_hasFigure : MethodName := ⟨RX3, "hasFigure", "(I)Z"⟩
abbrev cX3_successors : ByteArray := prog_5_method_16_code
def yX3_successors : MethodName := ⟨RX3, "successors", "(I)I"⟩
abbrev cX3_reachOutside : ByteArray := prog_5_method_17_code
def yX3_reachOutside : MethodName := ⟨RX3, "reachOutside", "(I)I"⟩
abbrev cX3_findDominators : ByteArray := prog_5_method_18_code
def yX3_findDominators : MethodName := ⟨RX3, "findDominators", "()V"⟩
abbrev cX3_findPreds : ByteArray := prog_5_method_19_code
def yX3_findPreds : MethodName := ⟨RX3, "findPreds", "()V"⟩
abbrev cX3_routeFrom : ByteArray := prog_5_method_21_code
def yX3_routeFrom : MethodName := ⟨RX3, "routeFrom", "(II)I"⟩
abbrev cX3_isSeen : ByteArray := prog_5_method_22_code
def yX3_isSeen : MethodName := ⟨RX3, "isSeen", "(II)Z"⟩
abbrev cX3_isSeenAtEnd : ByteArray := prog_5_method_23_code
def yX3_isSeenAtEnd : MethodName := ⟨RX3, "isSeenAtEnd", "(II)Z"⟩
abbrev cX3_isSeenByOperand : ByteArray := prog_5_method_24_code
def yX3_isSeenByOperand : MethodName := ⟨RX3, "isSeenByOperand", "(III)Z"⟩
abbrev cX3_isSound : ByteArray := prog_5_method_25_code
def yX3_isSound : MethodName := ⟨RX3, "isSound", "()Z"⟩
abbrev cX3_areOperandsSound : ByteArray := prog_5_method_26_code
def yX3_areOperandsSound : MethodName := ⟨RX3, "areOperandsSound", "(I)Z"⟩
abbrev cX3_looksBehind : ByteArray := prog_5_method_27_code
def yX3_looksBehind : MethodName := ⟨RX3, "looksBehind", "(I)Z"⟩
abbrev cX3_countKind : ByteArray := prog_5_method_28_code
def yX3_countKind : MethodName := ⟨RX3, "countKind", "(I)I"⟩
abbrev cX3_countOperands : ByteArray := prog_5_method_29_code
def yX3_countOperands : MethodName := ⟨RX3, "countOperands", "()I"⟩
abbrev cX3_countUses : ByteArray := prog_5_method_30_code
def yX3_countUses : MethodName := ⟨RX3, "countUses", "(I)I"⟩
abbrev cX3_exchange : ByteArray := prog_5_method_32_code
def yX3_exchange : MethodName := ⟨RX3, "exchange", "([I)I"⟩
abbrev cX3_dropUnneeded : ByteArray := prog_5_method_33_code
def yX3_dropUnneeded : MethodName := ⟨RX3, "dropUnneeded", "()I"⟩
abbrev cX3_findNeeded : ByteArray := prog_5_method_34_code
def yX3_findNeeded : MethodName := ⟨RX3, "findNeeded", "()V"⟩
abbrev cX3_markOperands : ByteArray := prog_5_method_35_code
def yX3_markOperands : MethodName := ⟨RX3, "markOperands", "(I)V"⟩
def RX4 : String := "ValueNumberer$Reader"
def TX4 : u_T := fun k => match k with
  | 0 => ("ValueNumberer$Reader", "tape", "LValueNumberer$Tape;", true)
  | 1 => ("ValueNumberer$Reader", "draft", "LValueNumberer$Program;", true)
  | 2 => ("ValueNumberer$Reader", "fault", "I", false)
  | 3 => ("ValueNumberer$Reader", "faultPlace", "I", false)
  | 4 => ("ValueNumberer$Reader", "tokens", "[I", true)
  | 5 => ("ValueNumberer$Reader", "starts", "[I", true)
  | 6 => ("ValueNumberer$Reader", "figures", "[I", true)
  | 7 => ("ValueNumberer$Reader", "at", "I", false)
  | 8 => ("ValueNumberer$Reader", "place", "I", false)
  | 9 => ("ValueNumberer$Reader", "taken", "I", false)
  | 10 => ("ValueNumberer$Reader", "isInBlock", "Z", false)
  | _ => ("ValueNumberer$Reader", "isPhiOver", "Z", false)
def tyX4 : Nat → FieldType := fun k => match k with
  | 0 => .object "ValueNumberer$Tape"
  | 1 => .object "ValueNumberer$Program"
  | 2 => .int
  | 3 => .int
  | 4 => .array .int
  | 5 => .array .int
  | 6 => .array .int
  | 7 => .int
  | 8 => .int
  | 9 => .int
  | 10 => .boolean
  | _ => .boolean
abbrev wsX40 : List Cond := u_ws RX4 TX4 12
theorem nmX4 : ∀ a, a < 12 → ∀ b, b < 12 → a ≠ b → (TX4 a).2.1 ≠ (TX4 b).2.1 := by decide +kernel
theorem tyX4_ok : ∀ k, k < 12 → parseFieldDescriptor (TX4 k).2.2.1 = some (tyX4 k) := by decide +kernel
abbrev cX4_init : ByteArray := prog_6_method_1_code
def yX4_init : MethodName := ⟨RX4, "<init>", "()V"⟩
abbrev cX4_readText : ByteArray := prog_6_method_2_code
def yX4_readText : MethodName := ⟨RX4, "readText", "()Z"⟩
abbrev cX4_refuse : ByteArray := prog_6_method_3_code
def yX4_refuse : MethodName := ⟨RX4, "refuse", "(I)Z"⟩
abbrev cX4_readLine : ByteArray := prog_6_method_4_code
def yX4_readLine : MethodName := ⟨RX4, "readLine", "()Z"⟩
abbrev cX4_readHead : ByteArray := prog_6_method_5_code
def yX4_readHead : MethodName := ⟨RX4, "readHead", "()Z"⟩
abbrev cX4_readName : ByteArray := prog_6_method_6_code
def yX4_readName : MethodName := ⟨RX4, "readName", "()Z"⟩
abbrev cX4_readFigure : ByteArray := prog_6_method_7_code
def yX4_readFigure : MethodName := ⟨RX4, "readFigure", "(I)Z"⟩
abbrev cX4_readOperands : ByteArray := prog_6_method_8_code
def yX4_readOperands : MethodName := ⟨RX4, "readOperands", "(I)Z"⟩
abbrev cX4_readEnd : ByteArray := prog_6_method_9_code
def yX4_readEnd : MethodName := ⟨RX4, "readEnd", "()Z"⟩
abbrev cX4_takeSemicolon : ByteArray := prog_6_method_10_code
def yX4_takeSemicolon : MethodName := ⟨RX4, "takeSemicolon", "()Z"⟩
abbrev cX4_takeNumber : ByteArray := prog_6_method_11_code
def yX4_takeNumber : MethodName := ⟨RX4, "takeNumber", "(II)Z"⟩
abbrev cX4_scan : ByteArray := prog_6_method_12_code
def yX4_scan : MethodName := ⟨RX4, "scan", "()V"⟩
abbrev cX4_scanToken : ByteArray := prog_6_method_13_code
def yX4_scanToken : MethodName := ⟨RX4, "scanToken", "(I)I"⟩
abbrev cX4_skip : ByteArray := prog_6_method_14_code
def yX4_skip : MethodName := ⟨RX4, "skip", "(II)V"⟩
abbrev cX4_figureFrom : ByteArray := prog_6_method_15_code
def yX4_figureFrom : MethodName := ⟨RX4, "figureFrom", "(I)I"⟩
abbrev cX4_wordFrom : ByteArray := prog_6_method_16_code
def yX4_wordFrom : MethodName := ⟨RX4, "wordFrom", "(I)I"⟩
abbrev cX4_isWord : ByteArray := prog_6_method_17_code
def yX4_isWord : MethodName := ⟨RX4, "isWord", "(ILjava/lang/String;)Z"⟩
def RX5 : String := "ValueNumberer$Sheets"
def TX5 : u_T := fun k => match k with
  | 0 => ("ValueNumberer$Sheets", "length", "[I", true)
  | 1 => ("ValueNumberer$Sheets", "torn", "I", false)
  | 2 => ("ValueNumberer$Sheets", "lanes", "[I", true)
  | _ => ("ValueNumberer$Sheets", "cells", "[[I", true)
def tyX5 : Nat → FieldType := fun k => match k with
  | 0 => .array .int
  | 1 => .int
  | 2 => .array .int
  | _ => .array (.array .int)
abbrev wsX50 : List Cond := u_ws RX5 TX5 4
theorem nmX5 : ∀ a, a < 4 → ∀ b, b < 4 → a ≠ b → (TX5 a).2.1 ≠ (TX5 b).2.1 := by decide +kernel
theorem tyX5_ok : ∀ k, k < 4 → parseFieldDescriptor (TX5 k).2.2.1 = some (tyX5 k) := by decide +kernel
abbrev cX5_init : ByteArray := prog_7_method_1_code
def yX5_init : MethodName := ⟨RX5, "<init>", "()V"⟩
def RX6 : String := "ValueNumberer$Tape"
def TX6 : u_T := fun k => match k with
  | 0 => ("ValueNumberer$Tape", "bytes", "[B", true)
  | _ => ("ValueNumberer$Tape", "length", "I", false)
def tyX6 : Nat → FieldType := fun k => match k with
  | 0 => .array .byte
  | _ => .int
abbrev wsX60 : List Cond := u_ws RX6 TX6 2
theorem nmX6 : ∀ a, a < 2 → ∀ b, b < 2 → a ≠ b → (TX6 a).2.1 ≠ (TX6 b).2.1 := by decide +kernel
theorem tyX6_ok : ∀ k, k < 2 → parseFieldDescriptor (TX6 k).2.2.1 = some (tyX6 k) := by decide +kernel
abbrev cX6_init : ByteArray := prog_8_method_1_code
def yX6_init : MethodName := ⟨RX6, "<init>", "()V"⟩
abbrev cX6_push : ByteArray := prog_8_method_2_code
def yX6_push : MethodName := ⟨RX6, "push", "(I)Z"⟩
abbrev cX6_has : ByteArray := prog_8_method_3_code
def yX6_has : MethodName := ⟨RX6, "has", "(III)Z"⟩
def RX7 : String := "ValueNumberer"
def TX7 : u_T := fun k => match k with
  | 0 => ("ValueNumberer", "reader", "LValueNumberer$Reader;", true)
  | 1 => ("ValueNumberer", "latest", "LValueNumberer$Machine;", true)
  | 2 => ("ValueNumberer", "trial", "LValueNumberer$Machine;", true)
  | 3 => ("ValueNumberer", "alike", "LValueNumberer$Classes;", true)
  | 4 => ("ValueNumberer", "forms", "LValueNumberer$Forms;", true)
  | 5 => ("ValueNumberer", "sheets", "LValueNumberer$Sheets;", true)
  | 6 => ("ValueNumberer", "images", "[LValueNumberer$Program;", true)
  | 7 => ("ValueNumberer", "kept", "[Z", true)
  | 8 => ("ValueNumberer", "leaders", "[I", true)
  | _ => ("ValueNumberer", "told", "LValueNumberer$Program;", true)
def tyX7 : Nat → FieldType := fun k => match k with
  | 0 => .object "ValueNumberer$Reader"
  | 1 => .object "ValueNumberer$Machine"
  | 2 => .object "ValueNumberer$Machine"
  | 3 => .object "ValueNumberer$Classes"
  | 4 => .object "ValueNumberer$Forms"
  | 5 => .object "ValueNumberer$Sheets"
  | 6 => .array (.object "ValueNumberer$Program")
  | 7 => .array .boolean
  | 8 => .array .int
  | _ => .object "ValueNumberer$Program"
abbrev wsX70 : List Cond := u_ws RX7 TX7 10
theorem nmX7 : ∀ a, a < 10 → ∀ b, b < 10 → a ≠ b → (TX7 a).2.1 ≠ (TX7 b).2.1 := by decide +kernel
theorem tyX7_ok : ∀ k, k < 10 → parseFieldDescriptor (TX7 k).2.2.1 = some (tyX7 k) := by decide +kernel
abbrev cX7_init : ByteArray := prog_1_method_1_code
def yX7_init : MethodName := ⟨RX7, "<init>", "()V"⟩
abbrev cX7_feed : ByteArray := prog_1_method_2_code
def yX7_feed : MethodName := ⟨RX7, "feed", "(I)I"⟩
abbrev cX7_text : ByteArray := prog_1_method_4_code
def yX7_text : MethodName := ⟨RX7, "text", "()I"⟩
abbrev cX7_fault : ByteArray := prog_1_method_5_code
def yX7_fault : MethodName := ⟨RX7, "fault", "()I"⟩
abbrev cX7_rule : ByteArray := prog_1_method_6_code
def yX7_rule : MethodName := ⟨RX7, "rule", "(I)I"⟩
abbrev cX7_name : ByteArray := prog_1_method_9_code
def yX7_name : MethodName := ⟨RX7, "name", "(II)I"⟩
abbrev cX7_operand : ByteArray := prog_1_method_10_code
def yX7_operand : MethodName := ⟨RX7, "operand", "(II)I"⟩
abbrev cX7_seen : ByteArray := prog_1_method_11_code
def yX7_seen : MethodName := ⟨RX7, "seen", "(II)I"⟩
abbrev cX7_run : ByteArray := prog_1_method_12_code
def yX7_run : MethodName := ⟨RX7, "run", "(IIII)J"⟩
abbrev cX7_value : ByteArray := prog_1_method_13_code
def yX7_value : MethodName := ⟨RX7, "value", "(I)J"⟩
abbrev cX7_went : ByteArray := prog_1_method_14_code
def yX7_went : MethodName := ⟨RX7, "went", "(I)I"⟩
abbrev cX7_classes : ByteArray := prog_1_method_15_code
def yX7_classes : MethodName := ⟨RX7, "classes", "(I)I"⟩
abbrev cX7_part : ByteArray := prog_1_method_16_code
def yX7_part : MethodName := ⟨RX7, "part", "(I)I"⟩
abbrev cX7_partAt : ByteArray := prog_1_method_17_code
def yX7_partAt : MethodName := ⟨RX7, "partAt", "(II)I"⟩
abbrev cX7_leader : ByteArray := prog_1_method_18_code
def yX7_leader : MethodName := ⟨RX7, "leader", "(I)I"⟩
abbrev cX7_form : ByteArray := prog_1_method_19_code
def yX7_form : MethodName := ⟨RX7, "form", "(I)I"⟩
abbrev cX7_number : ByteArray := prog_1_method_20_code
def yX7_number : MethodName := ⟨RX7, "number", "(I)J"⟩
abbrev cX7_replace : ByteArray := prog_1_method_21_code
def yX7_replace : MethodName := ⟨RX7, "replace", "()I"⟩
abbrev cX7_sweep : ByteArray := prog_1_method_22_code
def yX7_sweep : MethodName := ⟨RX7, "sweep", "()I"⟩
abbrev cX7_set : ByteArray := prog_1_method_23_code
def yX7_set : MethodName := ⟨RX7, "set", "(III)I"⟩
abbrev cX7_alter : ByteArray := prog_1_method_24_code
def yX7_alter : MethodName := ⟨RX7, "alter", "(II)I"⟩
abbrev cX7_agree : ByteArray := prog_1_method_25_code
def yX7_agree : MethodName := ⟨RX7, "agree", "(IIIII)I"⟩
abbrev cX7_keep : ByteArray := prog_1_method_26_code
def yX7_keep : MethodName := ⟨RX7, "keep", "(I)I"⟩
abbrev cX7_back : ByteArray := prog_1_method_27_code
def yX7_back : MethodName := ⟨RX7, "back", "(I)I"⟩
abbrev cX7_highestFigure : ByteArray := prog_1_method_35_code
def yX7_highestFigure : MethodName := ⟨RX7, "highestFigure", "(I)I"⟩
abbrev cX7_hasBit : ByteArray := prog_1_method_36_code
def yX7_hasBit : MethodName := ⟨RX7, "hasBit", "(II)Z"⟩
abbrev cX7_bring : ByteArray := prog_1_method_37_code
def yX7_bring : MethodName := ⟨RX7, "bring", "(IJJ)J"⟩
def RX8 : String := "ValueNumbererModel"
def TX8 : u_T := fun k => match k with
  | _ => ("", "", "", false)
def tyX8 : Nat → FieldType := fun k => match k with
  | _ => .int
abbrev wsX80 : List Cond := u_ws RX8 TX8 0
theorem nmX8 : ∀ a, a < 0 → ∀ b, b < 0 → a ≠ b → (TX8 a).2.1 ≠ (TX8 b).2.1 := by decide +kernel
theorem tyX8_ok : ∀ k, k < 0 → parseFieldDescriptor (TX8 k).2.2.1 = some (tyX8 k) := by decide +kernel
def RJ9 : String := "java/lang/Math"
def TJ9 : u_T := fun k => match k with
  | _ => ("", "", "", false)
def tyJ9 : Nat → FieldType := fun k => match k with
  | _ => .int
abbrev wsJ90 : List Cond := u_ws RJ9 TJ9 0
theorem nmJ9 : ∀ a, a < 0 → ∀ b, b < 0 → a ≠ b → (TJ9 a).2.1 ≠ (TJ9 b).2.1 := by decide +kernel
theorem tyJ9_ok : ∀ k, k < 0 → parseFieldDescriptor (TJ9 k).2.2.1 = some (tyJ9 k) := by decide +kernel
abbrev cJ9_max_7cf53 : ByteArray := prog_11_method_65_code
def yJ9_max_7cf53 : MethodName := ⟨RJ9, "max", "(II)I"⟩
def RJ0 : String := "java/lang/String"
def TJ0 : u_T := fun k => match k with
  | _ => ("", "", "", false)
def tyJ0 : Nat → FieldType := fun k => match k with
  | _ => .int
abbrev wsJ00 : List Cond := u_ws RJ0 TJ0 0
theorem nmJ0 : ∀ a, a < 0 → ∀ b, b < 0 → a ≠ b → (TJ0 a).2.1 ≠ (TJ0 b).2.1 := by decide +kernel
theorem tyJ0_ok : ∀ k, k < 0 → parseFieldDescriptor (TJ0 k).2.2.1 = some (tyJ0 k) := by decide +kernel
abbrev cJ0_length_8abf5 : ByteArray := prog_12_method_54_code
def yJ0_length_8abf5 : MethodName := ⟨RJ0, "length", "()I"⟩
abbrev cJ0_charAt_5068e : ByteArray := prog_12_method_56_code
def yJ0_charAt_5068e : MethodName := ⟨RJ0, "charAt", "(I)C"⟩
abbrev cJ0_coder_7d493 : ByteArray := prog_12_method_152_code
def yJ0_coder_7d493 : MethodName := ⟨RJ0, "coder", "()B"⟩
abbrev cJ0_isLatin1_aae02 : ByteArray := prog_12_method_154_code
def yJ0_isLatin1_aae02 : MethodName := ⟨RJ0, "isLatin1", "()Z"⟩
abbrev cJ0_checkIndex_df160 : ByteArray := prog_12_method_155_code
def yJ0_checkIndex_df160 : MethodName := ⟨RJ0, "checkIndex", "(II)V"⟩
def RJ1 : String := "java/lang/StringLatin1"
def TJ1 : u_T := fun k => match k with
  | _ => ("", "", "", false)
def tyJ1 : Nat → FieldType := fun k => match k with
  | _ => .int
abbrev wsJ10 : List Cond := u_ws RJ1 TJ1 0
theorem nmJ1 : ∀ a, a < 0 → ∀ b, b < 0 → a ≠ b → (TJ1 a).2.1 ≠ (TJ1 b).2.1 := by decide +kernel
theorem tyJ1_ok : ∀ k, k < 0 → parseFieldDescriptor (TJ1 k).2.2.1 = some (tyJ1 k) := by decide +kernel
abbrev cJ1_charAt_3b067 : ByteArray := prog_13_method_2_code
def yJ1_charAt_3b067 : MethodName := ⟨RJ1, "charAt", "([BI)C"⟩
def RJ2 : String := "java/lang/StringUTF16"
def TJ2 : u_T := fun k => match k with
  | _ => ("", "", "", false)
def tyJ2 : Nat → FieldType := fun k => match k with
  | _ => .int
abbrev wsJ20 : List Cond := u_ws RJ2 TJ2 0
theorem nmJ2 : ∀ a, a < 0 → ∀ b, b < 0 → a ≠ b → (TJ2 a).2.1 ≠ (TJ2 b).2.1 := by decide +kernel
theorem tyJ2_ok : ∀ k, k < 0 → parseFieldDescriptor (TJ2 k).2.2.1 = some (tyJ2 k) := by decide +kernel
abbrev cJ2_getChar_3b067 : ByteArray := prog_14_method_5_code
def yJ2_getChar_3b067 : MethodName := ⟨RJ2, "getChar", "([BI)C"⟩
abbrev cJ2_length_9d52b : ByteArray := prog_14_method_6_code
def yJ2_length_9d52b : MethodName := ⟨RJ2, "length", "([B)I"⟩
abbrev cJ2_charAt_3b067 : ByteArray := prog_14_method_83_code
def yJ2_charAt_3b067 : MethodName := ⟨RJ2, "charAt", "([BI)C"⟩
abbrev cJ2_checkIndex_2214a : ByteArray := prog_14_method_91_code
def yJ2_checkIndex_2214a : MethodName := ⟨RJ2, "checkIndex", "(I[B)V"⟩
def RJ10 : String := "java/lang/System"
def TJ10 : u_T := fun k => match k with
  | _ => ("", "", "", false)
def tyJ10 : Nat → FieldType := fun k => match k with
  | _ => .int
abbrev wsJ100 : List Cond := u_ws RJ10 TJ10 0
theorem nmJ10 : ∀ a, a < 0 → ∀ b, b < 0 → a ≠ b → (TJ10 a).2.1 ≠ (TJ10 b).2.1 := by decide +kernel
theorem tyJ10_ok : ∀ k, k < 0 → parseFieldDescriptor (TJ10 k).2.2.1 = some (tyJ10 k) := by decide +kernel
def RJ3 : String := "jdk/internal/util/Preconditions"
def TJ3 : u_T := fun k => match k with
  | _ => ("", "", "", false)
def tyJ3 : Nat → FieldType := fun k => match k with
  | _ => .int
abbrev wsJ30 : List Cond := u_ws RJ3 TJ3 0
theorem nmJ3 : ∀ a, a < 0 → ∀ b, b < 0 → a ≠ b → (TJ3 a).2.1 ≠ (TJ3 b).2.1 := by decide +kernel
theorem tyJ3_ok : ∀ k, k < 0 → parseFieldDescriptor (TJ3 k).2.2.1 = some (tyJ3 k) := by decide +kernel
abbrev cJ3_checkIndex_8e157 : ByteArray := prog_16_method_11_code
def yJ3_checkIndex_8e157 : MethodName := ⟨RJ3, "checkIndex", "(IILjava/util/function/BiFunction;)I"⟩
def RL : String := "ValueNumbererLaw"
abbrev cL_part : ByteArray := method_2_code
def yL_part : MethodName := ⟨RL, "part", "(II)I"⟩
abbrev cL_cell : ByteArray := method_3_code
def yL_cell : MethodName := ⟨RL, "cell", "([II)I"⟩
abbrev cL_says : ByteArray := method_4_code
def yL_says : MethodName := ⟨RL, "says", "(LValueNumberer;[II)V"⟩
abbrev cL_name : ByteArray := method_5_code
def yL_name : MethodName := ⟨RL, "name", "(LValueNumberer;[IJ)V"⟩
abbrev cL_number : ByteArray := method_6_code
def yL_number : MethodName := ⟨RL, "number", "(LValueNumberer;[II)V"⟩
abbrev cL_ends : ByteArray := method_7_code
def yL_ends : MethodName := ⟨RL, "ends", "(LValueNumberer;[I)I"⟩
abbrev cL_line : ByteArray := method_8_code
def yL_line : MethodName := ⟨RL, "line", "(LValueNumberer;[II)V"⟩
abbrev cL_shape : ByteArray := method_9_code
def yL_shape : MethodName := ⟨RL, "shape", "(III)I"⟩
abbrev cL_over : ByteArray := method_10_code
def yL_over : MethodName := ⟨RL, "over", "(III)Z"⟩
abbrev cL_seen : ByteArray := method_11_code
def yL_seen : MethodName := ⟨RL, "seen", "([I[III)Z"⟩
abbrev cL_may : ByteArray := method_12_code
def yL_may : MethodName := ⟨RL, "may", "([I[I[IIII)Z"⟩
abbrev cL_pick : ByteArray := method_13_code
def yL_pick : MethodName := ⟨RL, "pick", "([I[I[IIII)I"⟩
abbrev cL_atEnd : ByteArray := method_14_code
def yL_atEnd : MethodName := ⟨RL, "atEnd", "([I[III)I"⟩
abbrev cL_program : ByteArray := method_15_code
def yL_program : MethodName := ⟨RL, "program", "(LValueNumberer;[II[I[I[I[I[I[I)Z"⟩
abbrev cL_law : ByteArray := code
def yL_law : MethodName := ⟨RL, "law", "([I)Z"⟩
abbrev vwCl : List vw_C := [(RX0, TX0, 3), (RX1, TX1, 1), (RX2, TX2, 10), (RX3, TX3, 17), (RX4, TX4, 12), (RX5, TX5, 4), (RX6, TX6, 2), (RX7, TX7, 10)]
end
section
/-! THE ABSTRACT MACHINE: objects by number (in the order of their making), a shape, ints and longs apart. -/
abbrev ab_H : Type := List (Nat × Nat × List (Option Nat)) × (Nat → Nat → Int32) × (Nat → Nat → Int64)
abbrev ab_L : Type := List (Option Value)
abbrev ab_F : Type := Nat × ab_L × List Value × ab_H
abbrev ab_R : Type := Option (ab_F ⊕ (Option Value × ab_H))
def ab_kd (h : ab_H) (o : Nat) : Nat := ((h.1[o]?).map (fun x => x.1)).getD 99
def ab_ln (h : ab_H) (o : Nat) : Nat := ((h.1[o]?).map (fun x => x.2.1)).getD 0
def ab_rf (h : ab_H) (o k : Nat) : Option Nat := ((h.1[o]?).map (fun x => x.2.2.getD k none)).getD none
def ab_nx (h : ab_H) : Nat := h.1.length
def ab_sl (h : ab_H) : Nat := (h.1.map (fun x => x.2.1)).sum
def ab_up {α : Type} (f : Nat → Nat → α) (o k : Nat) (v : α) : Nat → Nat → α := fun a b => if a = o ∧ b = k then v else f a b
def ab_seti (h : ab_H) (o k : Nat) (x : Int32) : ab_H := (h.1, ab_up h.2.1 o k x, h.2.2)
def ab_setl (h : ab_H) (o k : Nat) (x : Int64) : ab_H := (h.1, h.2.1, ab_up h.2.2 o k x)
def ab_setr (h : ab_H) (o k r : Nat) : ab_H := (match h.1[o]? with | some x => h.1.set o (x.1, x.2.1, x.2.2.set k (some r)) | none => h.1, h.2.1, h.2.2)
def ab_add (h : ab_H) (ns : List (Nat × Nat × List (Option Nat))) : ab_H := (h.1 ++ ns, (fun o k => if o < h.1.length then h.2.1 o k else 0), (fun o k => if o < h.1.length then h.2.2 o k else 0))
def ab_new (h : ab_H) (kd ln : Nat) (rs : List (Option Nat)) : ab_H := ab_add h [(kd, ln, rs)]
def ab_mna (h : ab_H) (n k : Nat) : ab_H := ab_add h ((14, n, (List.range n).map (fun i => some (h.1.length + 1 + i))) :: List.replicate n (10, k, []))
def ab_ty (ci k : Nat) : FieldType := match ci with
  | 0 => tyX0 k | 1 => tyX1 k | 2 => tyX2 k | 3 => tyX3 k | 4 => tyX4 k | 5 => tyX5 k | 6 => tyX6 k | _ => tyX7 k
def ab_N (ci : Nat) : Nat := match ci with
  | 0 => 3 | 1 => 1 | 2 => 10 | 3 => 17 | 4 => 12 | 5 => 4 | 6 => 2 | _ => 10
def ab_T (ci : Nat) : u_T := match ci with
  | 0 => TX0 | 1 => TX1 | 2 => TX2 | 3 => TX3 | 4 => TX4 | 5 => TX5 | 6 => TX6 | _ => TX7
def ab_C (ci : Nat) : String := match ci with
  | 0 => RX0 | 1 => RX1 | 2 => RX2 | 3 => RX3 | 4 => RX4 | 5 => RX5 | 6 => RX6 | 7 => RX7 | _ => RL
theorem ab_cls (ci : Nat) (h : ci < 8) : vwCl[ci]? = some (ab_C ci, ab_T ci, ab_N ci) := by
  rcases (show ci = 0 ∨ ci = 1 ∨ ci = 2 ∨ ci = 3 ∨ ci = 4 ∨ ci = 5 ∨ ci = 6 ∨ ci = 7 by omega) with h | h | h | h | h | h | h | h <;> subst h <;> rfl
/-- a value's numbers to addresses -/
def ab_cv (ad : Nat → Nat) : Value → Value
  | .ref o => .ref (ad o)
  | v => v
/-- what a field holds -/
def ab_gv (h : ab_H) (o k : Nat) : FieldType → Value
  | .int => .int (h.2.1 o k)
  | .boolean => .int (h.2.1 o k)
  | .long => .long (h.2.2 o k)
  | _ => va_rf (ab_rf h o k)
def ab_cell (y : Nat → ClassId) (ad : Nat → Nat) (h : ab_H) (o : Nat) : va_E :=
  if ab_kd h o < 8 then .inr (ab_kd h o, (List.range (ab_N (ab_kd h o))).map (fun k => ab_cv ad (ab_gv h o k (ab_ty (ab_kd h o) k))))
  else .inl (y (ab_kd h o), ab_ln h o, if ab_kd h o = 11 then .inr (.inl (h.2.2 o)) else if ab_kd h o = 14 ∨ ab_kd h o = 15 then .inr (.inr (.inr (.inr (fun i => (ab_rf h o i).map ad)))) else .inl (h.2.1 o))
def ab_ws (y : Nat → ClassId) (ad : Nat → Nat) (h : ab_H) : va_W := (List.range (ab_nx h)).map (fun o => (ad o, ab_cell y ad h o))
def ab_tys (y : Nat → ClassId) : List (ClassId × FieldType) := [(y 10, .int), (y 11, .long), (y 12, .boolean), (y 13, .byte), (y 14, .array .int), (y 15, .object RX3)]
def ab_wf (h : ab_H) : Prop := ∀ o k r, ab_rf h o k = some r → r < ab_nx h
/-- a value that tells no object that is not yet made (numbers from 1000 on are the strings') -/
def ab_ok (n : Nat) : Value → Bool
  | .ref o => decide (o < n) || decide (1000 ≤ o)
  | _ => true
theorem ab_ws_get {y : Nat → ClassId} {ad : Nat → Nat} {h : ab_H} {o : Nat} (ho : o < ab_nx h) : (ab_ws y ad h)[o]? = some (ad o, ab_cell y ad h o) := by
  unfold ab_ws
  rw [List.getElem?_map, List.getElem?_range ho]
  rfl
theorem ab_ws_len {y : Nat → ClassId} {ad : Nat → Nat} {h : ab_H} : (ab_ws y ad h).length = ab_nx h := by simp [ab_ws]
theorem ab_ws_set {y : Nat → ClassId} {ad : Nat → Nat} {h h' : ab_H} {o : Nat} {e : va_E} (hn : ab_nx h' = ab_nx h) (he : ab_cell y ad h' o = e) (hc : ∀ q, q ≠ o → ab_cell y ad h' q = ab_cell y ad h q) : (ab_ws y ad h).set o (ad o, e) = ab_ws y ad h' := by
  apply List.ext_getElem?
  intro i
  rw [List.getElem?_set]
  by_cases hi : i < ab_nx h
  · rw [ab_ws_get (h := h') (by omega), ab_ws_get hi, ab_ws_len]
    by_cases e1 : o = i
    · subst e1
      simp [hi, he]
    · rw [if_neg e1, hc i (fun z => e1 z.symm)]
  · have h1 : (ab_ws y ad h)[i]? = none := List.getElem?_eq_none (by rw [ab_ws_len]; omega)
    have h2 : (ab_ws y ad h')[i]? = none := List.getElem?_eq_none (by rw [ab_ws_len]; omega)
    rw [h1, h2, ab_ws_len]
    by_cases e1 : o = i
    · subst e1
      simp [hi]
    · simp [e1]
theorem ab_up_same {α : Type} (f : Nat → Nat → α) (o k : Nat) (v : α) : ab_up f o k v o = fun b => if b = k then v else f o b := by
  funext b
  simp [ab_up]
theorem ab_up_other {α : Type} (f : Nat → Nat → α) {o q : Nat} (k : Nat) (v : α) (h : q ≠ o) : ab_up f o k v q = f q := by
  funext b
  simp [ab_up, h]
theorem ab_cell_seti {y : Nat → ClassId} {ad : Nat → Nat} {h : ab_H} {o q k : Nat} {x : Int32} (hq : q ≠ o) : ab_cell y ad (ab_seti h o k x) q = ab_cell y ad h q := by
  have e : (ab_seti h o k x).2.1 q = h.2.1 q := ab_up_other _ _ _ hq
  have e2 : ∀ j ty, ab_gv (ab_seti h o k x) q j ty = ab_gv h q j ty := by
    intro j ty
    cases ty <;> simp [ab_gv, e] <;> rfl
  unfold ab_cell
  rw [show ab_kd (ab_seti h o k x) q = ab_kd h q from rfl, show ab_ln (ab_seti h o k x) q = ab_ln h q from rfl, e]
  simp only [e2]
  rfl
theorem ab_cell_setl {y : Nat → ClassId} {ad : Nat → Nat} {h : ab_H} {o q k : Nat} {x : Int64} (hq : q ≠ o) : ab_cell y ad (ab_setl h o k x) q = ab_cell y ad h q := by
  have e : (ab_setl h o k x).2.2 q = h.2.2 q := ab_up_other _ _ _ hq
  have e2 : ∀ j ty, ab_gv (ab_setl h o k x) q j ty = ab_gv h q j ty := by
    intro j ty
    cases ty <;> simp [ab_gv, e] <;> rfl
  unfold ab_cell
  rw [show ab_kd (ab_setl h o k x) q = ab_kd h q from rfl, show ab_ln (ab_setl h o k x) q = ab_ln h q from rfl, e]
  simp only [e2]
  rfl
/-- locals -/
def ab_le (ad : Nat → Nat) (L : ab_L) : List (Nat × Value) := (List.range L.length).filterMap (fun i => (L.getD i none).map (fun v => (i, ab_cv ad v)))
theorem ab_le_mem {ad : Nat → Nat} {L : ab_L} {q : Nat × Value} : q ∈ ab_le ad L ↔ ∃ v, L.getD q.1 none = some v ∧ q.2 = ab_cv ad v := by
  unfold ab_le
  rw [List.mem_filterMap]
  constructor
  · rintro ⟨i, -, hi⟩
    cases hL : L.getD i none with
    | none => rw [hL] at hi; cases hi
    | some v => rw [hL] at hi; cases hi; exact ⟨v, hL, rfl⟩
  · rintro ⟨v, hv, hq⟩
    refine ⟨q.1, ?_, ?_⟩
    · rw [List.mem_range]
      rcases Nat.lt_or_ge q.1 L.length with h | h
      · exact h
      · rw [List.getD_eq_getElem?_getD, List.getElem?_eq_none h] at hv; cases hv
    · rw [hv, Option.map_some, ← hq]
def ab_put (i : Nat) (v : Value) (L : ab_L) : ab_L :=
  let L1 := L.set i (some v)
  let L2 := if v.category = 2 then L1.set (i + 1) none else L1
  match i with
  | 0 => L2
  | j + 1 => match L.getD j none with
    | some w => if w.category = 2 then L2.set j none else L2
    | none => L2
theorem ab_has_weak {ls : Array Slot} {nL : Nat} {l l' : List (Nat × Value)} (h : lv_has ls nL l) (hl : ∀ q ∈ l', q ∈ l) : lv_has ls nL l' := ⟨h.1, h.2.1, fun q hq => h.2.2 q (hl q hq)⟩
theorem ab_getD_set {α : Type} (L : List (Option α)) (i j : Nat) (v : Option α) : (L.set i v).getD j none = if i = j ∧ i < L.length then v else L.getD j none := by
  simp only [List.getD_eq_getElem?_getD, List.getElem?_set]
  by_cases h : i = j
  · subst h
    by_cases h2 : i < L.length
    · simp [h2]
    · simp [h2, List.getElem?_eq_none (Nat.le_of_not_lt h2)]
  · simp [h]
theorem ab_put_len (i : Nat) (v : Value) (L : ab_L) : (ab_put i v L).length = L.length := by
  unfold ab_put
  cases i with
  | zero => simp; split <;> simp
  | succ j =>
    simp only
    split
    · split <;> split <;> simp
    · split <;> simp
theorem ab_put_get {i j : Nat} {v w : Value} {L : ab_L} (hi : i < L.length) (h : (ab_put i v L).getD j none = some w) : (j = i ∧ w = v) ∨ (L.getD j none = some w ∧ j ≠ i ∧ ¬ (v.category = 2 ∧ j = i + 1) ∧ ¬ (j + 1 = i ∧ w.category = 2)) := by
  have base : ((if v.category = 2 then (L.set i (some v)).set (i + 1) none else L.set i (some v)) : ab_L).getD j none = some w → (j = i ∧ w = v) ∨ (L.getD j none = some w ∧ j ≠ i ∧ ¬ (v.category = 2 ∧ j = i + 1)) := by
    intro h
    split at h
    · rename_i hc
      rw [ab_getD_set, ab_getD_set] at h
      split at h
      · cases h
      · rename_i h1
        split at h
        · rename_i h2
          cases h
          exact Or.inl ⟨h2.1.symm, rfl⟩
        · rename_i h2
          refine Or.inr ⟨h, fun z => h2 ⟨z.symm, hi⟩, fun z => ?_⟩
          by_cases hl : i + 1 < (L.set i (some v)).length
          · exact h1 ⟨z.2.symm, hl⟩
          · rw [z.2, List.getD_eq_getElem?_getD, List.getElem?_eq_none (by simpa using hl)] at h
            cases h
    · rename_i hc
      rw [ab_getD_set] at h
      split at h
      · rename_i h2
        cases h
        exact Or.inl ⟨h2.1.symm, rfl⟩
      · rename_i h2
        exact Or.inr ⟨h, fun z => h2 ⟨z.symm, hi⟩, fun z => hc z.1⟩
  cases i with
  | zero =>
    rcases base h with h | ⟨h1, h2, h3⟩
    · exact Or.inl h
    · exact Or.inr ⟨h1, h2, h3, fun z => by omega⟩
  | succ k =>
    unfold ab_put at h
    simp only at h
    generalize hG : ((if v.category = 2 then (L.set (k + 1) (some v)).set (k + 1 + 1) none else L.set (k + 1) (some v)) : ab_L) = L2 at h base
    have hl2 : L2.length = L.length := by
      rw [← hG]
      split <;> simp
    cases hw0 : L.getD k none with
    | some w0 =>
      rw [hw0] at h
      simp only at h
      by_cases hc : w0.category = 2
      · rw [if_pos hc, ab_getD_set] at h
        split at h
        · cases h
        · rename_i hne
          rcases base h with h | ⟨h1, h2, h3⟩
          · exact Or.inl h
          · exact Or.inr ⟨h1, h2, h3, fun z => hne ⟨by omega, by omega⟩⟩
      · rw [if_neg hc] at h
        rcases base h with h | ⟨h1, h2, h3⟩
        · exact Or.inl h
        · refine Or.inr ⟨h1, h2, h3, fun z => ?_⟩
          rw [show j = k by omega, hw0] at h1
          cases h1
          exact hc z.2
    | none =>
      rw [hw0] at h
      simp only at h
      rcases base h with h | ⟨h1, h2, h3⟩
      · exact Or.inl h
      · refine Or.inr ⟨h1, h2, h3, fun z => ?_⟩
        rw [show j = k by omega, hw0] at h1
        cases h1
theorem ab_cv_cat (ad : Nat → Nat) (v : Value) : (ab_cv ad v).category = v.category := by
  cases v <;> rfl
theorem ab_put1 {ad : Nat → Nat} {i : Nat} {v : Value} {L : ab_L} (hi : i < L.length) (hc : v.category = 1) : ∀ q ∈ ab_le ad (ab_put i v L), q ∈ ((i, ab_cv ad v) :: (ab_le ad L).filter (fun q => !(q.1 == i) && !(q.1 + 1 == i && q.2.category == 2))) := by
  intro q hq
  obtain ⟨w, h1, h2⟩ := ab_le_mem.mp hq
  rcases ab_put_get hi h1 with ⟨h3, h4⟩ | ⟨h3, h4, h5, h6⟩
  · subst h4
    rw [show q = (i, ab_cv ad w) from Prod.ext h3 h2]
    exact List.mem_cons_self
  · refine List.mem_cons_of_mem _ (List.mem_filter.mpr ⟨ab_le_mem.mpr ⟨w, h3, h2⟩, ?_⟩)
    rw [h2, ab_cv_cat]
    simp only [Bool.and_eq_true, Bool.not_eq_true', beq_eq_false_iff_ne, Bool.and_eq_false_iff]
    refine ⟨h4, ?_⟩
    rcases Nat.decEq (q.1 + 1) i with h | h
    · exact Or.inl h
    · exact Or.inr (fun z => h6 ⟨h, z⟩)
theorem ab_put2 {ad : Nat → Nat} {i : Nat} {v : Value} {L : ab_L} (hi : i < L.length) (hc : v.category = 2) : ∀ q ∈ ab_le ad (ab_put i v L), q ∈ ((i, ab_cv ad v) :: (ab_le ad L).filter (fun q => !(q.1 == i) && (!(q.1 == i + 1) && !(q.1 + 1 == i && q.2.category == 2)))) := by
  intro q hq
  obtain ⟨w, h1, h2⟩ := ab_le_mem.mp hq
  rcases ab_put_get hi h1 with ⟨h3, h4⟩ | ⟨h3, h4, h5, h6⟩
  · subst h4
    rw [show q = (i, ab_cv ad w) from Prod.ext h3 h2]
    exact List.mem_cons_self
  · refine List.mem_cons_of_mem _ (List.mem_filter.mpr ⟨ab_le_mem.mpr ⟨w, h3, h2⟩, ?_⟩)
    rw [h2, ab_cv_cat]
    simp only [Bool.and_eq_true, Bool.not_eq_true', beq_eq_false_iff_ne, Bool.and_eq_false_iff]
    refine ⟨h4, fun z => h5 ⟨hc, z⟩, ?_⟩
    rcases Nat.decEq (q.1 + 1) i with h | h
    · exact Or.inl h
    · exact Or.inr (fun z => h6 ⟨h, z⟩)
end
section
/-! TABLES of the abstract machine, by program: methods, codes, what the constant pools link. A place is a part of the tables and a row in it. -/
abbrev ab_P : Type := Nat × Nat
def ab_tb (j : Nat) : List Cond := match j with
  | 1 => tables_1_1 | 2 => tables_1_2 | 3 => tables_1_3 | 4 => tables_1_4
  | 7 => k2_sels lw_privs_1 | 8 => k2_sels lw_privs_2 | 9 => k2_sels lw_privs_3 | _ => []
/-- own class, name, bytes, locals, what it returns, parameters, places of its words: code, initialized, instanceMethod, selects, static -/
abbrev ab_MI : Type := Nat × MethodName × ByteArray × Nat × Option FieldType × Nat × ab_P × ab_P × ab_P × ab_P × ab_P
def ab_M0 : List ab_MI := [(0, yX0_init, cX0_init, 1, none, 0, (1, 225), (1, 6), (1, 224), (0, 0), (0, 0)),
  (0, yX0_split, cX0_split, 4, none, 2, (2, 173), (1, 6), (2, 171), (2, 172), (0, 0)),
  (0, yX0_firstAtStart, cX0_firstAtStart, 4, (some .int), 2, (2, 177), (1, 6), (2, 176), (7, 5), (0, 0)),
  (0, yX0_isHopeful, cX0_isHopeful, 4, (some .boolean), 3, (2, 181), (1, 6), (2, 180), (7, 6), (0, 0)),
  (0, yX0_splitOnce, cX0_splitOnce, 5, (some .boolean), 1, (2, 186), (1, 6), (2, 185), (7, 7), (0, 0)),
  (0, yX0_areOperandsAlike, cX0_areOperandsAlike, 6, (some .boolean), 3, (2, 190), (1, 6), (2, 189), (7, 8), (0, 0)),
  (0, yX0_isAlike, cX0_isAlike, 6, (some .boolean), 5, (2, 194), (1, 6), (2, 193), (7, 9), (0, 0)),
  (0, yX0_countClasses, cX0_countClasses, 4, (some .int), 1, (2, 201), (1, 6), (2, 199), (2, 200), (0, 0)),
  (0, yX0_greatestClass, cX0_greatestClass, 4, (some .int), 1, (2, 205), (1, 6), (2, 203), (2, 204), (0, 0)),
  (0, yX0_sizeOf, cX0_sizeOf, 5, (some .int), 2, (2, 209), (1, 6), (2, 208), (7, 10), (0, 0))]
def ab_M1 : List ab_MI := [(0, yX0_leaderOf, cX0_leaderOf, 5, (some .int), 2, (2, 229), (1, 6), (2, 227), (2, 228), (0, 0)),
  (1, yX1_init, cX1_init, 1, none, 0, (2, 3), (1, 7), (2, 2), (0, 0), (0, 0)),
  (1, yX1_find, cX1_find, 3, none, 1, (2, 238), (1, 7), (2, 236), (2, 237), (0, 0)),
  (1, yX1_nameOf, cX1_nameOf, 2, (some .int), 1, (3, 12), (1, 7), (3, 10), (3, 11), (0, 0)),
  (1, yX1_numberOf, cX1_numberOf, 2, (some .long), 1, (3, 49), (1, 7), (3, 47), (3, 48), (0, 0)),
  (1, yX1_isName, cX1_isName, 2, (some .boolean), 1, (3, 15), (1, 7), (0, 0), (0, 0), (3, 14)),
  (1, yX1_codeOf, cX1_codeOf, 3, (some .long), 2, (3, 3), (1, 7), (3, 2), (7, 11), (0, 0)),
  (1, yX1_codeOfNeg, cX1_codeOfNeg, 5, (some .long), 2, (3, 31), (1, 7), (3, 30), (7, 15), (0, 0)),
  (1, yX1_codeOfPair, cX1_codeOfPair, 9, (some .long), 2, (3, 40), (1, 7), (3, 39), (8, 1), (0, 0)),
  (1, yX1_codeOfPhi, cX1_codeOfPhi, 6, (some .long), 2, (3, 36), (1, 7), (3, 35), (8, 0), (0, 0))]
def ab_M2 : List ab_MI := [(1, yX1_earlier, cX1_earlier, 4, (some .long), 2, (3, 8), (1, 7), (3, 7), (7, 12), (0, 0)),
  (1, yX1_isSame, cX1_isSame, 6, (some .boolean), 3, (3, 19), (1, 7), (3, 18), (7, 13), (0, 0)),
  (1, yX1_isSameOperand, cX1_isSameOperand, 6, (some .boolean), 5, (3, 27), (1, 7), (3, 26), (7, 14), (0, 0)),
  (2, yX2_init, cX2_init, 1, none, 0, (1, 181), (1, 5), (1, 180), (0, 0), (0, 0)),
  (2, yX2_forget, cX2_forget, 1, none, 0, (3, 124), (1, 5), (3, 122), (3, 123), (0, 0)),
  (2, yX2_give, cX2_give, 5, none, 4, (2, 117), (1, 5), (2, 115), (2, 116), (0, 0)),
  (2, yX2_giveBySeed, cX2_giveBySeed, 4, (some .int), 1, (3, 106), (1, 5), (3, 104), (3, 105), (0, 0)),
  (2, yX2_watch, cX2_watch, 3, none, 2, (3, 102), (1, 5), (3, 100), (3, 101), (0, 0)),
  (2, yX2_go, cX2_go, 5, (some .long), 1, (2, 121), (1, 5), (2, 119), (2, 120), (0, 0)),
  (2, yX2_nextBlock, cX2_nextBlock, 5, (some .int), 2, (2, 155), (1, 5), (2, 154), (7, 4), (0, 0))]
def ab_M3 : List ab_MI := [(2, yX2_pass, cX2_pass, 6, none, 3, (2, 130), (1, 5), (2, 129), (7, 0), (0, 0)),
  (2, yX2_passPhis, cX2_passPhis, 7, none, 4, (2, 138), (1, 5), (2, 137), (7, 1), (0, 0)),
  (2, yX2_bringOf, cX2_bringOf, 5, (some .long), 2, (2, 146), (1, 5), (2, 145), (7, 3), (0, 0)),
  (2, yX2_compare, cX2_compare, 1, none, 0, (2, 142), (1, 5), (2, 141), (7, 2), (0, 0)),
  (3, yX3_init, cX3_init, 1, none, 0, (1, 50), (1, 4), (1, 49), (0, 0), (0, 0)),
  (3, yX3_clear, cX3_clear, 1, none, 0, (4, 48), (1, 4), (4, 46), (4, 47), (0, 0)),
  (3, yX3_openBlock, cX3_openBlock, 1, (some .boolean), 0, (4, 64), (1, 4), (4, 62), (4, 63), (0, 0)),
  (3, yX3_openName, cX3_openName, 2, (some .boolean), 1, (4, 76), (1, 4), (4, 74), (4, 75), (0, 0)),
  (3, yX3_putFigure, cX3_putFigure, 2, none, 1, (4, 89), (1, 4), (4, 87), (4, 88), (0, 0)),
  (3, yX3_putOperand, cX3_putOperand, 3, none, 1, (4, 97), (1, 4), (4, 95), (4, 96), (0, 0))]
def ab_M4 : List ab_MI := [(3, yX3_putEnd, cX3_putEnd, 2, none, 1, (4, 105), (1, 4), (4, 103), (4, 104), (0, 0)),
  (3, yX3_putAsked, cX3_putAsked, 2, none, 1, (4, 109), (1, 4), (4, 107), (4, 108), (0, 0)),
  (3, yX3_putGoal, cX3_putGoal, 2, none, 1, (4, 113), (1, 4), (4, 111), (4, 112), (0, 0)),
  (3, yX3_putOther, cX3_putOther, 2, none, 1, (4, 117), (1, 4), (4, 115), (4, 116), (0, 0)),
  (3, yX3_copyFrom, cX3_copyFrom, 3, none, 1, (3, 115), (1, 4), (3, 113), (3, 114), (0, 0)),
  (3, yX3_hasBlock, cX3_hasBlock, 2, (some .boolean), 1, (2, 126), (1, 4), (2, 124), (2, 125), (0, 0)),
  (3, yX3_hasName, cX3_hasName, 2, (some .boolean), 1, (2, 81), (1, 4), (2, 79), (2, 80), (0, 0)),
  (3, yX3_hasOperand, cX3_hasOperand, 3, (some .boolean), 2, (2, 97), (1, 4), (2, 95), (2, 96), (0, 0)),
  (3, yX3_hasFigure, cX3_hasFigure, 2, (some .boolean), 1, (2, 85), (1, 4), (2, 83), (2, 84), (0, 0)),
  (3, yX3_successors, cX3_successors, 2, (some .int), 1, (4, 125), (1, 4), (4, 123), (4, 124), (0, 0))]
def ab_M5 : List ab_MI := [(3, yX3_reachOutside, cX3_reachOutside, 5, (some .int), 1, (4, 129), (1, 4), (4, 127), (4, 128), (0, 0)),
  (3, yX3_findDominators, cX3_findDominators, 4, none, 0, (4, 137), (1, 4), (4, 135), (4, 136), (0, 0)),
  (3, yX3_findPreds, cX3_findPreds, 3, none, 0, (4, 133), (1, 4), (4, 131), (4, 132), (0, 0)),
  (7, yX7_fault, cX7_fault, 1, (some .int), 0, (4, 146), (1, 1), (4, 144), (4, 145), (0, 0)),
  (3, yX3_routeFrom, cX3_routeFrom, 4, (some .int), 2, (2, 134), (1, 4), (2, 132), (2, 133), (0, 0)),
  (3, yX3_isSeen, cX3_isSeen, 3, (some .boolean), 2, (2, 106), (1, 4), (2, 104), (2, 105), (0, 0)),
  (3, yX3_isSeenAtEnd, cX3_isSeenAtEnd, 3, (some .boolean), 2, (3, 87), (1, 4), (3, 85), (3, 86), (0, 0)),
  (3, yX3_isSeenByOperand, cX3_isSeenByOperand, 5, (some .boolean), 3, (3, 82), (1, 4), (3, 80), (3, 81), (0, 0)),
  (3, yX3_isSound, cX3_isSound, 3, (some .boolean), 0, (4, 121), (1, 4), (4, 119), (4, 120), (0, 0)),
  (3, yX3_areOperandsSound, cX3_areOperandsSound, 4, (some .boolean), 1, (4, 141), (1, 4), (4, 139), (4, 140), (0, 0))]
def ab_M6 : List ab_MI := [(3, yX3_looksBehind, cX3_looksBehind, 3, (some .boolean), 1, (3, 23), (1, 4), (3, 21), (3, 22), (0, 0)),
  (3, yX3_countKind, cX3_countKind, 4, (some .int), 1, (2, 69), (1, 4), (2, 67), (2, 68), (0, 0)),
  (3, yX3_countOperands, cX3_countOperands, 3, (some .int), 0, (2, 73), (1, 4), (2, 71), (2, 72), (0, 0)),
  (3, yX3_countUses, cX3_countUses, 5, (some .int), 1, (2, 89), (1, 4), (2, 87), (2, 88), (0, 0)),
  (7, yX7_fault, cX7_fault, 1, (some .int), 0, (4, 146), (1, 1), (4, 144), (4, 145), (0, 0)),
  (3, yX3_exchange, cX3_exchange, 6, (some .int), 1, (3, 58), (1, 4), (3, 56), (3, 57), (0, 0)),
  (3, yX3_dropUnneeded, cX3_dropUnneeded, 3, (some .int), 0, (3, 66), (1, 4), (3, 64), (3, 65), (0, 0)),
  (3, yX3_findNeeded, cX3_findNeeded, 3, none, 0, (3, 70), (1, 4), (3, 68), (3, 69), (0, 0)),
  (3, yX3_markOperands, cX3_markOperands, 3, none, 1, (3, 74), (1, 4), (3, 72), (3, 73), (0, 0)),
  (4, yX4_init, cX4_init, 1, none, 0, (1, 27), (1, 2), (1, 26), (0, 0), (0, 0))]
def ab_M7 : List ab_MI := [(4, yX4_readText, cX4_readText, 3, (some .boolean), 0, (3, 196), (1, 2), (3, 194), (3, 195), (0, 0)),
  (4, yX4_refuse, cX4_refuse, 2, (some .boolean), 1, (4, 60), (1, 2), (4, 59), (8, 10), (0, 0)),
  (4, yX4_readLine, cX4_readLine, 1, (some .boolean), 0, (4, 52), (1, 2), (4, 51), (8, 8), (0, 0)),
  (4, yX4_readHead, cX4_readHead, 1, (some .boolean), 0, (4, 56), (1, 2), (4, 55), (8, 9), (0, 0)),
  (4, yX4_readName, cX4_readName, 3, (some .boolean), 0, (4, 72), (1, 2), (4, 71), (8, 12), (0, 0)),
  (4, yX4_readFigure, cX4_readFigure, 2, (some .boolean), 1, (4, 80), (1, 2), (4, 79), (8, 13), (0, 0)),
  (4, yX4_readOperands, cX4_readOperands, 5, (some .boolean), 1, (4, 93), (1, 2), (4, 92), (8, 15), (0, 0)),
  (4, yX4_readEnd, cX4_readEnd, 2, (some .boolean), 0, (4, 101), (1, 2), (4, 100), (9, 0), (0, 0)),
  (4, yX4_takeSemicolon, cX4_takeSemicolon, 1, (some .boolean), 0, (4, 68), (1, 2), (4, 67), (8, 11), (0, 0)),
  (4, yX4_takeNumber, cX4_takeNumber, 3, (some .boolean), 2, (4, 85), (1, 2), (4, 84), (8, 14), (0, 0))]
def ab_M8 : List ab_MI := [(4, yX4_scan, cX4_scan, 3, none, 0, (3, 200), (1, 2), (3, 199), (8, 2), (0, 0)),
  (4, yX4_scanToken, cX4_scanToken, 2, (some .int), 1, (3, 212), (1, 2), (3, 211), (8, 4), (0, 0)),
  (4, yX4_skip, cX4_skip, 4, none, 2, (3, 204), (1, 2), (3, 203), (8, 3), (0, 0)),
  (4, yX4_figureFrom, cX4_figureFrom, 4, (some .int), 1, (4, 44), (1, 2), (4, 43), (8, 7), (0, 0)),
  (4, yX4_wordFrom, cX4_wordFrom, 2, (some .int), 1, (3, 216), (1, 2), (3, 215), (8, 5), (0, 0)),
  (4, yX4_isWord, cX4_isWord, 4, (some .boolean), 2, (3, 221), (1, 2), (3, 220), (8, 6), (0, 0)),
  (5, yX5_init, cX5_init, 2, none, 0, (2, 13), (1, 8), (2, 12), (0, 0), (0, 0)),
  (7, yX7_fault, cX7_fault, 1, (some .int), 0, (4, 146), (1, 1), (4, 144), (4, 145), (0, 0)),
  (7, yX7_fault, cX7_fault, 1, (some .int), 0, (4, 146), (1, 1), (4, 144), (4, 145), (0, 0)),
  (7, yX7_fault, cX7_fault, 1, (some .int), 0, (4, 146), (1, 1), (4, 144), (4, 145), (0, 0))]
def ab_M9 : List ab_MI := [(7, yX7_fault, cX7_fault, 1, (some .int), 0, (4, 146), (1, 1), (4, 144), (4, 145), (0, 0)),
  (7, yX7_fault, cX7_fault, 1, (some .int), 0, (4, 146), (1, 1), (4, 144), (4, 145), (0, 0)),
  (6, yX6_init, cX6_init, 1, none, 0, (1, 33), (1, 3), (1, 32), (0, 0), (0, 0)),
  (6, yX6_push, cX6_push, 2, (some .boolean), 1, (3, 182), (1, 3), (3, 180), (3, 181), (0, 0)),
  (6, yX6_has, cX6_has, 4, (some .boolean), 3, (3, 208), (1, 3), (3, 206), (3, 207), (0, 0)),
  (7, yX7_init, cX7_init, 2, none, 0, (1, 19), (1, 1), (1, 18), (0, 0), (0, 0)),
  (7, yX7_feed, cX7_feed, 2, (some .int), 1, (3, 178), (1, 1), (3, 176), (3, 177), (0, 0)),
  (7, yX7_fault, cX7_fault, 1, (some .int), 0, (4, 146), (1, 1), (4, 144), (4, 145), (0, 0)),
  (7, yX7_text, cX7_text, 3, (some .int), 0, (3, 192), (1, 1), (3, 190), (3, 191), (0, 0)),
  (7, yX7_fault, cX7_fault, 1, (some .int), 0, (4, 146), (1, 1), (4, 144), (4, 145), (0, 0))]
def ab_M10 : List ab_MI := [(7, yX7_rule, cX7_rule, 2, (some .int), 1, (2, 65), (1, 1), (2, 63), (2, 64), (0, 0)),
  (7, yX7_fault, cX7_fault, 1, (some .int), 0, (4, 146), (1, 1), (4, 144), (4, 145), (0, 0)),
  (7, yX7_fault, cX7_fault, 1, (some .int), 0, (4, 146), (1, 1), (4, 144), (4, 145), (0, 0)),
  (7, yX7_name, cX7_name, 3, (some .int), 2, (2, 77), (1, 1), (2, 75), (2, 76), (0, 0)),
  (7, yX7_operand, cX7_operand, 3, (some .int), 2, (2, 93), (1, 1), (2, 91), (2, 92), (0, 0)),
  (7, yX7_seen, cX7_seen, 3, (some .int), 2, (2, 102), (1, 1), (2, 100), (2, 101), (0, 0)),
  (7, yX7_run, cX7_run, 5, (some .long), 4, (2, 113), (1, 1), (2, 111), (2, 112), (0, 0)),
  (7, yX7_value, cX7_value, 2, (some .long), 1, (2, 159), (1, 1), (2, 157), (2, 158), (0, 0)),
  (7, yX7_went, cX7_went, 2, (some .int), 1, (2, 165), (1, 1), (2, 163), (2, 164), (0, 0)),
  (7, yX7_classes, cX7_classes, 2, (some .int), 1, (2, 169), (1, 1), (2, 167), (2, 168), (0, 0))]
def ab_M11 : List ab_MI := [(7, yX7_part, cX7_part, 2, (some .int), 1, (2, 216), (1, 1), (2, 214), (2, 215), (0, 0)),
  (7, yX7_partAt, cX7_partAt, 3, (some .int), 2, (2, 220), (1, 1), (2, 218), (2, 219), (0, 0)),
  (7, yX7_leader, cX7_leader, 2, (some .int), 1, (2, 225), (1, 1), (2, 223), (2, 224), (0, 0)),
  (7, yX7_form, cX7_form, 2, (some .int), 1, (2, 234), (1, 1), (2, 232), (2, 233), (0, 0)),
  (7, yX7_number, cX7_number, 2, (some .long), 1, (3, 45), (1, 1), (3, 43), (3, 44), (0, 0)),
  (7, yX7_replace, cX7_replace, 2, (some .int), 0, (3, 54), (1, 1), (3, 52), (3, 53), (0, 0)),
  (7, yX7_sweep, cX7_sweep, 1, (some .int), 0, (3, 62), (1, 1), (3, 60), (3, 61), (0, 0)),
  (7, yX7_set, cX7_set, 5, (some .int), 3, (3, 78), (1, 1), (3, 76), (3, 77), (0, 0)),
  (7, yX7_alter, cX7_alter, 4, (some .int), 2, (3, 91), (1, 1), (3, 89), (3, 90), (0, 0)),
  (7, yX7_agree, cX7_agree, 9, (some .int), 5, (3, 98), (1, 1), (3, 96), (3, 97), (0, 0))]
def ab_M12 : List ab_MI := [(7, yX7_keep, cX7_keep, 3, (some .int), 1, (3, 111), (1, 1), (3, 109), (3, 110), (0, 0)),
  (7, yX7_back, cX7_back, 2, (some .int), 1, (3, 120), (1, 1), (3, 118), (3, 119), (0, 0)),
  (7, yX7_fault, cX7_fault, 1, (some .int), 0, (4, 146), (1, 1), (4, 144), (4, 145), (0, 0)),
  (7, yX7_fault, cX7_fault, 1, (some .int), 0, (4, 146), (1, 1), (4, 144), (4, 145), (0, 0)),
  (7, yX7_fault, cX7_fault, 1, (some .int), 0, (4, 146), (1, 1), (4, 144), (4, 145), (0, 0)),
  (7, yX7_fault, cX7_fault, 1, (some .int), 0, (4, 146), (1, 1), (4, 144), (4, 145), (0, 0)),
  (7, yX7_fault, cX7_fault, 1, (some .int), 0, (4, 146), (1, 1), (4, 144), (4, 145), (0, 0)),
  (7, yX7_fault, cX7_fault, 1, (some .int), 0, (4, 146), (1, 1), (4, 144), (4, 145), (0, 0)),
  (7, yX7_fault, cX7_fault, 1, (some .int), 0, (4, 146), (1, 1), (4, 144), (4, 145), (0, 0)),
  (7, yX7_highestFigure, cX7_highestFigure, 1, (some .int), 1, (3, 94), (1, 1), (0, 0), (0, 0), (3, 93))]
def ab_M13 : List ab_MI := [(7, yX7_hasBit, cX7_hasBit, 2, (some .boolean), 2, (2, 109), (1, 1), (0, 0), (0, 0), (2, 108)),
  (7, yX7_bring, cX7_bring, 6, (some .long), 3, (2, 150), (1, 1), (0, 0), (0, 0), (2, 149)),
  (10, yL_part, cL_part, 2, (some .int), 2, (3, 127), (1, 0), (0, 0), (0, 0), (3, 126)),
  (10, yL_cell, cL_cell, 2, (some .int), 2, (3, 131), (1, 0), (0, 0), (0, 0), (3, 130)),
  (10, yL_says, cL_says, 3, none, 3, (3, 174), (1, 0), (0, 0), (0, 0), (3, 173)),
  (10, yL_name, cL_name, 6, none, 3, (3, 171), (1, 0), (0, 0), (0, 0), (3, 170)),
  (10, yL_number, cL_number, 3, none, 3, (3, 185), (1, 0), (0, 0), (0, 0), (3, 184)),
  (10, yL_ends, cL_ends, 2, (some .int), 2, (3, 188), (1, 0), (0, 0), (0, 0), (3, 187)),
  (10, yL_line, cL_line, 3, none, 3, (3, 156), (1, 0), (0, 0), (0, 0), (3, 155)),
  (10, yL_shape, cL_shape, 3, (some .int), 3, (3, 138), (1, 0), (0, 0), (0, 0), (3, 137))]
def ab_M14 : List ab_MI := [(10, yL_over, cL_over, 3, (some .boolean), 3, (3, 147), (1, 0), (0, 0), (0, 0), (3, 146)),
  (10, yL_seen, cL_seen, 4, (some .boolean), 4, (3, 150), (1, 0), (0, 0), (0, 0), (3, 149)),
  (10, yL_may, cL_may, 6, (some .boolean), 6, (3, 144), (1, 0), (0, 0), (0, 0), (3, 143)),
  (10, yL_pick, cL_pick, 9, (some .int), 6, (3, 141), (1, 0), (0, 0), (0, 0), (3, 140)),
  (10, yL_atEnd, cL_atEnd, 7, (some .int), 4, (3, 153), (1, 0), (0, 0), (0, 0), (3, 152)),
  (10, yL_program, cL_program, 16, (some .boolean), 9, (3, 135), (1, 0), (0, 0), (0, 0), (3, 134))]
def ab_M : List ab_MI := ab_M0 ++ (ab_M1 ++ (ab_M2 ++ (ab_M3 ++ (ab_M4 ++ (ab_M5 ++ (ab_M6 ++ (ab_M7 ++ (ab_M8 ++ (ab_M9 ++ (ab_M10 ++ (ab_M11 ++ (ab_M12 ++ (ab_M13 ++ (ab_M14))))))))))))))
/-- own, index, class, field, place of its word -/
def ab_flL : List (Nat × Nat × Nat × Nat × ab_P) := [(6, 9, 6, 0, 1, 35), (4, 146, 6, 0, 1, 36), (6, 15, 6, 1, 1, 37), (7, 76, 6, 1, 1, 38), (4, 136, 6, 1, 1, 39), (3, 60, 3, 0, 1, 54), (7, 103, 3, 0, 1, 55), (0, 18, 3, 1, 1, 56), (1, 15, 3, 1, 1, 57), (3, 64, 3, 1, 1, 58), (7, 97, 3, 1, 1, 59), (3, 9, 3, 2, 1, 60), (2, 76, 3, 2, 1, 61), (3, 15, 3, 3, 1, 62), (2, 79, 3, 3, 1, 63), (3, 18, 3, 4, 1, 64), (2, 58, 3, 4, 1, 65), (3, 21, 3, 5, 1, 66), (2, 68, 3, 5, 1, 67), (3, 24, 3, 6, 1, 68), (2, 73, 3, 6, 1, 69), (3, 27, 3, 7, 1, 70), (2, 61, 3, 7, 1, 71), (3, 30, 3, 8, 1, 72), (3, 35, 3, 9, 1, 73), (3, 38, 3, 10, 1, 74), (3, 41, 3, 11, 1, 75), (0, 39, 3, 11, 1, 76), (1, 33, 3, 11, 1, 77), (2, 90, 3, 11, 1, 78), (7, 151, 3, 11, 1, 79), (3, 44, 3, 12, 1, 80), (0, 42, 3, 12, 1, 81), (7, 154, 3, 12, 1, 82), (1, 77, 3, 12, 1, 83), (3, 47, 3, 13, 1, 84), (0, 61, 3, 13, 1, 85), (1, 70, 3, 13, 1, 86), (7, 157, 3, 13, 1, 87), (3, 50, 3, 14, 1, 88), (0, 49, 3, 14, 1, 89), (1, 37, 3, 14, 1, 90), (7, 163, 3, 14, 1, 91), (2, 104, 3, 14, 1, 92), (3, 53, 3, 15, 1, 93), (1, 54, 3, 15, 1, 94), (0, 68, 3, 15, 1, 95), (2, 100, 3, 15, 1, 96), (7, 173, 3, 15, 1, 97), (3, 56, 3, 16, 1, 98), (4, 12, 4, 0, 1, 136), (7, 66, 4, 0, 1, 137), (4, 21, 4, 1, 1, 138), (7, 87, 4, 1, 1, 139), (4, 41, 4, 2, 1, 140), (7, 100, 4, 2, 1, 141), (4, 63, 4, 3, 1, 142), (7, 84, 4, 3, 1, 143), (4, 25, 4, 4, 1, 144), (4, 29, 4, 5, 1, 145), (4, 32, 4, 6, 1, 146), (4, 45, 4, 7, 1, 147), (4, 123, 4, 8, 1, 148), (4, 101, 4, 9, 1, 149), (4, 48, 4, 10, 1, 150), (4, 78, 4, 11, 1, 151), (2, 9, 2, 0, 1, 183), (2, 15, 2, 1, 1, 184), (7, 193, 2, 1, 1, 185), (2, 29, 2, 2, 1, 186), (7, 189, 2, 2, 1, 187), (2, 39, 2, 3, 1, 188), (7, 205, 2, 3, 1, 189), (2, 45, 2, 4, 1, 190), (7, 199, 2, 4, 1, 191), (2, 42, 2, 5, 1, 192), (7, 202, 2, 5, 1, 193), (2, 34, 2, 6, 1, 194), (7, 262, 2, 6, 1, 195), (2, 19, 2, 7, 1, 196), (2, 22, 2, 8, 1, 197), (2, 26, 2, 9, 1, 198), (0, 9, 0, 0, 1, 227), (7, 226, 0, 0, 1, 228), (0, 28, 0, 1, 1, 229), (7, 216, 0, 1, 1, 230), (0, 15, 0, 2, 1, 231), (1, 9, 1, 0, 2, 5), (5, 9, 5, 0, 2, 16), (5, 15, 5, 2, 2, 17), (5, 20, 5, 3, 2, 18), (7, 10, 7, 0, 2, 31), (7, 19, 7, 1, 2, 32), (7, 23, 7, 2, 2, 33), (7, 29, 7, 3, 2, 34), (7, 36, 7, 4, 2, 35), (7, 43, 7, 5, 2, 36), (7, 49, 7, 6, 2, 37), (7, 53, 7, 7, 2, 38), (7, 57, 7, 8, 2, 39), (7, 62, 7, 9, 2, 40)]
/-- own, index, method, kind of call (0 virtual, 1 static, 2 static of a nest mate, 3 constructor, 4 constructor of a nest mate, 5 of Object, 6 arraycopy, 7 max, 8 length, 9 charAt), place of its word -/
def ab_mlL : List (Nat × Nat × Nat × Nat × ab_P) := [(10, 133, 95, 3, 1, 17), (7, 1, 0, 5, 1, 20), (7, 9, 69, 4, 0, 0), (4, 3, 0, 5, 1, 28), (4, 11, 92, 4, 0, 1), (6, 3, 0, 5, 1, 34), (4, 20, 34, 4, 0, 2), (3, 3, 0, 5, 1, 51), (7, 18, 23, 4, 0, 3), (2, 3, 0, 5, 1, 182), (7, 28, 0, 4, 0, 4), (0, 3, 0, 5, 1, 226), (7, 35, 11, 4, 0, 5), (1, 3, 0, 5, 2, 4), (7, 42, 86, 3, 2, 11), (5, 3, 0, 5, 2, 14), (7, 61, 34, 4, 0, 6), (10, 127, 100, 0, 2, 62), (7, 106, 61, 0, 2, 66), (7, 110, 62, 0, 2, 70), (10, 119, 103, 0, 2, 74), (7, 148, 46, 0, 2, 78), (7, 160, 48, 0, 2, 82), (7, 166, 63, 0, 2, 86), (10, 121, 104, 0, 2, 90), (7, 169, 47, 0, 2, 94), (3, 73, 46, 0, 2, 98), (10, 152, 105, 0, 2, 99), (7, 176, 55, 0, 2, 103), (3, 77, 130, 2, 0, 7), (10, 164, 106, 0, 2, 110), (7, 179, 25, 0, 2, 114), (7, 183, 28, 0, 2, 118), (2, 48, 45, 0, 2, 123), (2, 54, 30, 0, 2, 127), (2, 82, 54, 0, 2, 131), (2, 86, 31, 0, 2, 135), (2, 97, 33, 0, 2, 139), (2, 93, 32, 0, 2, 143), (2, 107, 131, 2, 0, 8), (2, 64, 29, 0, 2, 152), (10, 171, 107, 0, 2, 156), (10, 168, 108, 0, 2, 162), (10, 141, 109, 0, 2, 166), (7, 208, 1, 0, 2, 170), (0, 24, 2, 0, 2, 174), (0, 35, 3, 0, 2, 178), (0, 45, 48, 0, 2, 182), (0, 31, 4, 0, 2, 183), (0, 52, 5, 0, 2, 187), (0, 64, 6, 0, 2, 191), (0, 55, 0, 6, 2, 195), (7, 212, 7, 0, 2, 198), (7, 219, 8, 0, 2, 202), (0, 72, 9, 0, 2, 206), (0, 75, 0, 7, 2, 210), (10, 144, 110, 0, 2, 213), (7, 222, 111, 0, 2, 217), (10, 146, 111, 0, 2, 221), (10, 149, 112, 0, 2, 222), (7, 227, 10, 0, 2, 226), (0, 81, 55, 0, 2, 230), (10, 154, 113, 0, 2, 231), (7, 231, 12, 0, 2, 235), (1, 23, 16, 0, 3, 0), (1, 42, 20, 0, 3, 5), (1, 62, 13, 0, 3, 9), (1, 27, 15, 1, 3, 13), (1, 73, 21, 0, 3, 16), (1, 66, 60, 0, 3, 20), (1, 80, 22, 0, 3, 24), (1, 45, 17, 0, 3, 28), (1, 58, 131, 2, 0, 9), (1, 48, 19, 0, 3, 33), (1, 51, 18, 0, 3, 37), (7, 234, 13, 0, 3, 41), (10, 157, 114, 0, 3, 42), (7, 237, 14, 0, 3, 46), (10, 174, 115, 0, 3, 51), (7, 241, 65, 0, 3, 55), (10, 177, 116, 0, 3, 59), (7, 245, 66, 0, 3, 63), (3, 112, 67, 0, 3, 67), (3, 115, 68, 0, 3, 71), (10, 183, 117, 0, 3, 75), (7, 248, 57, 0, 3, 79), (3, 93, 55, 0, 3, 83), (3, 96, 56, 0, 3, 84), (10, 186, 118, 0, 3, 88), (7, 252, 129, 1, 3, 92), (10, 160, 119, 0, 3, 95), (7, 255, 27, 0, 3, 99), (7, 259, 26, 0, 3, 103), (10, 138, 120, 0, 3, 108), (7, 90, 44, 0, 3, 112), (3, 67, 0, 6, 3, 116), (10, 180, 121, 0, 3, 117), (7, 94, 24, 0, 3, 121), (10, 69, 132, 1, 3, 125), (10, 73, 133, 1, 3, 129), (10, 134, 145, 1, 3, 133), (10, 53, 139, 1, 3, 136), (10, 77, 143, 1, 3, 139), (10, 65, 142, 1, 3, 142), (10, 57, 140, 1, 3, 145), (10, 61, 141, 1, 3, 148), (10, 81, 144, 1, 3, 151), (10, 85, 138, 1, 3, 154), (10, 49, 135, 1, 3, 169), (10, 15, 134, 1, 3, 172), (10, 9, 96, 0, 3, 175), (7, 70, 93, 0, 3, 179), (10, 88, 136, 1, 3, 183), (10, 91, 137, 1, 3, 186), (10, 21, 98, 0, 3, 189), (7, 80, 70, 0, 3, 193), (4, 35, 80, 0, 3, 197), (4, 126, 82, 0, 3, 201), (4, 139, 94, 0, 3, 205), (4, 130, 81, 0, 3, 209), (4, 143, 84, 0, 3, 213), (4, 152, 85, 0, 3, 218), (4, 178, 0, 8, 3, 222), (4, 183, 0, 9, 3, 232), (4, 133, 83, 0, 4, 41), (4, 38, 35, 0, 4, 45), (4, 52, 72, 0, 4, 49), (4, 66, 73, 0, 4, 53), (4, 59, 71, 0, 4, 57), (4, 75, 36, 0, 4, 61), (4, 81, 78, 0, 4, 65), (4, 69, 74, 0, 4, 69), (4, 84, 37, 0, 4, 73), (4, 87, 75, 0, 4, 77), (4, 93, 129, 2, 0, 10), (4, 97, 79, 0, 4, 82), (4, 104, 38, 0, 4, 86), (4, 90, 76, 0, 4, 90), (4, 108, 39, 0, 4, 94), (4, 72, 77, 0, 4, 98), (4, 111, 40, 0, 4, 102), (4, 114, 41, 0, 4, 106), (4, 117, 42, 0, 4, 110), (4, 120, 43, 0, 4, 114), (4, 56, 58, 0, 4, 118), (3, 81, 49, 0, 4, 122), (3, 85, 50, 0, 4, 126), (3, 99, 52, 0, 4, 130), (3, 102, 51, 0, 4, 134), (3, 105, 59, 0, 4, 138), (3, 108, 57, 0, 4, 142), (10, 95, 99, 0, 4, 143)]
def ab_kIL : List (Nat × Nat × Int32 × ab_P) := [(2, 33, 1103515245, 3, 107), (10, 7, 2147483647, 3, 128), (10, 8, 2654435, 3, 132)]
def ab_kLL : List (Nat × Nat × Int64 × ab_P) := [(2, 37, 2000000000000, 2, 122), (2, 71, 1000000000000, 2, 147), (7, 299, 1000000000000, 2, 151), (7, 187, -1, 2, 160), (7, 197, 2000000000000, 2, 161), (1, 21, 3000000000000, 2, 239), (1, 40, 1000000000000, 3, 4), (1, 31, 2000000000000, 3, 50), (10, 25, 7239021, 3, 157), (10, 27, 6386279, 3, 158), (10, 29, 6382692, 3, 159), (10, 31, 7173484, 3, 160), (10, 33, 7234919, 3, 161), (10, 35, 1818588019, 3, 162), (10, 37, 6580598, 3, 163), (10, 39, 7366761, 3, 164), (10, 41, 422726034283, 3, 165), (10, 43, 1735357551, 3, 166), (10, 45, 26982, 3, 167), (10, 47, 7497076, 3, 168), (10, 100, 2000000000000, 4, 147)]
/-- own, index, class, places of its words: classLink, instantiable, initialized -/
def ab_nwL : List (Nat × Nat × Nat × ab_P × ab_P × ab_P) := [(10, 10, 7, (1, 15), (1, 16), (1, 1)), (7, 7, 4, (1, 23), (1, 24), (1, 2)), (4, 9, 6, (1, 29), (1, 30), (1, 3)), (4, 18, 3, (1, 46), (1, 47), (1, 4)), (7, 16, 2, (1, 177), (1, 178), (1, 5)), (7, 26, 0, (1, 221), (1, 222), (1, 6)), (7, 33, 1, (1, 239), (2, 0), (1, 7)), (7, 40, 5, (2, 9), (2, 10), (1, 8)), (7, 47, 3, (2, 28), (1, 47), (1, 4))]
def ab_NW : List Cond := [.methodLinkNest RX7 9 yX4_init RX7, .methodLinkNest RX4 11 yX6_init RX7, .methodLinkNest RX4 20 yX3_init RX7, .methodLinkNest RX7 18 yX2_init RX7, .methodLinkNest RX7 28 yX0_init RX7, .methodLinkNest RX7 35 yX1_init RX7, .methodLinkNest RX7 61 yX3_init RX7, .methodLinkNest RX3 77 yX7_hasBit RX7, .methodLinkNest RX2 107 yX7_bring RX7, .methodLinkNest RX1 58 yX7_bring RX7, .methodLinkNest RX4 93 yX7_highestFigure RX7]
end
section
/-! THE TABLES HOLD -/
def ab_BIG : List Cond := lw_tbl.filter goodWord
def ab_has (q : ab_P) (w : Cond) : Bool := decide ((ab_tb q.1)[q.2]? = some w) && goodWord w
theorem ab_sels_app (a b : List (MethodName × Nat)) : k2_sels (a ++ b) = k2_sels a ++ k2_sels b := by simp [k2_sels]
theorem ab_tb_in {j : Nat} {w : Cond} (h : w ∈ ab_tb j) : w ∈ lw_tbl := by
  have e1 : k2_sels lw_privs = k2_sels lw_privs_1 ++ (k2_sels lw_privs_2 ++ (k2_sels lw_privs_3)) := by
    unfold lw_privs
    simp only [ab_sels_app]
  unfold lw_tbl tables_1
  rw [e1]
  unfold ab_tb at h
  simp only [List.mem_append]
  split at h
  all_goals first | (exact absurd h List.not_mem_nil) | simp only [h, true_or, or_true]
theorem ab_has_mem {q : ab_P} {w : Cond} (h : ab_has q w = true) : w ∈ ab_BIG := by
  unfold ab_has at h
  rw [Bool.and_eq_true, decide_eq_true_eq] at h
  exact List.mem_filter.mpr ⟨ab_tb_in (List.mem_of_getElem? h.1), h.2⟩
theorem ab_BIG_good : ∀ w ∈ ab_BIG, (w.onTables && w.keeps) = true ∨ ∃ ty, w = .arrayClass ty := fun w h => good_of_word (List.mem_filter.mp h).2
theorem ab_BIG_in : ∀ w ∈ ab_BIG, w ∈ lw_tbl := fun w h => (List.mem_filter.mp h).1
def ab_flT (e : Nat × Nat × Nat × Nat × ab_P) : Bool := ab_has e.2.2.2.2 (.fieldLink (ab_C e.1) e.2.1 (ab_T e.2.2.1 e.2.2.2.1).1 (ab_T e.2.2.1 e.2.2.2.1).2.1 (ab_T e.2.2.1 e.2.2.2.1).2.2.1)
set_option maxRecDepth 100000 in
theorem ab_flL_ok : ab_flL.all ab_flT = true := by decide +kernel
set_option maxRecDepth 100000 in
theorem ab_kIL_ok : ab_kIL.all (fun e => ab_has e.2.2.2 (.constant (ab_C e.1) e.2.1 e.2.2.1)) = true := by decide +kernel
set_option maxRecDepth 100000 in
theorem ab_kLL_ok : ab_kLL.all (fun e => ab_has e.2.2.2 (.constantLong (ab_C e.1) e.2.1 e.2.2.1)) = true := by decide +kernel
set_option maxRecDepth 100000 in
theorem ab_nwL_ok : ab_nwL.all (fun e => ab_has e.2.2.2.1 (.classLink (ab_C e.1) e.2.1 (ab_C e.2.2.1)) && ab_has e.2.2.2.2.1 (.instantiable (ab_C e.2.2.1) (ab_N e.2.2.1)) && ab_has e.2.2.2.2.2 (.initialized (ab_C e.2.2.1))) = true := by decide +kernel
def ab_MT (q : ab_MI) : Bool := match q with
  | (own, y, b, ml, ret, n, pc, pn, pi, ps, pt) => ab_has pn (.initialized y.cls) && decide (y.cls = ab_C own) && plainName y.cls && decide (y.cls ≠ "java/lang/invoke/MethodHandle") && decide (y.cls ≠ "java/lang/invoke/VarHandle") && decide ((parseMethodDescriptor y.desc).map (fun d => d.parameters.length) = some n) && decide ((parseMethodDescriptor y.desc).map (fun d => d.returnType) = some ret) && (if pt = (0, 0) then ab_has pi (.instanceMethod y) && (decide (y.name = "<init>" ∧ ret = none) || ab_has ps (.selects y.cls y y)) else ab_has pt (.static y))
/-- places of the words that tell how a class lays its fields -/
def ab_ly0 : List ab_P := [(1, 232), (1, 234), (1, 236)]
def ab_ly1 : List ab_P := [(2, 6)]
def ab_ly2 : List ab_P := [(1, 199), (1, 201), (1, 203), (1, 205), (1, 207), (1, 209), (1, 211), (1, 213), (1, 215), (1, 217)]
def ab_ly3 : List ab_P := [(1, 99), (1, 101), (1, 103), (1, 105), (1, 107), (1, 109), (1, 111), (1, 113), (1, 115), (1, 117), (1, 119), (1, 121), (1, 123), (1, 125), (1, 127), (1, 129), (1, 131)]
def ab_ly4 : List ab_P := [(1, 152), (1, 154), (1, 156), (1, 158), (1, 160), (1, 162), (1, 164), (1, 166), (1, 168), (1, 170), (1, 172), (1, 174)]
def ab_ly5 : List ab_P := [(2, 19), (2, 21), (2, 23), (2, 25)]
def ab_ly6 : List ab_P := [(1, 40), (1, 42)]
def ab_ly7 : List ab_P := [(2, 41), (2, 43), (2, 45), (2, 47), (2, 49), (2, 51), (2, 53), (2, 55), (2, 57), (2, 59)]
def ab_lyT (ci : Nat) (ps : List ab_P) : Bool := decide (ps.length = ab_N ci) && (List.range (ab_N ci)).all (fun k => ab_has (ps.getD k (0, 0)) (u_lay (ab_C ci) (ab_T ci) k))
theorem ab_ly_in {ci : Nat} {ps : List ab_P} (h : ab_lyT ci ps = true) : ∀ w ∈ u_ws (ab_C ci) (ab_T ci) (ab_N ci), w ∈ ab_BIG := by
  intro w hw
  obtain ⟨k, hk, rfl⟩ := List.mem_map.mp hw
  unfold ab_lyT at h
  rw [Bool.and_eq_true] at h
  exact ab_has_mem (List.all_eq_true.mp h.2 k hk)
end
section
set_option maxRecDepth 100000 in
theorem ab_ly0_ok : ab_lyT 0 ab_ly0 = true := by decide +kernel
set_option maxRecDepth 100000 in
theorem ab_ly1_ok : ab_lyT 1 ab_ly1 = true := by decide +kernel
set_option maxRecDepth 100000 in
theorem ab_ly2_ok : ab_lyT 2 ab_ly2 = true := by decide +kernel
set_option maxRecDepth 100000 in
theorem ab_ly3_ok : ab_lyT 3 ab_ly3 = true := by decide +kernel
set_option maxRecDepth 100000 in
theorem ab_ly4_ok : ab_lyT 4 ab_ly4 = true := by decide +kernel
set_option maxRecDepth 100000 in
theorem ab_ly5_ok : ab_lyT 5 ab_ly5 = true := by decide +kernel
set_option maxRecDepth 100000 in
theorem ab_ly6_ok : ab_lyT 6 ab_ly6 = true := by decide +kernel
set_option maxRecDepth 100000 in
theorem ab_ly7_ok : ab_lyT 7 ab_ly7 = true := by decide +kernel
theorem ab_cls_in (ci : Nat) (hci : ci < 8) : ∀ w ∈ u_ws (ab_C ci) (ab_T ci) (ab_N ci), w ∈ ab_BIG := by
  rcases (show ci = 0 ∨ ci = 1 ∨ ci = 2 ∨ ci = 3 ∨ ci = 4 ∨ ci = 5 ∨ ci = 6 ∨ ci = 7 by omega) with h | h | h | h | h | h | h | h <;> subst h
  · exact ab_ly_in ab_ly0_ok
  · exact ab_ly_in ab_ly1_ok
  · exact ab_ly_in ab_ly2_ok
  · exact ab_ly_in ab_ly3_ok
  · exact ab_ly_in ab_ly4_ok
  · exact ab_ly_in ab_ly5_ok
  · exact ab_ly_in ab_ly6_ok
  · exact ab_ly_in ab_ly7_ok
end
section
set_option maxRecDepth 100000 in
theorem ab_M0_ok : ab_M0.all ab_MT = true := by decide +kernel
set_option maxRecDepth 100000 in
theorem ab_M1_ok : ab_M1.all ab_MT = true := by decide +kernel
set_option maxRecDepth 100000 in
theorem ab_M2_ok : ab_M2.all ab_MT = true := by decide +kernel
set_option maxRecDepth 100000 in
theorem ab_M3_ok : ab_M3.all ab_MT = true := by decide +kernel
end
section
set_option maxRecDepth 100000 in
theorem ab_M4_ok : ab_M4.all ab_MT = true := by decide +kernel
set_option maxRecDepth 100000 in
theorem ab_M5_ok : ab_M5.all ab_MT = true := by decide +kernel
set_option maxRecDepth 100000 in
theorem ab_M6_ok : ab_M6.all ab_MT = true := by decide +kernel
set_option maxRecDepth 100000 in
theorem ab_M7_ok : ab_M7.all ab_MT = true := by decide +kernel
end
section
set_option maxRecDepth 100000 in
theorem ab_M8_ok : ab_M8.all ab_MT = true := by decide +kernel
set_option maxRecDepth 100000 in
theorem ab_M9_ok : ab_M9.all ab_MT = true := by decide +kernel
set_option maxRecDepth 100000 in
theorem ab_M10_ok : ab_M10.all ab_MT = true := by decide +kernel
set_option maxRecDepth 100000 in
theorem ab_M11_ok : ab_M11.all ab_MT = true := by decide +kernel
end
section
set_option maxRecDepth 100000 in
theorem ab_M12_ok : ab_M12.all ab_MT = true := by decide +kernel
set_option maxRecDepth 100000 in
theorem ab_M13_ok : ab_M13.all ab_MT = true := by decide +kernel
set_option maxRecDepth 100000 in
theorem ab_M14_ok : ab_M14.all ab_MT = true := by decide +kernel
end
section
theorem ab_M_ok : ab_M.all ab_MT = true := by
  unfold ab_M
  simp only [List.all_append, ab_M0_ok, ab_M1_ok, ab_M2_ok, ab_M3_ok, ab_M4_ok, ab_M5_ok, ab_M6_ok, ab_M7_ok, ab_M8_ok, ab_M9_ok, ab_M10_ok, ab_M11_ok, ab_M12_ok, ab_M13_ok, ab_M14_ok, Bool.and_self]
def ab_nm (mi : Nat) : MethodName := ((ab_M[mi]?).map (fun q => q.2.1)).getD objectInit
def ab_by (mi : Nat) : ByteArray := ((ab_M[mi]?).map (fun q => q.2.2.1)).getD ⟨#[0xb1]⟩
def ab_mlT (e : Nat × Nat × Nat × Nat × ab_P) : Bool := match e with
  | (own, i, mi, kd, q) =>
    if kd = 0 then ab_has q (.methodLink (ab_C own) i (ab_nm mi)) && decide (((ab_M[mi]?).map (fun q => decide (q.2.2.2.2.2.2.2.2.2.2 = (0, 0)) && decide (¬ q.2.1.name = "<init>"))).getD false = true)
    else if kd = 1 then ab_has q (.methodLink (ab_C own) i (ab_nm mi)) && decide (((ab_M[mi]?).map (fun q => decide (¬ q.2.2.2.2.2.2.2.2.2.2 = (0, 0)))).getD false = true)
    else if kd = 2 then decide (ab_NW[q.2]? = some (.methodLinkNest (ab_C own) i (ab_nm mi) RX7)) && decide (((ab_M[mi]?).map (fun q => decide (¬ q.2.2.2.2.2.2.2.2.2.2 = (0, 0)))).getD false = true)
    else if kd = 3 then ab_has q (.methodLink (ab_C own) i (ab_nm mi)) && decide (((ab_M[mi]?).map (fun q => decide (q.2.2.2.2.2.2.2.2.2.2 = (0, 0)) && decide (q.2.1.name = "<init>") && decide (q.2.2.2.2.1 = none))).getD false = true)
    else if kd = 4 then decide (ab_NW[q.2]? = some (.methodLinkNest (ab_C own) i (ab_nm mi) RX7)) && decide (((ab_M[mi]?).map (fun q => decide (q.2.2.2.2.2.2.2.2.2.2 = (0, 0)) && decide (q.2.1.name = "<init>") && decide (q.2.2.2.2.1 = none))).getD false = true)
    else if kd = 5 then ab_has q (.methodLink (ab_C own) i objectInit)
    else if kd = 6 then ab_has q (.methodLink (ab_C own) i arraycopyName)
    else if kd = 7 then ab_has q (.methodLink (ab_C own) i Lib.Math.max.name)
    else if kd = 8 then ab_has q (.methodLink (ab_C own) i yJ0_length_8abf5)
    else if kd = 9 then ab_has q (.methodLink (ab_C own) i yJ0_charAt_5068e)
    else true
set_option maxRecDepth 100000 in
theorem ab_mlL_ok : ab_mlL.all ab_mlT = true := by decide +kernel
end
section
/-- the texts that ldc loads: their places in the pool of the class 4, the texts, their bytes -/
def ab_kIx : List Nat := [150, 156, 158, 160, 162, 164, 166, 168, 170, 172, 174, 176]
def ab_sT (k : Nat) : String := ["num", "arg", "add", "mul", "neg", "less", "div", "phi", "goto", "if", "ret", "block"].getD k ""
def ab_sL : List Nat := [3, 3, 3, 3, 3, 4, 3, 3, 4, 2, 3, 5]
def ab_sB : List (List Int32) := [[110, 117, 109], [97, 114, 103], [97, 100, 100], [109, 117, 108], [110, 101, 103], [108, 101, 115, 115], [100, 105, 118], [112, 104, 105], [103, 111, 116, 111], [105, 102], [114, 101, 116], [98, 108, 111, 99, 107]]
def ab_kS (own i : Nat) : Option Nat := if own = 4 then ab_kIx.findIdx? (fun j => j == i) else none
theorem ab_kS_spec {own i k : Nat} (h : ab_kS own i = some k) : own = 4 ∧ k < 12 ∧ ab_kIx.getD k 0 = i := by
  unfold ab_kS at h
  split at h
  · rename_i ho
    obtain ⟨h1, h2, -⟩ := List.findIdx?_eq_some_iff_getElem.mp h
    have h3 : k < 12 := h1
    refine ⟨ho, h3, ?_⟩
    rw [List.getD_eq_getElem?_getD, List.getElem?_eq_getElem h1, Option.getD_some]
    exact of_decide_eq_true (by simpa using h2)
  · cases h
def ab_fl (own i : Nat) : Option (Nat × Nat) := (ab_flL.find? (fun e => e.1 == own && e.2.1 == i)).map (fun e => (e.2.2.1, e.2.2.2.1))
def ab_ml (own i : Nat) : Option (Nat × Nat) := (ab_mlL.find? (fun e => e.1 == own && e.2.1 == i)).map (fun e => (e.2.2.1, e.2.2.2.1))
def ab_kI (own i : Nat) : Option Int32 := (ab_kIL.find? (fun e => e.1 == own && e.2.1 == i)).map (fun e => e.2.2.1)
def ab_kL (own i : Nat) : Option Int64 := (ab_kLL.find? (fun e => e.1 == own && e.2.1 == i)).map (fun e => e.2.2.1)
def ab_nw (own i : Nat) : Option Nat := (ab_nwL.find? (fun e => e.1 == own && e.2.1 == i)).map (fun e => e.2.2.1)
/-- may this value stand in a field of this type -/
def ab_fit : FieldType → Value → Bool
  | .int, .int _ => true
  | .boolean, .int x => decide (x = 0) || decide (x = 1)
  | .long, .long _ => true
  | .object _, .ref _ => true
  | .array _, .ref _ => true
  | _, _ => false
def ab_rl (h : ab_H) (o : Nat) : Nat := ((h.1[o]?).map (fun x => x.2.2.length)).getD 0
def ab_rlok (h : ab_H) (o k : Nat) : Value → Bool
  | .ref _ => decide (k < ab_rl h o)
  | _ => true
def ab_lt (n : Nat) : Value → Bool
  | .ref r => decide (r < n)
  | _ => true
def ab_setv (h : ab_H) (o k : Nat) : Value → ab_H
  | .int x => ab_seti h o k x
  | .long x => ab_setl h o k x
  | .ref r => ab_setr h o k r
  | _ => h
def ab_cmp : Jvm.ClassFile.Cond → Int32 → Int32 → Bool
  | .eq, x, y => decide (x = y)
  | .ne, x, y => decide (¬ x = y)
  | .lt, x, y => decide (x < y)
  | .ge, x, y => decide (y ≤ x)
  | .gt, x, y => decide (y < x)
  | .le, x, y => decide (x ≤ y)
def ab_in (i : Int32) (n : Nat) : Bool := decide (0 ≤ i) && decide (i.toNatClampNeg < n)
def ab_cat (S : List Value) : Nat := (S.map (fun v => v.category)).sum
def ab_go (pc : Nat) (off : Int) (L : ab_L) (S : List Value) (h : ab_H) : ab_R := if 0 ≤ (pc : Int) + off then some (.inl (((pc : Int) + off).toNat, L, S, h)) else none
def ab_ref (h : ab_H) (o kd : Nat) : Bool := decide (o < ab_nx h) && decide (ab_kd h o = kd)
def ab_ret (ret : Option FieldType) : List Value → ab_H → ab_R
  | [.int v], h => match ret with | some ty => if narrow ty (.int v) = .int v then some (.inr (some (.int v), h)) else none | none => none
  | _, _ => none
def ab_call (call : Nat → List Value → ab_H → Option (Option Value × ab_H)) (mi : Nat) (args : List Value) (pc : Nat) (L : ab_L) (rest : List Value) (h : ab_H) : ab_R :=
  if ab_cat rest ≤ 8 then match call mi args h with
    | some (rv, h') => if (ab_nx h' = ab_nx h ∧ ab_sl h' = ab_sl h) ∨ (ab_nx h ≤ ab_nx h' ∧ ab_sl h ≤ ab_sl h' ∧ (L.all (fun v => (v.map (ab_ok (ab_nx h))).getD true) && rest.all (ab_ok (ab_nx h))) = true) then some (.inl (pc + 3, L, rv.toList ++ rest, h')) else none
    | none => none
  else none
def ab_own (mi : Nat) : Nat := ((ab_M[mi]?).map (fun q => q.1)).getD 99
def ab_np (mi : Nat) : Nat := ((ab_M[mi]?).map (fun q => q.2.2.2.2.2.1)).getD 0
def ab_rt (mi : Nat) : Option FieldType := ((ab_M[mi]?).map (fun q => q.2.2.2.2.1)).getD none
def ab_mxl (mi : Nat) : Nat := ((ab_M[mi]?).map (fun q => q.2.2.2.1)).getD 0
def ab_inv (call : Nat → List Value → ab_H → Option (Option Value × ab_H)) (own i : Nat) (virt : Bool) (pc : Nat) (L : ab_L) (S : List Value) (h : ab_H) : ab_R := match ab_ml own i with
  | some (mi, kd) =>
    if virt then
      if kd = 0 then match S.drop (ab_np mi) with
        | .ref b :: rest => if ab_ref h b (ab_own mi) && decide (ab_own mi < 8) && (S.take (ab_np mi)).all (ab_ok (ab_nx h)) then ab_call call mi (.ref b :: (S.take (ab_np mi)).reverse) pc L rest h else none
        | _ => none
      else if kd = 8 then match S with
        | .ref b :: rest => if 1000 ≤ b ∧ b < 1012 ∧ ab_cat rest ≤ 8 then some (.inl (pc + 3, L, .int (Int32.ofNat (ab_sL.getD (b - 1000) 0)) :: rest, h)) else none
        | _ => none
      else if kd = 9 then match S with
        | .int i :: .ref b :: rest => if 1000 ≤ b ∧ b < 1012 ∧ ab_in i (ab_sL.getD (b - 1000) 0) = true ∧ ab_cat rest ≤ 8 then some (.inl (pc + 3, L, .int ((ab_sB.getD (b - 1000) []).getD i.toNatClampNeg 0) :: rest, h)) else none
        | _ => none
      else none
    else if kd = 1 ∨ kd = 2 then (if ab_np mi ≤ S.length ∧ (S.take (ab_np mi)).all (ab_ok (ab_nx h)) = true then ab_call call mi (S.take (ab_np mi)).reverse pc L (S.drop (ab_np mi)) h else none)
    else if kd = 6 then match S with
      | .int n :: .int dp :: .ref a1 :: .int sp :: .ref a0 :: rest =>
        if ab_ref h a0 10 && ab_ref h a1 10 && decide (0 ≤ sp) && decide (0 ≤ dp) && decide (0 ≤ n) && decide (sp.toNatClampNeg + n.toNatClampNeg ≤ ab_ln h a0) && decide (dp.toNatClampNeg + n.toNatClampNeg ≤ ab_ln h a1) && decide (ab_cat rest ≤ 8) then
          some (.inl (pc + 3, L, rest, (h.1, (fun o => if o = a1 then va_cpy (h.2.1 a0) (h.2.1 a1) sp.toNatClampNeg dp.toNatClampNeg n.toNatClampNeg else h.2.1 o), h.2.2)))
        else none
      | _ => none
    else if kd = 7 then match S with
      | .int y :: .int x :: rest => if ab_cat rest ≤ 8 then some (.inl (pc + 3, L, .int (if x < y then y else x) :: rest, h)) else none
      | _ => none
    else none
  | none => none
def ab_spc (call : Nat → List Value → ab_H → Option (Option Value × ab_H)) (own i : Nat) (pc : Nat) (L : ab_L) (S : List Value) (h : ab_H) : ab_R := match ab_ml own i with
  | some (mi, kd) =>
    if kd = 5 then match S with
      | .ref _ :: rest => if ab_cat rest ≤ 8 then some (.inl (pc + 3, L, rest, h)) else none
      | _ => none
    else if kd = 3 ∨ kd = 4 then match S with
      | .ref b :: rest => if ab_np mi = 0 ∧ ab_ref h b (ab_own mi) = true ∧ ab_own mi < 8 then ab_call call mi [.ref b] pc L rest h else none
      | _ => none
    else none
  | none => none
def ab_newarr (ty : ArrayType) (n : Int32) (pc : Nat) (L : ab_L) (S : List Value) (h : ab_H) : ab_R :=
  if 0 ≤ n ∧ n.toNatClampNeg ≤ 1000 ∧ ab_nx h < 1000 ∧ (L.all (fun v => (v.map (ab_ok (ab_nx h))).getD true) && S.all (ab_ok (ab_nx h))) = true then
    (match ty with
      | .int => some (.inl (pc + 2, L, .ref (ab_nx h) :: S, ab_new h 10 n.toNatClampNeg []))
      | .long => some (.inl (pc + 2, L, .ref (ab_nx h) :: S, ab_new h 11 n.toNatClampNeg []))
      | .boolean => some (.inl (pc + 2, L, .ref (ab_nx h) :: S, ab_new h 12 n.toNatClampNeg []))
      | .byte => some (.inl (pc + 2, L, .ref (ab_nx h) :: S, ab_new h 13 n.toNatClampNeg []))
      | _ => none)
  else none
def ab_step (call : Nat → List Value → ab_H → Option (Option Value × ab_H)) (own : Nat) (ini : Bool) (ret : Option FieldType) (scr : Option (List Int32)) (ins : Instr) (len pc : Nat) (L : ab_L) (S : List Value) (h : ab_H) : ab_R := match ins with
  | .iconst n => some (.inl (pc + 1, L, .int (Int32.ofInt n) :: S, h))
  | .bipush n => some (.inl (pc + 2, L, .int (Int8.ofInt n).toInt32 :: S, h))
  | .sipush n => some (.inl (pc + 3, L, .int (Int16.ofInt n).toInt32 :: S, h))
  | .lconst n => some (.inl (pc + 1, L, .long (Int64.ofNat n) :: S, h))
  | .ldc i => match ab_kI own i with | some v => some (.inl (pc + 2, L, .int v :: S, h)) | none => match ab_kS own i with | some k => some (.inl (pc + 2, L, .ref (1000 + k) :: S, h)) | none => none
  | .ldc_w i => match ab_kI own i with | some v => some (.inl (pc + 3, L, .int v :: S, h)) | none => none
  | .ldc2_w i => match ab_kL own i with | some v => some (.inl (pc + 3, L, .long v :: S, h)) | none => none
  | .iload_n k => match L.getD k.val none with | some (.int x) => some (.inl (pc + 1, L, .int x :: S, h)) | _ => none
  | .iload k => match L.getD k none with | some (.int x) => some (.inl (pc + 2, L, .int x :: S, h)) | _ => none
  | .lload_n k => match L.getD k.val none with | some (.long x) => some (.inl (pc + 1, L, .long x :: S, h)) | _ => none
  | .lload k => match L.getD k none with | some (.long x) => some (.inl (pc + 2, L, .long x :: S, h)) | _ => none
  | .aload_n k => match L.getD k.val none with | some (.ref x) => some (.inl (pc + 1, L, .ref x :: S, h)) | _ => none
  | .aload k => match L.getD k none with | some (.ref x) => some (.inl (pc + 2, L, .ref x :: S, h)) | _ => none
  | .istore_n k => match S with | .int x :: S => if k.val < L.length then some (.inl (pc + 1, ab_put k.val (.int x) L, S, h)) else none | _ => none
  | .istore k => match S with | .int x :: S => if k < L.length then some (.inl (pc + 2, ab_put k (.int x) L, S, h)) else none | _ => none
  | .lstore_n k => match S with | .long x :: S => if k.val + 1 < L.length then some (.inl (pc + 1, ab_put k.val (.long x) L, S, h)) else none | _ => none
  | .lstore k => match S with | .long x :: S => if k + 1 < L.length then some (.inl (pc + 2, ab_put k (.long x) L, S, h)) else none | _ => none
  | .astore_n k => match S with | .ref x :: S => if k.val < L.length then some (.inl (pc + 1, ab_put k.val (.ref x) L, S, h)) else none | _ => none
  | .astore k => match S with | .ref x :: S => if k < L.length then some (.inl (pc + 2, ab_put k (.ref x) L, S, h)) else none | _ => none
  | .iinc k n => match L.getD k none with | some (.int x) => if k < L.length then some (.inl (pc + 3, ab_put k (.int (x + Int32.ofInt n)) L, S, h)) else none | _ => none
  | .iadd => match S with | .int y :: .int x :: S => some (.inl (pc + 1, L, .int (x + y) :: S, h)) | _ => none
  | .isub => match S with | .int y :: .int x :: S => some (.inl (pc + 1, L, .int (x - y) :: S, h)) | _ => none
  | .imul => match S with | .int y :: .int x :: S => some (.inl (pc + 1, L, .int (x * y) :: S, h)) | _ => none
  | .idiv => match S with | .int y :: .int x :: S => if y = 0 then none else some (.inl (pc + 1, L, .int (x / y) :: S, h)) | _ => none
  | .irem => match S with | .int y :: .int x :: S => if y = 0 then none else some (.inl (pc + 1, L, .int (x - x / y * y) :: S, h)) | _ => none
  | .iand => match S with | .int y :: .int x :: S => some (.inl (pc + 1, L, .int (x &&& y) :: S, h)) | _ => none
  | .ior => match S with | .int y :: .int x :: S => some (.inl (pc + 1, L, .int (x ||| y) :: S, h)) | _ => none
  | .ixor => match S with | .int y :: .int x :: S => some (.inl (pc + 1, L, .int (x ^^^ y) :: S, h)) | _ => none
  | .ishl => match S with | .int y :: .int x :: S => some (.inl (pc + 1, L, .int (x <<< (y &&& 31)) :: S, h)) | _ => none
  | .ishr => match S with | .int y :: .int x :: S => some (.inl (pc + 1, L, .int (x >>> (y &&& 31)) :: S, h)) | _ => none
  | .iushr => match S with | .int y :: .int x :: S => some (.inl (pc + 1, L, .int (x.toUInt32 >>> (y.toUInt32 &&& Int32.toUInt32 31)).toInt32 :: S, h)) | _ => none
  | .ladd => match S with | .long y :: .long x :: S => some (.inl (pc + 1, L, .long (x + y) :: S, h)) | _ => none
  | .lsub => match S with | .long y :: .long x :: S => some (.inl (pc + 1, L, .long (x - y) :: S, h)) | _ => none
  | .lmul => match S with | .long y :: .long x :: S => some (.inl (pc + 1, L, .long (x * y) :: S, h)) | _ => none
  | .ldiv => match S with | .long y :: .long x :: S => if y = 0 then none else some (.inl (pc + 1, L, .long (x / y) :: S, h)) | _ => none
  | .lshr => match S with | .int y :: .long x :: S => some (.inl (pc + 1, L, .long (x >>> (y.toInt64 &&& 63)) :: S, h)) | _ => none
  | .lneg => match S with | .long x :: S => some (.inl (pc + 1, L, .long (-x) :: S, h)) | _ => none
  | .lcmp => match S with | .long y :: .long x :: S => some (.inl (pc + 1, L, .int (lg_cmp x y) :: S, h)) | _ => none
  | .i2l => match S with | .int x :: S => some (.inl (pc + 1, L, .long x.toInt64 :: S, h)) | _ => none
  | .l2i => match S with | .long x :: S => some (.inl (pc + 1, L, .int x.toInt32 :: S, h)) | _ => none
  | .i2b => match S with | .int x :: S => some (.inl (pc + 1, L, .int x.toInt8.toInt32 :: S, h)) | _ => none
  | .i2s => match S with | .int x :: S => some (.inl (pc + 1, L, .int x.toInt16.toInt32 :: S, h)) | _ => none
  | .dup => match S with | v :: S => if v.category = 1 then some (.inl (pc + 1, L, v :: v :: S, h)) else none | _ => none
  | .dup2 => match S with | v :: w :: S => if v.category = 1 ∧ w.category = 1 then some (.inl (pc + 1, L, v :: w :: v :: w :: S, h)) else none | _ => none
  | .pop => match S with | v :: S => if v.category = 1 then some (.inl (pc + 1, L, S, h)) else none | _ => none
  | .pop2 => match S with | v :: S => if v.category = 2 then some (.inl (pc + 1, L, S, h)) else none | _ => none
  | .if_icmp c off => match S with | .int y :: .int x :: S => if 0 ≤ (pc : Int) + off then some (.inl (if ab_cmp c x y then ((pc : Int) + off).toNat else pc + 3, L, S, h)) else none | _ => none
  | .ifCond c off => match S with | .int x :: S => if 0 ≤ (pc : Int) + off then some (.inl (if ab_cmp c x 0 then ((pc : Int) + off).toNat else pc + 3, L, S, h)) else none | _ => none
  | .goto off => ab_go pc off L S h
  | .tableswitch dflt lo hi offs => match S with | .int x :: S => (if x.toInt < lo ∨ hi < x.toInt then ab_go pc dflt L S h else (match offs[(x.toInt - lo).toNat]? with | some off => ab_go pc off L S h | none => none)) | _ => none
  | .lookupswitch dflt ps => match S with | .int x :: S => if (ps.toList.zip (ps.toList.drop 1)).all (fun (a, next) => a.1 < next.1) = true then ab_go pc (Op.lookupswitch.offset ps.toList dflt x.toInt) L S h else none | _ => none
  | .getfield i => match ab_fl own i, S with | some (ci, k), .ref o :: S => if ab_ref h o ci && decide (k < ab_N ci) && decide (ci < 8) then some (.inl (pc + 3, L, ab_gv h o k (ab_ty ci k) :: S, h)) else none | _, _ => none
  | .putfield i => match ab_fl own i, S with | some (ci, k), v :: .ref o :: S => if ab_ref h o ci && decide (k < ab_N ci) && decide (ci < 8) && ab_fit (ab_ty ci k) v && ab_rlok h o k v && ab_lt (ab_nx h) v && (!(ab_T ci k).2.2.2 || (ini && decide (own = ci))) then some (.inl (pc + 3, L, S, ab_setv h o k v)) else none | _, _ => none
  | .iaload => match S with
    | .int i :: .ref o :: S => if o = 2000 then (match scr with | some xs => if ab_in i xs.length then some (.inl (pc + 1, L, .int (xs.getD i.toNatClampNeg 0) :: S, h)) else none | none => none)
      else if ab_ref h o 10 && ab_in i (ab_ln h o) then some (.inl (pc + 1, L, .int (h.2.1 o i.toNatClampNeg) :: S, h)) else none
    | _ => none
  | .baload => match S with | .int i :: .ref o :: S => if (ab_ref h o 12 || ab_ref h o 13) && ab_in i (ab_ln h o) then some (.inl (pc + 1, L, .int (h.2.1 o i.toNatClampNeg) :: S, h)) else none | _ => none
  | .laload => match S with | .int i :: .ref o :: S => if ab_ref h o 11 && ab_in i (ab_ln h o) then some (.inl (pc + 1, L, .long (h.2.2 o i.toNatClampNeg) :: S, h)) else none | _ => none
  | .aaload => match S with | .int i :: .ref o :: S => if (ab_ref h o 14 || ab_ref h o 15) && ab_in i (ab_ln h o) then some (.inl (pc + 1, L, va_rf (ab_rf h o i.toNatClampNeg) :: S, h)) else none | _ => none
  | .iastore => match S with | .int x :: .int i :: .ref o :: S => if ab_ref h o 10 && ab_in i (ab_ln h o) then some (.inl (pc + 1, L, S, ab_seti h o i.toNatClampNeg x)) else none | _ => none
  | .bastore => match S with | .int x :: .int i :: .ref o :: S => if (ab_ref h o 12 || ab_ref h o 13) && ab_in i (ab_ln h o) then some (.inl (pc + 1, L, S, ab_seti h o i.toNatClampNeg (if ab_kd h o = 12 then vp_nar .boolean x else vp_nar .byte x))) else none | _ => none
  | .lastore => match S with | .long x :: .int i :: .ref o :: S => if ab_ref h o 11 && ab_in i (ab_ln h o) then some (.inl (pc + 1, L, S, ab_setl h o i.toNatClampNeg x)) else none | _ => none
  | .aastore => match S with | .ref r :: .int i :: .ref o :: S => if ab_ref h o 15 && ab_ref h r 3 && ab_in i (ab_ln h o) && decide (i.toNatClampNeg < ab_rl h o) then some (.inl (pc + 1, L, S, ab_setr h o i.toNatClampNeg r)) else none | _ => none
  | .arraylength => match S with | .ref o :: S => (if o = 2000 then (match scr with | some xs => some (.inl (pc + 1, L, .int xs.length.toInt32 :: S, h)) | none => none) else none) | _ => none
  | .new i => match ab_nw own i with | some ci => if ci < 8 ∧ ab_nx h < 1000 ∧ (L.all (fun v => (v.map (ab_ok (ab_nx h))).getD true) && S.all (ab_ok (ab_nx h))) = true then some (.inl (pc + 3, L, .ref (ab_nx h) :: S, ab_new h ci (ab_N ci) (List.replicate (ab_N ci) none))) else none | none => none
  | .newarray ty => match S with | .int n :: S => ab_newarr ty n pc L S h | _ => none
  | .anewarray i => match ab_nw own i, S with
    | some ci, .int n :: S => if ci = 3 ∧ 0 ≤ n ∧ n.toNatClampNeg ≤ 1000 ∧ ab_nx h < 1000 ∧ (L.all (fun v => (v.map (ab_ok (ab_nx h))).getD true) && S.all (ab_ok (ab_nx h))) = true then some (.inl (pc + 3, L, .ref (ab_nx h) :: S, ab_new h 15 n.toNatClampNeg (List.replicate n.toNatClampNeg none))) else none
    | _, _ => none
  | .multianewarray i d => match S with
    | .int k :: .int n :: S => if d = 2 ∧ ((own = 3 ∧ i = 33) ∨ (own = 5 ∧ i = 18)) ∧ 0 ≤ n ∧ 0 ≤ k ∧ n.toNatClampNeg ≤ 1000 ∧ k.toNatClampNeg ≤ 1000 ∧ ab_nx h + n.toNatClampNeg < 1000 ∧ (L.all (fun v => (v.map (ab_ok (ab_nx h))).getD true) && S.all (ab_ok (ab_nx h))) = true then some (.inl (pc + 4, L, .ref (ab_nx h) :: S, ab_mna h n.toNatClampNeg k.toNatClampNeg)) else none
    | _ => none
  | .ireturn => ab_ret ret S h
  | .lreturn => match S with | [.long v] => if ret = some .long then some (.inr (some (.long v), h)) else none | _ => none
  | .return_ => match S with | [] => if ret = none then some (.inr (none, h)) else none | _ => none
  | .invokevirtual i => ab_inv call own i true pc L S h
  | .invokestatic i => ab_inv call own i false pc L S h
  | .invokespecial i => ab_spc call own i pc L S h
  | _ => none
def ab_loop (call : Nat → List Value → ab_H → Option (Option Value × ab_H)) (code : Nat → Option (Instr × Nat)) (own : Nat) (ini : Bool) (ret : Option FieldType) (scr : Option (List Int32)) : Nat → ab_F → Option (Option Value × ab_H)
  | 0, _ => none
  | n + 1, (pc, L, S, h) => match code pc with
    | some (ins, len) => match ab_step call own ini ret scr ins len pc L S h with
      | some (.inl st) => ab_loop call code own ini ret scr n st
      | some (.inr r) => some r
      | none => none
    | none => none
end
section
/-! SOUNDNESS of a step of the abstract machine: what it does, the machine does. -/
def ab_lenok : Instr → Nat → Bool
  | .tableswitch _ _ _ _, _ => true
  | .lookupswitch _ _, _ => true
  | .bipush _, n => n == 2
  | .iload _, n => n == 2
  | .lload _, n => n == 2
  | .istore _, n => n == 2
  | .aload _, n => n == 2
  | .astore _, n => n == 2
  | .lstore _, n => n == 2
  | .ldc _, n => n == 2
  | .newarray _, n => n == 2
  | .sipush _, n => n == 3
  | .ldc_w _, n => n == 3
  | .ldc2_w _, n => n == 3
  | .iinc _ _, n => n == 3
  | .if_icmp _ _, n => n == 3
  | .ifCond _ _, n => n == 3
  | .goto _, n => n == 3
  | .getfield _, n => n == 3
  | .putfield _, n => n == 3
  | .invokevirtual _, n => n == 3
  | .invokestatic _, n => n == 3
  | .invokespecial _, n => n == 3
  | .new _, n => n == 3
  | .anewarray _, n => n == 3
  | .multianewarray _ _, n => n == 4
  | _, n => n == 1
def ab_AOA (U : State) : Prop := (Cond.arrayOver (.array .int)).before #[] U = true
def ab_EF (D : va_G) (y : Nat → ClassId) (U : State) : Prop := va_K D vwCl (ab_tys y) U ∧ (∀ w ∈ ab_NW, va_Nw w U) ∧ va_AO RX3 U ∧ ab_AOA U
def ab_fx (ad ad0 : Nat → Nat) (h0 h : ab_H) : Prop := (∀ o, o < ab_nx h0 ∨ 1000 ≤ o → ad o = ad0 o) ∧ (ab_nx h = ab_nx h0 → ad = ad0)
def ab_Sim (p : Program) (l : Launch) (e : Env) (R : Room) (s : State) (m : MethodId) (args : Array Value) (below : List Frame) (meth : Method) (c : Code) (Q : State → Prop) (A : Nat → Prop) (D : va_G) (y : Nat → ClassId) (nL : Nat) (ad0 : Nat → Nat) (h0 : ab_H) (F : ab_F) : Prop :=
  ∀ (ad : Nat → Nat) (H : Heap) (locs : List Loc) (ls : Array Slot), va_P D vwCl (ab_ws y ad F.2.2.2) H → va_D A (ab_ws y ad F.2.2.2) → va_S A s.heap H locs → ab_wf F.2.2.2 → lv_has ls nL (ab_le ad F.2.1) → F.2.1.length = nL → ab_fx ad ad0 h0 F.2.2.2 → ab_nx h0 ≤ ab_nx F.2.2.2 → ab_sl h0 ≤ ab_sl F.2.2.2 →
    W p l e R s m args below meth c H locs (ab_nx F.2.2.2 - ab_nx h0) (ab_sl F.2.2.2 - ab_sl h0) Q (F0 m F.1 ls (F.2.2.1.map (ab_cv ad)))
section ABS
variable {p : Program} {l : Launch} {e : Env} {R : Room} {s : State} {m : MethodId} {args : Array Value} {below : List Frame} {meth : Method} {c : Code} {Q : State → Prop} {A : Nat → Prop} {D : va_G} {y : Nat → ClassId} {nL : Nat} {ad0 : Nat → Nat} {h0 : ab_H} {cc : ByteArray} {pc : Nat} {L : ab_L} {S : List Value} {h : ab_H}
theorem ab_loc {ad : Nat → Nat} {ls : Array Slot} {i : Nat} {v : Value} (hl : lv_has ls nL (ab_le ad L)) (hv : L.getD i none = some v) : ls[i]? = some (.val (ab_cv ad v)) := hl.2.2 (i, ab_cv ad v) (ab_le_mem.mpr ⟨v, hv, rfl⟩)
theorem ab_in_vp {i : Int32} {n : Nat} (h : ab_in i n = true) : vp_in i n := by
  unfold ab_in at h
  rw [Bool.and_eq_true, decide_eq_true_eq, decide_eq_true_eq] at h
  intro z
  rcases z with z | z
  · exact absurd z (Int32.not_lt.mpr h.1)
  · omega
theorem ab_refs {o kd : Nat} (hr : ab_ref h o kd = true) : o < ab_nx h ∧ ab_kd h o = kd := by
  unfold ab_ref at hr
  rw [Bool.and_eq_true, decide_eq_true_eq, decide_eq_true_eq] at hr
  exact hr
theorem ab_tgt {off : Int} (h : 0 ≤ (pc : Int) + off) : (pc : Int) + off = ((((pc : Int) + off).toNat : Nat) : Int) := (Int.toNat_of_nonneg h).symm
theorem ab_goto_sim {off : Int} {F : ab_F} (hg : ab_go pc off L S h = some (.inl F)) : 0 ≤ (pc : Int) + off ∧ F = (((pc : Int) + off).toNat, L, S, h) := by
  unfold ab_go at hg
  split at hg
  · rename_i h0
    cases hg
    exact ⟨h0, rfl⟩
  · cases hg

theorem abs_iconst (hx : p.tables.exec = Jvm.exec) (hb : c.code = cc) {n : Int} (hd : decode cc pc = .ok (.iconst n, 1)) (k : ab_Sim p l e R s m args below meth c Q A D y nL ad0 h0 (pc + 1, L, .int (Int32.ofInt n) :: S, h)) : ab_Sim p l e R s m args below meth c Q A D y nL ad0 h0 (pc, L, S, h) := by
  intro ad H locs ls hP hD hS hw hl hlen hfix hn1 hn2
  exact lv_iconst hx hb hd rfl (k ad H locs ls hP hD hS hw hl hlen hfix hn1 hn2)

theorem abs_bipush (hx : p.tables.exec = Jvm.exec) (hb : c.code = cc) {n : Int} (hd : decode cc pc = .ok (.bipush n, 2)) (k : ab_Sim p l e R s m args below meth c Q A D y nL ad0 h0 (pc + 2, L, .int (Int8.ofInt n).toInt32 :: S, h)) : ab_Sim p l e R s m args below meth c Q A D y nL ad0 h0 (pc, L, S, h) := by
  intro ad H locs ls hP hD hS hw hl hlen hfix hn1 hn2
  exact lv_bipush hx hb hd rfl (k ad H locs ls hP hD hS hw hl hlen hfix hn1 hn2)

theorem abs_sipush (hx : p.tables.exec = Jvm.exec) (hb : c.code = cc) {n : Int} (hd : decode cc pc = .ok (.sipush n, 3)) (k : ab_Sim p l e R s m args below meth c Q A D y nL ad0 h0 (pc + 3, L, .int (Int16.ofInt n).toInt32 :: S, h)) : ab_Sim p l e R s m args below meth c Q A D y nL ad0 h0 (pc, L, S, h) := by
  intro ad H locs ls hP hD hS hw hl hlen hfix hn1 hn2
  exact lv_sipush hx hb hd rfl (k ad H locs ls hP hD hS hw hl hlen hfix hn1 hn2)

theorem abs_lconst (hx : p.tables.exec = Jvm.exec) (hb : c.code = cc) {n : Fin 2} (hd : decode cc pc = .ok (.lconst n, 1)) (k : ab_Sim p l e R s m args below meth c Q A D y nL ad0 h0 (pc + 1, L, .long (Int64.ofNat n) :: S, h)) : ab_Sim p l e R s m args below meth c Q A D y nL ad0 h0 (pc, L, S, h) := by
  intro ad H locs ls hP hD hS hw hl hlen hfix hn1 hn2
  exact lv_lconst hx hb hd rfl (k ad H locs ls hP hD hS hw hl hlen hfix hn1 hn2)

theorem abs_iload_n (hx : p.tables.exec = Jvm.exec) (hb : c.code = cc) {j : Fin 4} {x : Int32} (hv : L.getD j.val none = some (.int x)) (hd : decode cc pc = .ok (.iload_n j, 1)) (k : ab_Sim p l e R s m args below meth c Q A D y nL ad0 h0 (pc + 1, L, .int x :: S, h)) : ab_Sim p l e R s m args below meth c Q A D y nL ad0 h0 (pc, L, S, h) := by
  intro ad H locs ls hP hD hS hw hl hlen hfix hn1 hn2
  exact lv_iload_n hx hb hd rfl (ab_loc hl hv) (k ad H locs ls hP hD hS hw hl hlen hfix hn1 hn2)

theorem abs_iload (hx : p.tables.exec = Jvm.exec) (hb : c.code = cc) {j : Nat} {x : Int32} (hv : L.getD j none = some (.int x)) (hd : decode cc pc = .ok (.iload j, 2)) (k : ab_Sim p l e R s m args below meth c Q A D y nL ad0 h0 (pc + 2, L, .int x :: S, h)) : ab_Sim p l e R s m args below meth c Q A D y nL ad0 h0 (pc, L, S, h) := by
  intro ad H locs ls hP hD hS hw hl hlen hfix hn1 hn2
  exact lv_iload hx hb hd (ab_loc hl hv) (k ad H locs ls hP hD hS hw hl hlen hfix hn1 hn2)

theorem abs_lload_n (hx : p.tables.exec = Jvm.exec) (hb : c.code = cc) {j : Fin 4} {x : Int64} (hv : L.getD j.val none = some (.long x)) (hd : decode cc pc = .ok (.lload_n j, 1)) (k : ab_Sim p l e R s m args below meth c Q A D y nL ad0 h0 (pc + 1, L, .long x :: S, h)) : ab_Sim p l e R s m args below meth c Q A D y nL ad0 h0 (pc, L, S, h) := by
  intro ad H locs ls hP hD hS hw hl hlen hfix hn1 hn2
  exact lv_lload_n hx hb hd rfl (ab_loc hl hv) (k ad H locs ls hP hD hS hw hl hlen hfix hn1 hn2)

theorem abs_lload (hx : p.tables.exec = Jvm.exec) (hb : c.code = cc) {j : Nat} {x : Int64} (hv : L.getD j none = some (.long x)) (hd : decode cc pc = .ok (.lload j, 2)) (k : ab_Sim p l e R s m args below meth c Q A D y nL ad0 h0 (pc + 2, L, .long x :: S, h)) : ab_Sim p l e R s m args below meth c Q A D y nL ad0 h0 (pc, L, S, h) := by
  intro ad H locs ls hP hD hS hw hl hlen hfix hn1 hn2
  exact lv_lload hx hb hd (ab_loc hl hv) (k ad H locs ls hP hD hS hw hl hlen hfix hn1 hn2)

theorem abs_aload_n (hx : p.tables.exec = Jvm.exec) (hb : c.code = cc) {j : Fin 4} {x : Nat} (hv : L.getD j.val none = some (.ref x)) (hd : decode cc pc = .ok (.aload_n j, 1)) (k : ab_Sim p l e R s m args below meth c Q A D y nL ad0 h0 (pc + 1, L, .ref x :: S, h)) : ab_Sim p l e R s m args below meth c Q A D y nL ad0 h0 (pc, L, S, h) := by
  intro ad H locs ls hP hD hS hw hl hlen hfix hn1 hn2
  exact lv_aload_n hx hb hd rfl (ab_loc hl hv) (k ad H locs ls hP hD hS hw hl hlen hfix hn1 hn2)

theorem abs_istore_n (hx : p.tables.exec = Jvm.exec) (hb : c.code = cc) {j : Fin 4} {x : Int32} (hj : j.val < L.length) (hd : decode cc pc = .ok (.istore_n j, 1)) (k : ab_Sim p l e R s m args below meth c Q A D y nL ad0 h0 (pc + 1, ab_put j.val (.int x) L, S, h)) : ab_Sim p l e R s m args below meth c Q A D y nL ad0 h0 (pc, L, .int x :: S, h) := by
  intro ad H locs ls hP hD hS hw hl hlen hfix hn1 hn2
  have hl2 := fun (ls2 : Array Slot) (h2 : lv_has ls2 nL _) => ab_has_weak h2 (ab_put1 (ad := ad) (i := j.val) (v := .int x) (L := L) (by omega) rfl)
  refine lv_istore_n hx hb hd rfl hl (by rw [← hlen]; exact hj) rfl (fun ls2 h2 => ?_)
  exact k ad H locs ls2 hP hD hS hw (hl2 ls2 h2) ((ab_put_len _ _ _).trans hlen) hfix hn1 hn2

theorem abs_istore (hx : p.tables.exec = Jvm.exec) (hb : c.code = cc) {j : Nat} {x : Int32} (hj : j < L.length) (hd : decode cc pc = .ok (.istore j, 2)) (k : ab_Sim p l e R s m args below meth c Q A D y nL ad0 h0 (pc + 2, ab_put j (.int x) L, S, h)) : ab_Sim p l e R s m args below meth c Q A D y nL ad0 h0 (pc, L, .int x :: S, h) := by
  intro ad H locs ls hP hD hS hw hl hlen hfix hn1 hn2
  have hl2 := fun (ls2 : Array Slot) (h2 : lv_has ls2 nL _) => ab_has_weak h2 (ab_put1 (ad := ad) (i := j) (v := .int x) (L := L) (by omega) rfl)
  refine lv_istore hx hb hd  hl (by rw [← hlen]; exact hj) rfl (fun ls2 h2 => ?_)
  exact k ad H locs ls2 hP hD hS hw (hl2 ls2 h2) ((ab_put_len _ _ _).trans hlen) hfix hn1 hn2

theorem abs_lstore_n (hx : p.tables.exec = Jvm.exec) (hb : c.code = cc) {j : Fin 4} {x : Int64} (hj : j.val + 1 < L.length) (hd : decode cc pc = .ok (.lstore_n j, 1)) (k : ab_Sim p l e R s m args below meth c Q A D y nL ad0 h0 (pc + 1, ab_put j.val (.long x) L, S, h)) : ab_Sim p l e R s m args below meth c Q A D y nL ad0 h0 (pc, L, .long x :: S, h) := by
  intro ad H locs ls hP hD hS hw hl hlen hfix hn1 hn2
  have hl2 := fun (ls2 : Array Slot) (h2 : lv_has ls2 nL _) => ab_has_weak h2 (ab_put2 (ad := ad) (i := j.val) (v := .long x) (L := L) (by omega) rfl)
  refine lv_lstore_n hx hb hd rfl hl (by rw [← hlen]; exact hj) rfl (fun ls2 h2 => ?_)
  exact k ad H locs ls2 hP hD hS hw (hl2 ls2 h2) ((ab_put_len _ _ _).trans hlen) hfix hn1 hn2

theorem abs_lstore (hx : p.tables.exec = Jvm.exec) (hb : c.code = cc) {j : Nat} {x : Int64} (hj : j + 1 < L.length) (hd : decode cc pc = .ok (.lstore j, 2)) (k : ab_Sim p l e R s m args below meth c Q A D y nL ad0 h0 (pc + 2, ab_put j (.long x) L, S, h)) : ab_Sim p l e R s m args below meth c Q A D y nL ad0 h0 (pc, L, .long x :: S, h) := by
  intro ad H locs ls hP hD hS hw hl hlen hfix hn1 hn2
  have hl2 := fun (ls2 : Array Slot) (h2 : lv_has ls2 nL _) => ab_has_weak h2 (ab_put2 (ad := ad) (i := j) (v := .long x) (L := L) (by omega) rfl)
  refine lv_lstore hx hb hd  hl (by rw [← hlen]; exact hj) rfl (fun ls2 h2 => ?_)
  exact k ad H locs ls2 hP hD hS hw (hl2 ls2 h2) ((ab_put_len _ _ _).trans hlen) hfix hn1 hn2

theorem abs_astore_n (hx : p.tables.exec = Jvm.exec) (hb : c.code = cc) {j : Fin 4} {x : Nat} (hj : j.val < L.length) (hd : decode cc pc = .ok (.astore_n j, 1)) (k : ab_Sim p l e R s m args below meth c Q A D y nL ad0 h0 (pc + 1, ab_put j.val (.ref x) L, S, h)) : ab_Sim p l e R s m args below meth c Q A D y nL ad0 h0 (pc, L, .ref x :: S, h) := by
  intro ad H locs ls hP hD hS hw hl hlen hfix hn1 hn2
  have hl2 := fun (ls2 : Array Slot) (h2 : lv_has ls2 nL _) => ab_has_weak h2 (ab_put1 (ad := ad) (i := j.val) (v := .ref x) (L := L) (by omega) rfl)
  refine lv_astore_n hx hb hd rfl hl (by rw [← hlen]; exact hj) rfl (fun ls2 h2 => ?_)
  exact k ad H locs ls2 hP hD hS hw (hl2 ls2 h2) ((ab_put_len _ _ _).trans hlen) hfix hn1 hn2

theorem abs_aload (hx : p.tables.exec = Jvm.exec) (hb : c.code = cc) {j : Nat} {x : Nat} (hv : L.getD j none = some (.ref x)) (hd : decode cc pc = .ok (.aload j, 2)) (k : ab_Sim p l e R s m args below meth c Q A D y nL ad0 h0 (pc + 2, L, .ref x :: S, h)) : ab_Sim p l e R s m args below meth c Q A D y nL ad0 h0 (pc, L, S, h) := by
  intro ad H locs ls hP hD hS hw hl hlen hfix hn1 hn2
  exact lv_aload hx hb hd (ab_loc hl hv) (k ad H locs ls hP hD hS hw hl hlen hfix hn1 hn2)

theorem abs_astore (hx : p.tables.exec = Jvm.exec) (hb : c.code = cc) {j : Nat} {x : Nat} (hj : j < L.length) (hd : decode cc pc = .ok (.astore j, 2)) (k : ab_Sim p l e R s m args below meth c Q A D y nL ad0 h0 (pc + 2, ab_put j (.ref x) L, S, h)) : ab_Sim p l e R s m args below meth c Q A D y nL ad0 h0 (pc, L, .ref x :: S, h) := by
  intro ad H locs ls hP hD hS hw hl hlen hfix hn1 hn2
  have hl2 := fun (ls2 : Array Slot) (h2 : lv_has ls2 nL _) => ab_has_weak h2 (ab_put1 (ad := ad) (i := j) (v := .ref x) (L := L) (by omega) rfl)
  refine lv_astore hx hb hd  hl (by rw [← hlen]; exact hj) rfl (fun ls2 h2 => ?_)
  exact k ad H locs ls2 hP hD hS hw (hl2 ls2 h2) ((ab_put_len _ _ _).trans hlen) hfix hn1 hn2

theorem abs_idiv (hx : p.tables.exec = Jvm.exec) (hb : c.code = cc) {x z : Int32} (hne : ¬ z = 0) (hd : decode cc pc = .ok (.idiv, 1)) (k : ab_Sim p l e R s m args below meth c Q A D y nL ad0 h0 (pc + 1, L, .int (x / z) :: S, h)) : ab_Sim p l e R s m args below meth c Q A D y nL ad0 h0 (pc, L, .int z :: .int x :: S, h) := by
  intro ad H locs ls hP hD hS hw hl hlen hfix hn1 hn2
  exact lv_idiv hx hb hd hne (k ad H locs ls hP hD hS hw hl hlen hfix hn1 hn2)

theorem abs_lshr (hx : p.tables.exec = Jvm.exec) (hb : c.code = cc) {x : Int64} {z : Int32} (hd : decode cc pc = .ok (.lshr, 1)) (k : ab_Sim p l e R s m args below meth c Q A D y nL ad0 h0 (pc + 1, L, .long (x >>> (z.toInt64 &&& 63)) :: S, h)) : ab_Sim p l e R s m args below meth c Q A D y nL ad0 h0 (pc, L, .int z :: .long x :: S, h) := by
  intro ad H locs ls hP hD hS hw hl hlen hfix hn1 hn2
  exact lv_lshr hx hb hd rfl (k ad H locs ls hP hD hS hw hl hlen hfix hn1 hn2)

theorem abs_iinc (hx : p.tables.exec = Jvm.exec) (hb : c.code = cc) {j : Nat} {n : Int} {x : Int32} (hj : j < L.length) (hv : L.getD j none = some (.int x)) (hd : decode cc pc = .ok (.iinc j n, 3)) (k : ab_Sim p l e R s m args below meth c Q A D y nL ad0 h0 (pc + 3, ab_put j (.int (x + Int32.ofInt n)) L, S, h)) : ab_Sim p l e R s m args below meth c Q A D y nL ad0 h0 (pc, L, S, h) := by
  intro ad H locs ls hP hD hS hw hl hlen hfix hn1 hn2
  have hl2 := fun (ls2 : Array Slot) (h2 : lv_has ls2 nL _) => ab_has_weak h2 (ab_put1 (ad := ad) (i := j) (v := .int (x + Int32.ofInt n)) (L := L) hj rfl)
  obtain ⟨i0, hi0⟩ := List.getElem?_of_mem (ab_le_mem (ad := ad) (L := L) (q := (j, .int x)) |>.mpr ⟨.int x, hv, rfl⟩)
  refine lv_iinc (k := i0) hx hb hd hl hi0 rfl (by rw [← hlen]; exact hj) rfl (fun ls2 h2 => ?_)
  exact k ad H locs ls2 hP hD hS hw (hl2 ls2 h2) ((ab_put_len _ _ _).trans hlen) hfix hn1 hn2

theorem abs_iadd (hx : p.tables.exec = Jvm.exec) (hb : c.code = cc) {x z : Int32} (hd : decode cc pc = .ok (.iadd, 1)) (k : ab_Sim p l e R s m args below meth c Q A D y nL ad0 h0 (pc + 1, L, .int (x + z) :: S, h)) : ab_Sim p l e R s m args below meth c Q A D y nL ad0 h0 (pc, L, .int z :: .int x :: S, h) := by
  intro ad H locs ls hP hD hS hw hl hlen hfix hn1 hn2
  exact lv_iadd hx hb hd (k ad H locs ls hP hD hS hw hl hlen hfix hn1 hn2)

theorem abs_isub (hx : p.tables.exec = Jvm.exec) (hb : c.code = cc) {x z : Int32} (hd : decode cc pc = .ok (.isub, 1)) (k : ab_Sim p l e R s m args below meth c Q A D y nL ad0 h0 (pc + 1, L, .int (x - z) :: S, h)) : ab_Sim p l e R s m args below meth c Q A D y nL ad0 h0 (pc, L, .int z :: .int x :: S, h) := by
  intro ad H locs ls hP hD hS hw hl hlen hfix hn1 hn2
  exact lv_isub hx hb hd (k ad H locs ls hP hD hS hw hl hlen hfix hn1 hn2)

theorem abs_imul (hx : p.tables.exec = Jvm.exec) (hb : c.code = cc) {x z : Int32} (hd : decode cc pc = .ok (.imul, 1)) (k : ab_Sim p l e R s m args below meth c Q A D y nL ad0 h0 (pc + 1, L, .int (x * z) :: S, h)) : ab_Sim p l e R s m args below meth c Q A D y nL ad0 h0 (pc, L, .int z :: .int x :: S, h) := by
  intro ad H locs ls hP hD hS hw hl hlen hfix hn1 hn2
  exact lv_imul hx hb hd (k ad H locs ls hP hD hS hw hl hlen hfix hn1 hn2)

theorem abs_iand (hx : p.tables.exec = Jvm.exec) (hb : c.code = cc) {x z : Int32} (hd : decode cc pc = .ok (.iand, 1)) (k : ab_Sim p l e R s m args below meth c Q A D y nL ad0 h0 (pc + 1, L, .int (x &&& z) :: S, h)) : ab_Sim p l e R s m args below meth c Q A D y nL ad0 h0 (pc, L, .int z :: .int x :: S, h) := by
  intro ad H locs ls hP hD hS hw hl hlen hfix hn1 hn2
  exact lv_iand hx hb hd (k ad H locs ls hP hD hS hw hl hlen hfix hn1 hn2)

theorem abs_ior (hx : p.tables.exec = Jvm.exec) (hb : c.code = cc) {x z : Int32} (hd : decode cc pc = .ok (.ior, 1)) (k : ab_Sim p l e R s m args below meth c Q A D y nL ad0 h0 (pc + 1, L, .int (x ||| z) :: S, h)) : ab_Sim p l e R s m args below meth c Q A D y nL ad0 h0 (pc, L, .int z :: .int x :: S, h) := by
  intro ad H locs ls hP hD hS hw hl hlen hfix hn1 hn2
  exact lv_ior hx hb hd (k ad H locs ls hP hD hS hw hl hlen hfix hn1 hn2)

theorem abs_ixor (hx : p.tables.exec = Jvm.exec) (hb : c.code = cc) {x z : Int32} (hd : decode cc pc = .ok (.ixor, 1)) (k : ab_Sim p l e R s m args below meth c Q A D y nL ad0 h0 (pc + 1, L, .int (x ^^^ z) :: S, h)) : ab_Sim p l e R s m args below meth c Q A D y nL ad0 h0 (pc, L, .int z :: .int x :: S, h) := by
  intro ad H locs ls hP hD hS hw hl hlen hfix hn1 hn2
  exact lv_ixor hx hb hd (k ad H locs ls hP hD hS hw hl hlen hfix hn1 hn2)

theorem abs_ishl (hx : p.tables.exec = Jvm.exec) (hb : c.code = cc) {x z : Int32} (hd : decode cc pc = .ok (.ishl, 1)) (k : ab_Sim p l e R s m args below meth c Q A D y nL ad0 h0 (pc + 1, L, .int (x <<< (z &&& 31)) :: S, h)) : ab_Sim p l e R s m args below meth c Q A D y nL ad0 h0 (pc, L, .int z :: .int x :: S, h) := by
  intro ad H locs ls hP hD hS hw hl hlen hfix hn1 hn2
  exact lv_ishl hx hb hd (k ad H locs ls hP hD hS hw hl hlen hfix hn1 hn2)

theorem abs_ishr (hx : p.tables.exec = Jvm.exec) (hb : c.code = cc) {x z : Int32} (hd : decode cc pc = .ok (.ishr, 1)) (k : ab_Sim p l e R s m args below meth c Q A D y nL ad0 h0 (pc + 1, L, .int (x >>> (z &&& 31)) :: S, h)) : ab_Sim p l e R s m args below meth c Q A D y nL ad0 h0 (pc, L, .int z :: .int x :: S, h) := by
  intro ad H locs ls hP hD hS hw hl hlen hfix hn1 hn2
  exact lv_ishr hx hb hd (k ad H locs ls hP hD hS hw hl hlen hfix hn1 hn2)

theorem abs_iushr (hx : p.tables.exec = Jvm.exec) (hb : c.code = cc) {x z : Int32} (hd : decode cc pc = .ok (.iushr, 1)) (k : ab_Sim p l e R s m args below meth c Q A D y nL ad0 h0 (pc + 1, L, .int (x.toUInt32 >>> (z.toUInt32 &&& Int32.toUInt32 31)).toInt32 :: S, h)) : ab_Sim p l e R s m args below meth c Q A D y nL ad0 h0 (pc, L, .int z :: .int x :: S, h) := by
  intro ad H locs ls hP hD hS hw hl hlen hfix hn1 hn2
  exact lv_iushr hx hb hd rfl (k ad H locs ls hP hD hS hw hl hlen hfix hn1 hn2)

theorem abs_irem (hx : p.tables.exec = Jvm.exec) (hb : c.code = cc) {x z : Int32} (hne : ¬ z = 0) (hd : decode cc pc = .ok (.irem, 1)) (k : ab_Sim p l e R s m args below meth c Q A D y nL ad0 h0 (pc + 1, L, .int (x - x / z * z) :: S, h)) : ab_Sim p l e R s m args below meth c Q A D y nL ad0 h0 (pc, L, .int z :: .int x :: S, h) := by
  intro ad H locs ls hP hD hS hw hl hlen hfix hn1 hn2
  exact lv_irem hx hb hd hne (k ad H locs ls hP hD hS hw hl hlen hfix hn1 hn2)

theorem abs_ladd (hx : p.tables.exec = Jvm.exec) (hb : c.code = cc) {x z : Int64} (hd : decode cc pc = .ok (.ladd, 1)) (k : ab_Sim p l e R s m args below meth c Q A D y nL ad0 h0 (pc + 1, L, .long (x + z) :: S, h)) : ab_Sim p l e R s m args below meth c Q A D y nL ad0 h0 (pc, L, .long z :: .long x :: S, h) := by
  intro ad H locs ls hP hD hS hw hl hlen hfix hn1 hn2
  exact lv_ladd hx hb hd (k ad H locs ls hP hD hS hw hl hlen hfix hn1 hn2)

theorem abs_lsub (hx : p.tables.exec = Jvm.exec) (hb : c.code = cc) {x z : Int64} (hd : decode cc pc = .ok (.lsub, 1)) (k : ab_Sim p l e R s m args below meth c Q A D y nL ad0 h0 (pc + 1, L, .long (x - z) :: S, h)) : ab_Sim p l e R s m args below meth c Q A D y nL ad0 h0 (pc, L, .long z :: .long x :: S, h) := by
  intro ad H locs ls hP hD hS hw hl hlen hfix hn1 hn2
  exact lv_lsub hx hb hd (k ad H locs ls hP hD hS hw hl hlen hfix hn1 hn2)

theorem abs_lmul (hx : p.tables.exec = Jvm.exec) (hb : c.code = cc) {x z : Int64} (hd : decode cc pc = .ok (.lmul, 1)) (k : ab_Sim p l e R s m args below meth c Q A D y nL ad0 h0 (pc + 1, L, .long (x * z) :: S, h)) : ab_Sim p l e R s m args below meth c Q A D y nL ad0 h0 (pc, L, .long z :: .long x :: S, h) := by
  intro ad H locs ls hP hD hS hw hl hlen hfix hn1 hn2
  exact lv_lmul hx hb hd (k ad H locs ls hP hD hS hw hl hlen hfix hn1 hn2)

theorem abs_ldiv (hx : p.tables.exec = Jvm.exec) (hb : c.code = cc) {x z : Int64} (hne : ¬ z = 0) (hd : decode cc pc = .ok (.ldiv, 1)) (k : ab_Sim p l e R s m args below meth c Q A D y nL ad0 h0 (pc + 1, L, .long (x / z) :: S, h)) : ab_Sim p l e R s m args below meth c Q A D y nL ad0 h0 (pc, L, .long z :: .long x :: S, h) := by
  intro ad H locs ls hP hD hS hw hl hlen hfix hn1 hn2
  exact lv_ldiv hx hb hd hne (k ad H locs ls hP hD hS hw hl hlen hfix hn1 hn2)

theorem abs_lneg (hx : p.tables.exec = Jvm.exec) (hb : c.code = cc) {x : Int64} (hd : decode cc pc = .ok (.lneg, 1)) (k : ab_Sim p l e R s m args below meth c Q A D y nL ad0 h0 (pc + 1, L, .long (-x) :: S, h)) : ab_Sim p l e R s m args below meth c Q A D y nL ad0 h0 (pc, L, .long x :: S, h) := by
  intro ad H locs ls hP hD hS hw hl hlen hfix hn1 hn2
  exact lv_lneg hx hb hd (k ad H locs ls hP hD hS hw hl hlen hfix hn1 hn2)

theorem abs_lcmp (hx : p.tables.exec = Jvm.exec) (hb : c.code = cc) {x z : Int64} (hd : decode cc pc = .ok (.lcmp, 1)) (k : ab_Sim p l e R s m args below meth c Q A D y nL ad0 h0 (pc + 1, L, .int (lg_cmp x z) :: S, h)) : ab_Sim p l e R s m args below meth c Q A D y nL ad0 h0 (pc, L, .long z :: .long x :: S, h) := by
  intro ad H locs ls hP hD hS hw hl hlen hfix hn1 hn2
  exact W.lcmp hx hb hd (k ad H locs ls hP hD hS hw hl hlen hfix hn1 hn2)

theorem abs_i2l (hx : p.tables.exec = Jvm.exec) (hb : c.code = cc) {x : Int32} (hd : decode cc pc = .ok (.i2l, 1)) (k : ab_Sim p l e R s m args below meth c Q A D y nL ad0 h0 (pc + 1, L, .long (x.toInt64) :: S, h)) : ab_Sim p l e R s m args below meth c Q A D y nL ad0 h0 (pc, L, .int x :: S, h) := by
  intro ad H locs ls hP hD hS hw hl hlen hfix hn1 hn2
  exact lv_i2l hx hb hd rfl (k ad H locs ls hP hD hS hw hl hlen hfix hn1 hn2)

theorem abs_l2i (hx : p.tables.exec = Jvm.exec) (hb : c.code = cc) {x : Int64} (hd : decode cc pc = .ok (.l2i, 1)) (k : ab_Sim p l e R s m args below meth c Q A D y nL ad0 h0 (pc + 1, L, .int (x.toInt32) :: S, h)) : ab_Sim p l e R s m args below meth c Q A D y nL ad0 h0 (pc, L, .long x :: S, h) := by
  intro ad H locs ls hP hD hS hw hl hlen hfix hn1 hn2
  exact lv_l2i hx hb hd rfl (k ad H locs ls hP hD hS hw hl hlen hfix hn1 hn2)

theorem abs_i2b (hx : p.tables.exec = Jvm.exec) (hb : c.code = cc) {x : Int32} (hd : decode cc pc = .ok (.i2b, 1)) (k : ab_Sim p l e R s m args below meth c Q A D y nL ad0 h0 (pc + 1, L, .int (x.toInt8.toInt32) :: S, h)) : ab_Sim p l e R s m args below meth c Q A D y nL ad0 h0 (pc, L, .int x :: S, h) := by
  intro ad H locs ls hP hD hS hw hl hlen hfix hn1 hn2
  exact lv_i2b hx hb hd rfl (k ad H locs ls hP hD hS hw hl hlen hfix hn1 hn2)

theorem abs_i2s (hx : p.tables.exec = Jvm.exec) (hb : c.code = cc) {x : Int32} (hd : decode cc pc = .ok (.i2s, 1)) (k : ab_Sim p l e R s m args below meth c Q A D y nL ad0 h0 (pc + 1, L, .int (x.toInt16.toInt32) :: S, h)) : ab_Sim p l e R s m args below meth c Q A D y nL ad0 h0 (pc, L, .int x :: S, h) := by
  intro ad H locs ls hP hD hS hw hl hlen hfix hn1 hn2
  exact lv_i2s hx hb hd rfl (k ad H locs ls hP hD hS hw hl hlen hfix hn1 hn2)

theorem abs_dup (hx : p.tables.exec = Jvm.exec) (hb : c.code = cc) {v : Value} (hc : v.category = 1) (hd : decode cc pc = .ok (.dup, 1)) (k : ab_Sim p l e R s m args below meth c Q A D y nL ad0 h0 (pc + 1, L, v :: v :: S, h)) : ab_Sim p l e R s m args below meth c Q A D y nL ad0 h0 (pc, L, v :: S, h) := by
  intro ad H locs ls hP hD hS hw hl hlen hfix hn1 hn2
  exact lv_dup hx hb hd ((ab_cv_cat ad v).trans hc) (k ad H locs ls hP hD hS hw hl hlen hfix hn1 hn2)

theorem abs_dup2 (hx : p.tables.exec = Jvm.exec) (hb : c.code = cc) {v w : Value} (hc : v.category = 1) (hc2 : w.category = 1) (hd : decode cc pc = .ok (.dup2, 1)) (k : ab_Sim p l e R s m args below meth c Q A D y nL ad0 h0 (pc + 1, L, v :: w :: v :: w :: S, h)) : ab_Sim p l e R s m args below meth c Q A D y nL ad0 h0 (pc, L, v :: w :: S, h) := by
  intro ad H locs ls hP hD hS hw hl hlen hfix hn1 hn2
  exact lv_dup2_11 hx hb hd ((ab_cv_cat ad v).trans hc) ((ab_cv_cat ad w).trans hc2) (k ad H locs ls hP hD hS hw hl hlen hfix hn1 hn2)

theorem abs_pop (hx : p.tables.exec = Jvm.exec) (hb : c.code = cc) {v : Value} (hc : v.category = 1) (hd : decode cc pc = .ok (.pop, 1)) (k : ab_Sim p l e R s m args below meth c Q A D y nL ad0 h0 (pc + 1, L, S, h)) : ab_Sim p l e R s m args below meth c Q A D y nL ad0 h0 (pc, L, v :: S, h) := by
  intro ad H locs ls hP hD hS hw hl hlen hfix hn1 hn2
  exact lv_pop hx hb hd ((ab_cv_cat ad v).trans hc) (k ad H locs ls hP hD hS hw hl hlen hfix hn1 hn2)

theorem abs_pop2 (hx : p.tables.exec = Jvm.exec) (hb : c.code = cc) {v : Value} (hc : v.category = 2) (hd : decode cc pc = .ok (.pop2, 1)) (k : ab_Sim p l e R s m args below meth c Q A D y nL ad0 h0 (pc + 1, L, S, h)) : ab_Sim p l e R s m args below meth c Q A D y nL ad0 h0 (pc, L, v :: S, h) := by
  intro ad H locs ls hP hD hS hw hl hlen hfix hn1 hn2
  exact lv_pop2_2 hx hb hd ((ab_cv_cat ad v).trans hc) (k ad H locs ls hP hD hS hw hl hlen hfix hn1 hn2)

theorem abs_icmp (hx : p.tables.exec = Jvm.exec) (hb : c.code = cc) {x z : Int32} {o : Jvm.ClassFile.Cond} {off : Int} (hd : decode cc pc = .ok (.if_icmp o off, 3)) (g1 : 0 ≤ (pc : Int) + off) (k : ab_Sim p l e R s m args below meth c Q A D y nL ad0 h0 (if ab_cmp o x z then ((pc : Int) + off).toNat else pc + 3, L, S, h)) : ab_Sim p l e R s m args below meth c Q A D y nL ad0 h0 (pc, L, .int z :: .int x :: S, h) := by
  intro ad H locs ls hP hD hS hw hl hlen hfix hn1 hn2
  have k2 := k ad H locs ls hP hD hS hw hl hlen hfix hn1 hn2
  cases o
  · exact lv_icmp_eq hx hb hd (ab_tgt g1) (fun q => by first | (rw [if_pos (by simpa [ab_cmp] using q)] at k2; exact k2)) (fun q => by first | (rw [if_neg (by simpa [ab_cmp] using q)] at k2; exact k2))
  · exact lv_icmp_ne hx hb hd (ab_tgt g1) (fun q => by first | (rw [if_pos (by simpa [ab_cmp] using q)] at k2; exact k2)) (fun q => by first | (rw [if_neg (by simpa [ab_cmp] using q)] at k2; exact k2))
  · exact lv_icmp_lt hx hb hd (ab_tgt g1) (fun q => by first | (rw [if_pos (by simpa [ab_cmp] using q)] at k2; exact k2)) (fun q => by first | (rw [if_neg (by simpa [ab_cmp] using q)] at k2; exact k2))
  · exact lv_icmp_ge hx hb hd (ab_tgt g1) (fun q => by first | (rw [if_pos (by simpa [ab_cmp] using q)] at k2; exact k2)) (fun q => by first | (rw [if_neg (by simpa [ab_cmp] using q)] at k2; exact k2))
  · exact lv_icmp_gt hx hb hd (ab_tgt g1) (fun q => by first | (rw [if_pos (by simpa [ab_cmp] using q)] at k2; exact k2)) (fun q => by first | (rw [if_neg (by simpa [ab_cmp] using q)] at k2; exact k2))
  · exact lv_icmp_le hx hb hd (ab_tgt g1) (fun q => by first | (rw [if_pos (by simpa [ab_cmp] using q)] at k2; exact k2)) (fun q => by first | (rw [if_neg (by simpa [ab_cmp] using q)] at k2; exact k2))

theorem abs_ifc (hx : p.tables.exec = Jvm.exec) (hb : c.code = cc) {x : Int32} {o : Jvm.ClassFile.Cond} {off : Int} (hd : decode cc pc = .ok (.ifCond o off, 3)) (g1 : 0 ≤ (pc : Int) + off) (k : ab_Sim p l e R s m args below meth c Q A D y nL ad0 h0 (if ab_cmp o x 0 then ((pc : Int) + off).toNat else pc + 3, L, S, h)) : ab_Sim p l e R s m args below meth c Q A D y nL ad0 h0 (pc, L, .int x :: S, h) := by
  intro ad H locs ls hP hD hS hw hl hlen hfix hn1 hn2
  have k2 := k ad H locs ls hP hD hS hw hl hlen hfix hn1 hn2
  cases o
  · exact lv_if_eq hx hb hd (ab_tgt g1) (fun q => by first | (rw [if_pos (by simpa [ab_cmp] using q)] at k2; exact k2)) (fun q => by first | (rw [if_neg (by simpa [ab_cmp] using q)] at k2; exact k2))
  · exact lv_if_ne hx hb hd (ab_tgt g1) (fun q => by first | (rw [if_pos (by simpa [ab_cmp] using q)] at k2; exact k2)) (fun q => by first | (rw [if_neg (by simpa [ab_cmp] using q)] at k2; exact k2))
  · exact lv_if_lt hx hb hd (ab_tgt g1) (fun q => by first | (rw [if_pos (by simpa [ab_cmp] using q)] at k2; exact k2)) (fun q => by first | (rw [if_neg (by simpa [ab_cmp] using q)] at k2; exact k2))
  · exact lv_if_ge hx hb hd (ab_tgt g1) (fun q => by first | (rw [if_pos (by simpa [ab_cmp] using q)] at k2; exact k2)) (fun q => by first | (rw [if_neg (by simpa [ab_cmp] using q)] at k2; exact k2))
  · exact lv_if_gt hx hb hd (ab_tgt g1) (fun q => by first | (rw [if_pos (by simpa [ab_cmp] using q)] at k2; exact k2)) (fun q => by first | (rw [if_neg (by simpa [ab_cmp] using q)] at k2; exact k2))
  · exact lv_if_le hx hb hd (ab_tgt g1) (fun q => by first | (rw [if_pos (by simpa [ab_cmp] using q)] at k2; exact k2)) (fun q => by first | (rw [if_neg (by simpa [ab_cmp] using q)] at k2; exact k2))

theorem abs_goto (hx : p.tables.exec = Jvm.exec) (hb : c.code = cc) {off : Int} {F : ab_F} (hd : decode cc pc = .ok (.goto off, 3)) (hs : ab_go pc off L S h = some (.inl F)) (k : ab_Sim p l e R s m args below meth c Q A D y nL ad0 h0 F) : ab_Sim p l e R s m args below meth c Q A D y nL ad0 h0 (pc, L, S, h) := by
  obtain ⟨g1, rfl⟩ := ab_goto_sim hs
  intro ad H locs ls hP hD hS hw hl hlen hfix hn1 hn2
  exact lv_goto hx hb hd (ab_tgt g1) (k ad H locs ls hP hD hS hw hl hlen hfix hn1 hn2)

theorem abs_tbl (hx : p.tables.exec = Jvm.exec) (hb : c.code = cc) {x : Int32} {dflt lo hi : Int} {offs : Array Int} {len : Nat} {F : ab_F} (hd : decode cc pc = .ok (.tableswitch dflt lo hi offs, len)) (hs : (if x.toInt < lo ∨ hi < x.toInt then ab_go pc dflt L S h else match offs[(x.toInt - lo).toNat]? with | some off => ab_go pc off L S h | none => none) = some (.inl F)) (k : ab_Sim p l e R s m args below meth c Q A D y nL ad0 h0 F) : ab_Sim p l e R s m args below meth c Q A D y nL ad0 h0 (pc, L, .int x :: S, h) := by
  intro ad H locs ls hP hD hS hw hl hlen hfix hn1 hn2
  split at hs
  · rename_i hc
    obtain ⟨g1, rfl⟩ := ab_goto_sim hs
    exact lv_tableOut hx hb hd hc (ab_tgt g1) (k ad H locs ls hP hD hS hw hl hlen hfix hn1 hn2)
  · rename_i hc
    split at hs
    · rename_i off ho
      obtain ⟨g1, rfl⟩ := ab_goto_sim hs
      exact lv_tableIn hx hb hd (fun q => hc (Or.inl q)) (fun q => hc (Or.inr q)) ho (ab_tgt g1) (k ad H locs ls hP hD hS hw hl hlen hfix hn1 hn2)
    · cases hs

theorem abs_lks (hx : p.tables.exec = Jvm.exec) (hb : c.code = cc) {x : Int32} {dflt : Int} {ps : Array (Int × Int)} {len : Nat} {F : ab_F} (hd : decode cc pc = .ok (.lookupswitch dflt ps, len)) (hp : (ps.toList.zip (ps.toList.drop 1)).all (fun (a, next) => a.1 < next.1) = true) (hs : ab_go pc (Op.lookupswitch.offset ps.toList dflt x.toInt) L S h = some (.inl F)) (k : ab_Sim p l e R s m args below meth c Q A D y nL ad0 h0 F) : ab_Sim p l e R s m args below meth c Q A D y nL ad0 h0 (pc, L, .int x :: S, h) := by
  intro ad H locs ls hP hD hS hw hl hlen hfix hn1 hn2
  obtain ⟨g1, rfl⟩ := ab_goto_sim hs
  exact lv_lookup hx hb hd hp rfl (ab_tgt g1) (k ad H locs ls hP hD hS hw hl hlen hfix hn1 hn2)

theorem ab_find {α : Type} {f : α → Bool} {l : List α} {x : α} (h : l.find? f = some x) {g : α → Bool} (hg : l.all g = true) : f x = true ∧ g x = true := ⟨List.find?_some h, List.all_eq_true.mp hg x (List.mem_of_find?_eq_some h)⟩
theorem ab_fl_spec {own i ci k : Nat} (h : ab_fl own i = some (ci, k)) : Cond.fieldLink (ab_C own) i (ab_T ci k).1 (ab_T ci k).2.1 (ab_T ci k).2.2.1 ∈ ab_BIG := by
  unfold ab_fl at h
  rw [Option.map_eq_some_iff] at h
  obtain ⟨e, h1, h2⟩ := h
  obtain ⟨q1, q2⟩ := ab_find h1 ab_flL_ok
  obtain ⟨a, b, x, z, w⟩ := e
  simp only [Bool.and_eq_true, beq_iff_eq] at q1
  cases h2
  obtain ⟨rfl, rfl⟩ := q1
  exact ab_has_mem q2
theorem ab_kI_spec {own i : Nat} {v : Int32} (h : ab_kI own i = some v) : Cond.constant (ab_C own) i v ∈ ab_BIG := by
  unfold ab_kI at h
  rw [Option.map_eq_some_iff] at h
  obtain ⟨e, h1, h2⟩ := h
  obtain ⟨q1, q2⟩ := ab_find h1 ab_kIL_ok
  obtain ⟨a, b, x, w⟩ := e
  simp only [Bool.and_eq_true, beq_iff_eq] at q1
  cases h2
  obtain ⟨rfl, rfl⟩ := q1
  exact ab_has_mem q2
theorem ab_kL_spec {own i : Nat} {v : Int64} (h : ab_kL own i = some v) : Cond.constantLong (ab_C own) i v ∈ ab_BIG := by
  unfold ab_kL at h
  rw [Option.map_eq_some_iff] at h
  obtain ⟨e, h1, h2⟩ := h
  obtain ⟨q1, q2⟩ := ab_find h1 ab_kLL_ok
  obtain ⟨a, b, x, w⟩ := e
  simp only [Bool.and_eq_true, beq_iff_eq] at q1
  cases h2
  obtain ⟨rfl, rfl⟩ := q1
  exact ab_has_mem q2
theorem ab_nw_spec {own i ci : Nat} (h : ab_nw own i = some ci) : Cond.classLink (ab_C own) i (ab_C ci) ∈ ab_BIG ∧ Cond.instantiable (ab_C ci) (ab_N ci) ∈ ab_BIG ∧ Cond.initialized (ab_C ci) ∈ ab_BIG := by
  unfold ab_nw at h
  rw [Option.map_eq_some_iff] at h
  obtain ⟨e, h1, h2⟩ := h
  obtain ⟨q1, q2⟩ := ab_find h1 ab_nwL_ok
  obtain ⟨a, b, x, w, w2, w3⟩ := e
  simp only [Bool.and_eq_true, beq_iff_eq] at q1 q2
  cases h2
  obtain ⟨rfl, rfl⟩ := q1
  exact ⟨ab_has_mem q2.1.1, ab_has_mem q2.1.2, ab_has_mem q2.2⟩
theorem ab_cls_nm (ci : Nat) (hci : ci < 8) : ∀ a, a < ab_N ci → ∀ b, b < ab_N ci → a ≠ b → (ab_T ci a).2.1 ≠ (ab_T ci b).2.1 := by
  rcases (show ci = 0 ∨ ci = 1 ∨ ci = 2 ∨ ci = 3 ∨ ci = 4 ∨ ci = 5 ∨ ci = 6 ∨ ci = 7 by omega) with h | h | h | h | h | h | h | h <;> subst h
  · exact nmX0
  · exact nmX1
  · exact nmX2
  · exact nmX3
  · exact nmX4
  · exact nmX5
  · exact nmX6
  · exact nmX7
theorem ab_cls_ty (ci : Nat) (hci : ci < 8) : ∀ k, k < ab_N ci → parseFieldDescriptor (ab_T ci k).2.2.1 = some (ab_ty ci k) := by
  rcases (show ci = 0 ∨ ci = 1 ∨ ci = 2 ∨ ci = 3 ∨ ci = 4 ∨ ci = 5 ∨ ci = 6 ∨ ci = 7 by omega) with h | h | h | h | h | h | h | h <;> subst h
  · exact tyX0_ok
  · exact tyX1_ok
  · exact tyX2_ok
  · exact tyX3_ok
  · exact tyX4_ok
  · exact tyX5_ok
  · exact tyX6_ok
  · exact tyX7_ok
theorem ab_cell_obj {ad : Nat → Nat} {o ci : Nat} (hk : ab_kd h o = ci) (hci : ci < 8) : ab_cell y ad h o = .inr (ci, (List.range (ab_N ci)).map (fun k => ab_cv ad (ab_gv h o k (ab_ty ci k)))) := by
  unfold ab_cell
  rw [hk, if_pos hci]
theorem ab_cell_arr {ad : Nat → Nat} {o kd : Nat} (hk : ab_kd h o = kd) (h9 : 9 ≤ kd) (h11 : kd ≠ 11) (h14 : kd ≠ 14) (h15 : kd ≠ 15) : ab_cell y ad h o = .inl (y kd, ab_ln h o, .inl (h.2.1 o)) := by
  unfold ab_cell
  rw [hk, if_neg (by omega), if_neg h11, if_neg (by omega)]
theorem ab_cell_lng {ad : Nat → Nat} {o : Nat} (hk : ab_kd h o = 11) : ab_cell y ad h o = .inl (y 11, ab_ln h o, .inr (.inl (h.2.2 o))) := by
  unfold ab_cell
  rw [hk, if_neg (by omega), if_pos rfl]
theorem ab_cell_rfs {ad : Nat → Nat} {o kd : Nat} (hk : ab_kd h o = kd) (h1 : kd = 14 ∨ kd = 15) : ab_cell y ad h o = .inl (y kd, ab_ln h o, .inr (.inr (.inr (.inr (fun i => (ab_rf h o i).map ad))))) := by
  unfold ab_cell
  rw [hk, if_neg (by omega), if_neg (by omega), if_pos h1]
theorem ab_rf_cv (ad : Nat → Nat) (r : Option Nat) : va_rf (r.map ad) = ab_cv ad (va_rf r) := by
  cases r <;> rfl
theorem abs_getf (hx : p.tables.exec = Jvm.exec) (hb : c.code = cc) {own i o ci k : Nat} (hown : s.vm.findClass (ab_C own) = some m.cls) (hts : ∀ w ∈ ab_BIG, w.before args s = true) (hE : ab_EF D y s) (hf : ab_fl own i = some (ci, k)) (hr : ab_ref h o ci = true) (hk : k < ab_N ci) (hci : ci < 8) (hd : decode cc pc = .ok (.getfield i, 3)) (k1 : ab_Sim p l e R s m args below meth c Q A D y nL ad0 h0 (pc + 3, L, ab_gv h o k (ab_ty ci k) :: S, h)) : ab_Sim p l e R s m args below meth c Q A D y nL ad0 h0 (pc, L, .ref o :: S, h) := by
  obtain ⟨ho, hkd⟩ := ab_refs hr
  intro ad H locs ls hP hD hS hw hl hlen hfix hn1 hn2
  refine va_get (C := ab_C ci) (T := ab_T ci) (N := ab_N ci) (ci := ci) hx hb (fun w h => hts w h) (ab_cls_in ci hci) hown hE.1 hP o (fs := (List.range (ab_N ci)).map (fun k => ab_cv ad (ab_gv h o k (ab_ty ci k)))) ?_ (ab_cls ci hci) k hk (hts _ (ab_fl_spec hf)) (fun _ q => q) ?_ hd (k1 ad H locs ls hP hD hS hw hl hlen hfix hn1 hn2)
  · rw [ab_ws_get ho, ab_cell_obj hkd hci]
  · rw [List.getElem?_map, List.getElem?_range hk]
    rfl

theorem abs_iaload (hx : p.tables.exec = Jvm.exec) (hb : c.code = cc) {o : Nat} {i : Int32} (hE : ab_EF D y s) (hr : ab_ref h o 10 = true) (hi : ab_in i (ab_ln h o) = true) (hd : decode cc pc = .ok (.iaload, 1)) (k1 : ab_Sim p l e R s m args below meth c Q A D y nL ad0 h0 (pc + 1, L, .int (h.2.1 o i.toNatClampNeg) :: S, h)) : ab_Sim p l e R s m args below meth c Q A D y nL ad0 h0 (pc, L, .int i :: .ref o :: S, h) := by
  obtain ⟨ho, hkd⟩ := ab_refs hr
  intro ad H locs ls hP hD hS hw hl hlen hfix hn1 hn2
  exact va_iald hx hb hE.1 hP o 0 (by rw [ab_ws_get ho, ab_cell_arr hkd (by omega) (by omega) (by omega) (by omega)]) rfl (ab_in_vp hi) hd (k1 ad H locs ls hP hD hS hw hl hlen hfix hn1 hn2)

theorem abs_baload_z (hx : p.tables.exec = Jvm.exec) (hb : c.code = cc) {o : Nat} {i : Int32} (hE : ab_EF D y s) (hr : ab_ref h o 12 = true) (hi : ab_in i (ab_ln h o) = true) (hd : decode cc pc = .ok (.baload, 1)) (k1 : ab_Sim p l e R s m args below meth c Q A D y nL ad0 h0 (pc + 1, L, .int (h.2.1 o i.toNatClampNeg) :: S, h)) : ab_Sim p l e R s m args below meth c Q A D y nL ad0 h0 (pc, L, .int i :: .ref o :: S, h) := by
  obtain ⟨ho, hkd⟩ := ab_refs hr
  intro ad H locs ls hP hD hS hw hl hlen hfix hn1 hn2
  exact va_zald hx hb hE.1 hP o 2 (by rw [ab_ws_get ho, ab_cell_arr hkd (by omega) (by omega) (by omega) (by omega)]) rfl (ab_in_vp hi) hd (k1 ad H locs ls hP hD hS hw hl hlen hfix hn1 hn2)

theorem abs_baload_b (hx : p.tables.exec = Jvm.exec) (hb : c.code = cc) {o : Nat} {i : Int32} (hE : ab_EF D y s) (hr : ab_ref h o 13 = true) (hi : ab_in i (ab_ln h o) = true) (hd : decode cc pc = .ok (.baload, 1)) (k1 : ab_Sim p l e R s m args below meth c Q A D y nL ad0 h0 (pc + 1, L, .int (h.2.1 o i.toNatClampNeg) :: S, h)) : ab_Sim p l e R s m args below meth c Q A D y nL ad0 h0 (pc, L, .int i :: .ref o :: S, h) := by
  obtain ⟨ho, hkd⟩ := ab_refs hr
  intro ad H locs ls hP hD hS hw hl hlen hfix hn1 hn2
  exact va_bald hx hb hE.1 hP o 3 (by rw [ab_ws_get ho, ab_cell_arr hkd (by omega) (by omega) (by omega) (by omega)]) rfl (ab_in_vp hi) hd (k1 ad H locs ls hP hD hS hw hl hlen hfix hn1 hn2)

theorem abs_laload (hx : p.tables.exec = Jvm.exec) (hb : c.code = cc) {o : Nat} {i : Int32} (hE : ab_EF D y s) (hr : ab_ref h o 11 = true) (hi : ab_in i (ab_ln h o) = true) (hd : decode cc pc = .ok (.laload, 1)) (k1 : ab_Sim p l e R s m args below meth c Q A D y nL ad0 h0 (pc + 1, L, .long (h.2.2 o i.toNatClampNeg) :: S, h)) : ab_Sim p l e R s m args below meth c Q A D y nL ad0 h0 (pc, L, .int i :: .ref o :: S, h) := by
  obtain ⟨ho, hkd⟩ := ab_refs hr
  intro ad H locs ls hP hD hS hw hl hlen hfix hn1 hn2
  exact va_lald hx hb hE.1 hP o 1 (by rw [ab_ws_get ho, ab_cell_lng hkd]) rfl (ab_in_vp hi) hd (k1 ad H locs ls hP hD hS hw hl hlen hfix hn1 hn2)

theorem ab_seti_ws {ad : Nat → Nat} {o kd i : Nat} {x : Int32} (ho : o < ab_nx h) (hk : ab_kd h o = kd) (h9 : 9 ≤ kd) (h11 : kd ≠ 11) (h14 : kd ≠ 14) (h15 : kd ≠ 15) : (ab_ws y ad h).set o (ad o, .inl (y kd, ab_ln h o, .inl (upd (h.2.1 o) i x))) = ab_ws y ad (ab_seti h o i x) := by
  refine ab_ws_set rfl ?_ (fun q hq => ab_cell_seti hq)
  rw [ab_cell_arr (h := ab_seti h o i x) (kd := kd) hk h9 h11 h14 h15]
  show _ = Sum.inl (y kd, ab_ln h o, Sum.inl (upd (h.2.1 o) i x))
  rw [show (ab_seti h o i x).2.1 o = upd (h.2.1 o) i x from ab_up_same _ _ _ _]
  rfl
theorem ab_setl_ws {ad : Nat → Nat} {o i : Nat} {x : Int64} (ho : o < ab_nx h) (hk : ab_kd h o = 11) : (ab_ws y ad h).set o (ad o, .inl (y 11, ab_ln h o, .inr (.inl (vp_updL (h.2.2 o) i x)))) = ab_ws y ad (ab_setl h o i x) := by
  refine ab_ws_set rfl ?_ (fun q hq => ab_cell_setl hq)
  rw [ab_cell_lng (h := ab_setl h o i x) hk]
  show _ = Sum.inl (y 11, ab_ln h o, Sum.inr (Sum.inl (vp_updL (h.2.2 o) i x)))
  rw [show (ab_setl h o i x).2.2 o = vp_updL (h.2.2 o) i x from ab_up_same _ _ _ _]
  rfl

theorem abs_iastore (hx : p.tables.exec = Jvm.exec) (hb : c.code = cc) {o : Nat} {i : Int32} {x : Int32} (hE : ab_EF D y s) (hr : ab_ref h o 10 = true) (hi : ab_in i (ab_ln h o) = true) (hd : decode cc pc = .ok (.iastore, 1)) (k1 : ab_Sim p l e R s m args below meth c Q A D y nL ad0 h0 (pc + 1, L, S, ab_seti h o i.toNatClampNeg x)) : ab_Sim p l e R s m args below meth c Q A D y nL ad0 h0 (pc, L, .int x :: .int i :: .ref o :: S, h) := by
  obtain ⟨ho, hkd⟩ := ab_refs hr
  intro ad H locs ls hP hD hS hw hl hlen hfix hn1 hn2
  refine va_iast hx hb hE.1 hP hD hS o 0 (by rw [ab_ws_get ho, ab_cell_arr hkd (by omega) (by omega) (by omega) (by omega)]) rfl (ab_in_vp hi) hd (fun H1 locs1 hP1 hD1 hS1 => ?_)
  rw [ab_seti_ws ho hkd (by omega) (by omega) (by omega) (by omega)] at hP1 hD1
  exact k1 ad H1 locs1 ls hP1 hD1 hS1 hw hl hlen hfix hn1 hn2

theorem abs_bastore_z (hx : p.tables.exec = Jvm.exec) (hb : c.code = cc) {o : Nat} {i : Int32} {x : Int32} (hE : ab_EF D y s) (hr : ab_ref h o 12 = true) (hi : ab_in i (ab_ln h o) = true) (hd : decode cc pc = .ok (.bastore, 1)) (k1 : ab_Sim p l e R s m args below meth c Q A D y nL ad0 h0 (pc + 1, L, S, ab_seti h o i.toNatClampNeg (vp_nar .boolean x))) : ab_Sim p l e R s m args below meth c Q A D y nL ad0 h0 (pc, L, .int x :: .int i :: .ref o :: S, h) := by
  obtain ⟨ho, hkd⟩ := ab_refs hr
  intro ad H locs ls hP hD hS hw hl hlen hfix hn1 hn2
  refine va_zast hx hb hE.1 hP hD hS o 2 (by rw [ab_ws_get ho, ab_cell_arr hkd (by omega) (by omega) (by omega) (by omega)]) rfl (ab_in_vp hi) hd (fun H1 locs1 hP1 hD1 hS1 => ?_)
  rw [ab_seti_ws ho hkd (by omega) (by omega) (by omega) (by omega)] at hP1 hD1
  exact k1 ad H1 locs1 ls hP1 hD1 hS1 hw hl hlen hfix hn1 hn2

theorem abs_bastore_b (hx : p.tables.exec = Jvm.exec) (hb : c.code = cc) {o : Nat} {i : Int32} {x : Int32} (hE : ab_EF D y s) (hr : ab_ref h o 13 = true) (hi : ab_in i (ab_ln h o) = true) (hd : decode cc pc = .ok (.bastore, 1)) (k1 : ab_Sim p l e R s m args below meth c Q A D y nL ad0 h0 (pc + 1, L, S, ab_seti h o i.toNatClampNeg (vp_nar .byte x))) : ab_Sim p l e R s m args below meth c Q A D y nL ad0 h0 (pc, L, .int x :: .int i :: .ref o :: S, h) := by
  obtain ⟨ho, hkd⟩ := ab_refs hr
  intro ad H locs ls hP hD hS hw hl hlen hfix hn1 hn2
  refine va_bast hx hb hE.1 hP hD hS o 3 (by rw [ab_ws_get ho, ab_cell_arr hkd (by omega) (by omega) (by omega) (by omega)]) rfl (ab_in_vp hi) hd (fun H1 locs1 hP1 hD1 hS1 => ?_)
  rw [ab_seti_ws ho hkd (by omega) (by omega) (by omega) (by omega)] at hP1 hD1
  exact k1 ad H1 locs1 ls hP1 hD1 hS1 hw hl hlen hfix hn1 hn2

theorem abs_lastore (hx : p.tables.exec = Jvm.exec) (hb : c.code = cc) {o : Nat} {i : Int32} {x : Int64} (hE : ab_EF D y s) (hr : ab_ref h o 11 = true) (hi : ab_in i (ab_ln h o) = true) (hd : decode cc pc = .ok (.lastore, 1)) (k1 : ab_Sim p l e R s m args below meth c Q A D y nL ad0 h0 (pc + 1, L, S, ab_setl h o i.toNatClampNeg x)) : ab_Sim p l e R s m args below meth c Q A D y nL ad0 h0 (pc, L, .long x :: .int i :: .ref o :: S, h) := by
  obtain ⟨ho, hkd⟩ := ab_refs hr
  intro ad H locs ls hP hD hS hw hl hlen hfix hn1 hn2
  refine va_last hx hb hE.1 hP hD hS o 1 (by rw [ab_ws_get ho, ab_cell_lng hkd]) rfl (ab_in_vp hi) hd (fun H1 locs1 hP1 hD1 hS1 => ?_)
  rw [ab_setl_ws ho hkd] at hP1 hD1
  exact k1 ad H1 locs1 ls hP1 hD1 hS1 hw hl hlen hfix hn1 hn2

end ABS
end
section
section ABS
variable {p : Program} {l : Launch} {e : Env} {R : Room} {s : State} {m : MethodId} {args : Array Value} {below : List Frame} {meth : Method} {c : Code} {Q : State → Prop} {A : Nat → Prop} {D : va_G} {y : Nat → ClassId} {nL : Nat} {ad0 : Nat → Nat} {h0 : ab_H} {cc : ByteArray} {pc : Nat} {L : ab_L} {S : List Value} {h : ab_H}
theorem ab_rf_setr {o k r q j : Nat} (hk : k < ab_rl h o) : ab_rf (ab_setr h o k r) q j = if q = o ∧ j = k then some r else ab_rf h q j := by
  unfold ab_rl at hk
  cases hx : h.1[o]? with
  | none => rw [hx] at hk; simp at hk
  | some x =>
    rw [hx] at hk
    have hk : k < x.2.2.length := hk
    have hlt : o < h.1.length := (List.getElem?_eq_some_iff.mp hx).1
    unfold ab_rf ab_setr
    rw [hx]
    simp only [List.getElem?_set]
    by_cases hq : o = q
    · subst hq
      rw [if_pos rfl, if_pos hlt, hx]
      simp only [Option.map_some, Option.getD_some, true_and, List.getD_eq_getElem?_getD, List.getElem?_set]
      by_cases hj : k = j
      · subst hj
        simp [hk]
      · rw [if_neg hj, if_neg (fun z => hj z.symm)]
    · rw [if_neg hq, if_neg (fun z => hq z.1.symm)]
theorem ab_shape_setr (h : ab_H) (o k r : Nat) : (ab_setr h o k r).1.length = h.1.length ∧ (∀ q, ab_kd (ab_setr h o k r) q = ab_kd h q) ∧ (∀ q, ab_ln (ab_setr h o k r) q = ab_ln h q) ∧ (ab_setr h o k r).1.map (fun x => x.2.1) = h.1.map (fun x => x.2.1) := by
  cases hx : h.1[o]? with
  | none =>
    have e : ab_setr h o k r = h := by
      unfold ab_setr
      rw [hx]
    rw [e]
    exact ⟨rfl, fun _ => rfl, fun _ => rfl, rfl⟩
  | some x =>
    have hlt : o < h.1.length := (List.getElem?_eq_some_iff.mp hx).1
    have e : (ab_setr h o k r).1 = h.1.set o (x.1, x.2.1, x.2.2.set k (some r)) := by
      unfold ab_setr
      rw [hx]
    have eg : ∀ q, (h.1.set o (x.1, x.2.1, x.2.2.set k (some r)))[q]? = if q = o then some (x.1, x.2.1, x.2.2.set k (some r)) else h.1[q]? := by
      intro q
      rw [List.getElem?_set]
      by_cases hq : o = q
      · subst hq
        simp [hlt]
      · rw [if_neg hq, if_neg (fun z => hq z.symm)]
    refine ⟨by rw [e, List.length_set], fun q => ?_, fun q => ?_, ?_⟩
    · unfold ab_kd
      rw [e, eg]
      by_cases hq : q = o
      · subst hq; rw [if_pos rfl, hx]; rfl
      · rw [if_neg hq]
    · unfold ab_ln
      rw [e, eg]
      by_cases hq : q = o
      · subst hq; rw [if_pos rfl, hx]; rfl
      · rw [if_neg hq]
    · rw [e]
      apply List.ext_getElem?
      intro q
      rw [List.getElem?_map, List.getElem?_map, eg]
      by_cases hq : q = o
      · subst hq; rw [if_pos rfl, hx]; rfl
      · rw [if_neg hq]
theorem ab_rfs_congr {a : ClassId} {n : Nat} {f g : Nat → Option Nat} (hfg : ∀ j, f j = g j) : (Sum.inl (a, n, Sum.inr (Sum.inr (Sum.inr (Sum.inr f)))) : va_E) = Sum.inl (a, n, Sum.inr (Sum.inr (Sum.inr (Sum.inr g)))) := by rw [show f = g from funext hfg]
theorem ab_gv_setr {o k r q j : Nat} (hk : k < ab_rl h o) (hq : q ≠ o ∨ j ≠ k) (ty : FieldType) : ab_gv (ab_setr h o k r) q j ty = ab_gv h q j ty := by
  have e : ab_rf (ab_setr h o k r) q j = ab_rf h q j := by
    rw [ab_rf_setr hk, if_neg (fun z => hq.elim (fun w => w z.1) (fun w => w z.2))]
  cases ty <;> simp only [ab_gv, e] <;> rfl
theorem ab_cell_setr {ad : Nat → Nat} {o q k r : Nat} (hk : k < ab_rl h o) (hq : q ≠ o) : ab_cell y ad (ab_setr h o k r) q = ab_cell y ad h q := by
  obtain ⟨-, e1, e2, -⟩ := ab_shape_setr h o k r
  have e3 : ∀ j, ab_rf (ab_setr h o k r) q j = ab_rf h q j := fun j => by rw [ab_rf_setr hk, if_neg (fun z => hq z.1)]
  unfold ab_cell
  rw [e1, e2]
  simp only [ab_gv_setr hk (Or.inl hq), e3]
  rfl
theorem ab_setv_shape (o k : Nat) (v : Value) : ab_nx (ab_setv h o k v) = ab_nx h ∧ (∀ q, ab_kd (ab_setv h o k v) q = ab_kd h q) ∧ (∀ q, ab_ln (ab_setv h o k v) q = ab_ln h q) ∧ ab_sl (ab_setv h o k v) = ab_sl h := by
  cases v <;> first | exact ⟨rfl, fun _ => rfl, fun _ => rfl, rfl⟩ | skip
  rename_i r
  obtain ⟨a1, a2, a3, a4⟩ := ab_shape_setr h o k r
  exact ⟨a1, a2, a3, congrArg List.sum a4⟩
theorem ab_setv_wf {o k : Nat} {v : Value} (hw : ab_wf h) (hk : ab_rlok h o k v = true) (hv : ab_lt (ab_nx h) v = true) : ab_wf (ab_setv h o k v) := by
  intro q j r hr
  rw [(ab_setv_shape o k v).1]
  cases v <;> first | exact hw q j r hr | skip
  rename_i r0
  simp only [ab_rlok, decide_eq_true_eq] at hk
  simp only [ab_lt, decide_eq_true_eq] at hv
  have e : ab_rf (ab_setv h o k (.ref r0)) q j = if q = o ∧ j = k then some r0 else ab_rf h q j := ab_rf_setr hk
  rw [e] at hr
  split at hr
  · cases hr; exact hv
  · exact hw q j r hr
theorem ab_setv_obj {ad : Nat → Nat} {o k ci : Nat} {v : Value} (hkd : ab_kd h o = ci) (hci : ci < 8) (hf : ab_fit (ab_ty ci k) v = true) (hrl : ab_rlok h o k v = true) (hk : k < ab_N ci) : (ab_ws y ad h).set o (ad o, .inr (ci, ((List.range (ab_N ci)).map (fun k => ab_cv ad (ab_gv h o k (ab_ty ci k)))).set k (ab_cv ad v))) = ab_ws y ad (ab_setv h o k v) := by
  obtain ⟨s1, s2, s3, -⟩ := ab_setv_shape (h := h) o k v
  refine ab_ws_set s1 ?_ ?_
  · rw [ab_cell_obj ((s2 o).trans hkd) hci]
    congr 1
    refine Prod.ext rfl ?_
    apply List.ext_getElem?
    intro j
    rw [List.getElem?_set, List.getElem?_map, List.length_map, List.length_range]
    by_cases hj : k = j
    · subst hj
      rw [if_pos rfl, if_pos hk, List.getElem?_range hk]
      show some (ab_cv ad (ab_gv (ab_setv h o k v) o k (ab_ty ci k))) = _
      congr 2
      generalize ab_ty ci k = ty at hf ⊢
      cases ty <;> cases v <;> first | (simp [ab_fit] at hf; done) | skip
      all_goals first
        | (simp [ab_gv, ab_setv, ab_seti, ab_setl, ab_up]; done)
        | (simp only [ab_rlok, decide_eq_true_eq] at hrl; simp only [ab_gv, ab_setv]; rw [ab_rf_setr hrl]; simp [va_rf])
    · rw [if_neg hj, List.getElem?_map]
      by_cases hjn : j < ab_N ci
      · rw [List.getElem?_range hjn]
        show some (ab_cv ad (ab_gv (ab_setv h o k v) o j (ab_ty ci j))) = some (ab_cv ad (ab_gv h o j (ab_ty ci j)))
        congr 2
        generalize ab_ty ci j = ty
        cases v <;> first | rfl | skip
        · cases ty <;> first | rfl | (simp [ab_gv, ab_setv, ab_seti, ab_up, Ne.symm hj]; done)
        · cases ty <;> first | rfl | (simp [ab_gv, ab_setv, ab_setl, ab_up, Ne.symm hj]; done)
        · simp only [ab_rlok, decide_eq_true_eq] at hrl
          exact ab_gv_setr hrl (Or.inr (Ne.symm hj)) ty
      · have h1 : (List.range (ab_N ci))[j]? = none := List.getElem?_eq_none (by rw [List.length_range]; omega)
        rw [h1]
        rfl
  · intro q hq
    cases v <;> first | rfl | skip
    · exact ab_cell_seti hq
    · exact ab_cell_setl hq
    · simp only [ab_rlok, decide_eq_true_eq] at hrl
      exact ab_cell_setr hrl hq
theorem ab_fit_spec {ty : FieldType} {v : Value} (ad : Nat → Nat) (hf : ab_fit ty v = true) : narrow ty (ab_cv ad v) = ab_cv ad v ∧ fits ty (ab_cv ad v) = true := by
  cases ty <;> cases v <;> first | (simp [ab_fit] at hf; done) | (exact ⟨rfl, rfl⟩) | skip
  rename_i x
  simp only [ab_fit, Bool.or_eq_true, decide_eq_true_eq] at hf
  rcases hf with rfl | rfl
  · exact ⟨(by decide : narrow FieldType.boolean (Value.int 0) = Value.int 0), (by decide : fits FieldType.boolean (Value.int 0) = true)⟩
  · exact ⟨(by decide : narrow FieldType.boolean (Value.int 1) = Value.int 1), (by decide : fits FieldType.boolean (Value.int 1) = true)⟩
theorem abs_putf (hx : p.tables.exec = Jvm.exec) (hb : c.code = cc) {own i o ci k : Nat} {v : Value} {ini : Bool} (hown : s.vm.findClass (ab_C own) = some m.cls) (hts : ∀ w ∈ ab_BIG, w.before args s = true) (hini : ini = true → meth.name = "<init>") (hE : ab_EF D y s) (hf : ab_fl own i = some (ci, k)) (hr : ab_ref h o ci = true) (hk : k < ab_N ci) (hci : ci < 8) (hfit : ab_fit (ab_ty ci k) v = true) (hrl : ab_rlok h o k v = true) (hlt : ab_lt (ab_nx h) v = true) (hfin : (ab_T ci k).2.2.2 = false ∨ (ini = true ∧ own = ci)) (hown2 : (ab_T ci k).1 = ab_C ci) (hd : decode cc pc = .ok (.putfield i, 3)) (k1 : ab_Sim p l e R s m args below meth c Q A D y nL ad0 h0 (pc + 3, L, S, ab_setv h o k v)) : ab_Sim p l e R s m args below meth c Q A D y nL ad0 h0 (pc, L, v :: .ref o :: S, h) := by
  obtain ⟨ho, hkd⟩ := ab_refs hr
  obtain ⟨s1, s2, s3, s4⟩ := ab_setv_shape (h := h) o k v
  intro ad H locs ls hP hD hS hw hl hlen hfix hn1 hn2
  obtain ⟨f1, f2⟩ := ab_fit_spec ad hfit
  have hws := ab_setv_obj (y := y) (ad := ad) hkd hci hfit hrl hk
  have he : (ab_ws y ad h)[o]? = some (ad o, .inr (ci, (List.range (ab_N ci)).map (fun k => ab_cv ad (ab_gv h o k (ab_ty ci k))))) := by rw [ab_ws_get ho, ab_cell_obj hkd hci]
  have kk : ∀ (H1 : Heap) (locs1 : List Loc), va_P D vwCl (ab_ws y ad (ab_setv h o k v)) H1 → va_D A (ab_ws y ad (ab_setv h o k v)) → va_S A s.heap H1 locs1 → W p l e R s m args below meth c H1 locs1 (ab_nx h - ab_nx h0) (ab_sl h - ab_sl h0) Q (F0 m (pc + 3) ls (S.map (ab_cv ad))) := by
    intro H1 locs1 hP1 hD1 hS1
    have k2 := k1 ad H1 locs1 ls hP1 hD1 hS1 (ab_setv_wf hw hrl hlt) hl hlen ⟨hfix.1, fun z => hfix.2 (by rw [← z]; exact s1.symm)⟩ (by show ab_nx h0 ≤ ab_nx (ab_setv h o k v); rw [s1]; exact hn1) (by show ab_sl h0 ≤ ab_sl (ab_setv h o k v); rw [s4]; exact hn2)
    have e1 : ab_nx (pc + 3, L, S, ab_setv h o k v).2.2.2 = ab_nx h := s1
    have e2 : ab_sl (pc + 3, L, S, ab_setv h o k v).2.2.2 = ab_sl h := s4
    rw [e1, e2] at k2
    exact k2
  cases hb2 : (ab_T ci k).2.2.2 with
  | false =>
    refine va_put (C := ab_C ci) (T := ab_T ci) (N := ab_N ci) (ci := ci) hx hb (fun w h => hts w h) (ab_cls_in ci hci) (ab_ty ci) (ab_cls_ty ci hci) (ab_cls_nm ci hci) hown hE.1 hP hD hS o he (ab_cls ci hci) k hk (hts _ (ab_fl_spec hf)) (fun _ q => q) hb2 (ab_cls_ty ci hci k hk) f1 f2 (by rw [List.length_map, List.length_range]; exact hk) hd (fun H1 locs1 hP1 hD1 hS1 => ?_)
    rw [hws] at hP1 hD1
    exact kk H1 locs1 hP1 hD1 hS1
  | true =>
    rw [hb2] at hfin
    obtain ⟨i1, i2⟩ : ini = true ∧ own = ci := hfin.elim (fun z => by cases z) id
    refine va_putF (C := ab_C ci) (T := ab_T ci) (N := ab_N ci) (ci := ci) hx hb (fun w h => hts w h) (ab_cls_in ci hci) (ab_ty ci) (ab_cls_ty ci hci) (ab_cls_nm ci hci) hown hE.1 hP hD hS o he (ab_cls ci hci) k hk (hts _ (ab_fl_spec hf)) (fun _ q => q) hb2 (hini i1) (by rw [hown2, i2]) (ab_cls_ty ci hci k hk) f1 f2 (by rw [List.length_map, List.length_range]; exact hk) hd (fun H1 locs1 hP1 hD1 hS1 => ?_)
    rw [hws] at hP1 hD1
    exact kk H1 locs1 hP1 hD1 hS1

theorem abs_aald15 (hx : p.tables.exec = Jvm.exec) (hb : c.code = cc) {o : Nat} {i : Int32} (hE : ab_EF D y s) (hr : ab_ref h o 15 = true) (hi : ab_in i (ab_ln h o) = true) (hd : decode cc pc = .ok (.aaload, 1)) (k1 : ab_Sim p l e R s m args below meth c Q A D y nL ad0 h0 (pc + 1, L, va_rf (ab_rf h o i.toNatClampNeg) :: S, h)) : ab_Sim p l e R s m args below meth c Q A D y nL ad0 h0 (pc, L, .int i :: .ref o :: S, h) := by
  obtain ⟨ho, hkd⟩ := ab_refs hr
  intro ad H locs ls hP hD hS hw hl hlen hfix hn1 hn2
  refine va_aldq hx hb hE.1 hP o 5 (by rw [ab_ws_get ho, ab_cell_rfs hkd (Or.inr rfl)]) rfl (ab_in_vp hi) hd ?_
  rw [ab_rf_cv]
  exact k1 ad H locs ls hP hD hS hw hl hlen hfix hn1 hn2
theorem abs_aald14 (hx : p.tables.exec = Jvm.exec) (hb : c.code = cc) {o : Nat} {i : Int32} (hE : ab_EF D y s) (hr : ab_ref h o 14 = true) (hi : ab_in i (ab_ln h o) = true) (hd : decode cc pc = .ok (.aaload, 1)) (k1 : ab_Sim p l e R s m args below meth c Q A D y nL ad0 h0 (pc + 1, L, va_rf (ab_rf h o i.toNatClampNeg) :: S, h)) : ab_Sim p l e R s m args below meth c Q A D y nL ad0 h0 (pc, L, .int i :: .ref o :: S, h) := by
  obtain ⟨ho, hkd⟩ := ab_refs hr
  intro ad H locs ls hP hD hS hw hl hlen hfix hn1 hn2
  have hin := ab_in_vp hi
  have hlt : i.toNatClampNeg < ab_ln h o := Nat.not_le.mp fun q => hin (Or.inr q)
  have hcell : H[ad o]? = some (vp_cell (y 14) (ab_ln h o, .inr (.inr (.inr (.inr (fun i => (ab_rf h o i).map ad)))))) := by
    have := hP o _ (ab_ws_get ho)
    rw [ab_cell_rfs hkd (Or.inl rfl)] at this
    exact this
  have hK := hE.1.2 4 (y 14, .array .int) rfl
  refine W.aald (v := va_rf ((ab_rf h o i.toNatClampNeg).map ad)) (ty := .array .int) hx hb hcell (hK.1 (ab_ln h o) (fun j => va_rf ((ab_rf h o j).map ad))) rfl (fun q => by cases q) (by show ¬ (i < 0 ∨ (arrV _ _ _).slots.size ≤ _); rw [arrV_size]; exact hin) (by show (arrV _ _ _).slots[_]? = _; rw [arrV_read _ _ hlt]) rfl rfl hd ?_
  rw [ab_rf_cv]
  exact k1 ad H locs ls hP hD hS hw hl hlen hfix hn1 hn2
theorem abs_aast (hx : p.tables.exec = Jvm.exec) (hb : c.code = cc) {o r : Nat} {i : Int32} (hE : ab_EF D y s) (hr : ab_ref h o 15 = true) (hr2 : ab_ref h r 3 = true) (hi : ab_in i (ab_ln h o) = true) (hrl : i.toNatClampNeg < ab_rl h o) (hd : decode cc pc = .ok (.aastore, 1)) (k1 : ab_Sim p l e R s m args below meth c Q A D y nL ad0 h0 (pc + 1, L, S, ab_setr h o i.toNatClampNeg r)) : ab_Sim p l e R s m args below meth c Q A D y nL ad0 h0 (pc, L, .ref r :: .int i :: .ref o :: S, h) := by
  obtain ⟨ho, hkd⟩ := ab_refs hr
  obtain ⟨ho2, hkd2⟩ := ab_refs hr2
  obtain ⟨s1, s2, s3, s4⟩ := ab_setv_shape (h := h) o i.toNatClampNeg (.ref r)
  have hrl' : ab_rlok h o i.toNatClampNeg (.ref r) = true := decide_eq_true hrl
  intro ad H locs ls hP hD hS hw hl hlen hfix hn1 hn2
  have hws : (ab_ws y ad h).set o (ad o, .inl (y 15, ab_ln h o, .inr (.inr (.inr (.inr (va_up (fun i => (ab_rf h o i).map ad) i.toNatClampNeg (some (ad r)))))))) = ab_ws y ad (ab_setv h o i.toNatClampNeg (.ref r)) := by
    refine ab_ws_set s1 ?_ (fun q hq => ab_cell_setr hrl hq)
    rw [ab_cell_rfs ((s2 o).trans hkd) (Or.inr rfl), s3]
    refine ab_rfs_congr (fun j => ?_)
    show (ab_rf (ab_setr h o i.toNatClampNeg r) o j).map ad = va_up (fun i => (ab_rf h o i).map ad) i.toNatClampNeg (some (ad r)) j
    rw [ab_rf_setr hrl]
    unfold va_up
    by_cases hj : j = i.toNatClampNeg
    · rw [if_pos ⟨rfl, hj⟩, if_pos hj]
      rfl
    · rw [if_neg (fun z => hj z.2), if_neg hj]
  refine va_astq (r := (ab_C 3, ab_T 3, ab_N 3)) hx hb hE.1 hP hD hS o 5 r 3 (by rw [ab_ws_get ho, ab_cell_rfs hkd (Or.inr rfl)]) rfl (by rw [ab_ws_get ho2, ab_cell_obj hkd2 (by omega)]) (ab_cls 3 (by omega)) (ab_in_vp hi) hd (fun H1 locs1 hP1 hD1 hS1 => ?_)
  rw [hws] at hP1 hD1
  have k2 := k1 ad H1 locs1 ls hP1 hD1 hS1 (ab_setv_wf hw hrl' (decide_eq_true ho2)) hl hlen ⟨hfix.1, fun z => hfix.2 (by rw [← z]; exact s1.symm)⟩ (by show ab_nx h0 ≤ ab_nx (ab_setv h o i.toNatClampNeg (.ref r)); rw [s1]; exact hn1) (by show ab_sl h0 ≤ ab_sl (ab_setv h o i.toNatClampNeg (.ref r)); rw [s4]; exact hn2)
  have e1 : ab_nx (pc + 1, L, S, ab_setr h o i.toNatClampNeg r).2.2.2 = ab_nx h := s1
  have e2 : ab_sl (pc + 1, L, S, ab_setr h o i.toNatClampNeg r).2.2.2 = ab_sl h := s4
  rw [e1, e2] at k2
  exact k2
end ABS
end
section
def ab_tyok : FieldType → Bool
  | .int => true
  | .boolean => true
  | .long => true
  | .object _ => true
  | .array _ => true
  | _ => false
theorem ab_ty_ok (ci : Nat) (hci : ci < 8) : ∀ j, j < ab_N ci → ab_tyok (ab_ty ci j) = true := by
  rcases (show ci = 0 ∨ ci = 1 ∨ ci = 2 ∨ ci = 3 ∨ ci = 4 ∨ ci = 5 ∨ ci = 6 ∨ ci = 7 by omega) with h | h | h | h | h | h | h | h <;> subst h <;> decide +kernel
theorem ab_arrI : Cond.arrayClass .int ∈ ab_BIG := ab_has_mem (q := (1, 134)) (by decide +kernel)
theorem ab_arrJ : Cond.arrayClass .long ∈ ab_BIG := ab_has_mem (q := (1, 220)) (by decide +kernel)
theorem ab_arrZ : Cond.arrayClass .boolean ∈ ab_BIG := ab_has_mem (q := (1, 135)) (by decide +kernel)
theorem ab_arrB : Cond.arrayClass .byte ∈ ab_BIG := ab_has_mem (q := (1, 45)) (by decide +kernel)
section ABS
variable {p : Program} {l : Launch} {e : Env} {R : Room} {s : State} {m : MethodId} {args : Array Value} {below : List Frame} {meth : Method} {c : Code} {Q : State → Prop} {A : Nat → Prop} {D : va_G} {y : Nat → ClassId} {nL : Nat} {ad0 : Nat → Nat} {h0 : ab_H} {cc : ByteArray} {pc : Nat} {L : ab_L} {S : List Value} {h : ab_H}
theorem ab_add_get {ns : List (Nat × Nat × List (Option Nat))} {o : Nat} (ho : o < ab_nx h) : (ab_add h ns).1[o]? = h.1[o]? := List.getElem?_append_left ho
theorem ab_add_rf {ns : List (Nat × Nat × List (Option Nat))} {o k : Nat} (ho : o < ab_nx h) : ab_rf (ab_add h ns) o k = ab_rf h o k := by
  unfold ab_rf
  rw [ab_add_get ho]
theorem ab_add_cell {ns : List (Nat × Nat × List (Option Nat))} {ad ad' : Nat → Nat} {o : Nat} (hw : ab_wf h) (hf : ∀ q, q < ab_nx h → ad' q = ad q) (ho : o < ab_nx h) : ab_cell y ad' (ab_add h ns) o = ab_cell y ad h o := by
  have e1 : ab_kd (ab_add h ns) o = ab_kd h o := by unfold ab_kd; rw [ab_add_get ho]
  have e2 : ab_ln (ab_add h ns) o = ab_ln h o := by unfold ab_ln; rw [ab_add_get ho]
  have e3 : (ab_add h ns).2.1 o = h.2.1 o := funext fun k => if_pos ho
  have e4 : (ab_add h ns).2.2 o = h.2.2 o := funext fun k => if_pos ho
  have e5 : ∀ i, (ab_rf (ab_add h ns) o i).map ad' = (ab_rf h o i).map ad := by
    intro i
    rw [ab_add_rf ho]
    cases hr : ab_rf h o i with
    | none => rfl
    | some r => exact congrArg some (hf r (hw o i r hr))
  have e6 : ∀ k ty, ab_cv ad' (ab_gv (ab_add h ns) o k ty) = ab_cv ad (ab_gv h o k ty) := by
    intro k ty
    have e7 : ab_cv ad' (va_rf (ab_rf (ab_add h ns) o k)) = ab_cv ad (va_rf (ab_rf h o k)) := by rw [← ab_rf_cv, ← ab_rf_cv, e5]
    cases ty <;> first | exact e7 | (simp only [ab_gv, e3, e4]; rfl)
  unfold ab_cell
  rw [e1, e2, e3, e4]
  simp only [e5, e6]
theorem ab_ws_add {ns : List (Nat × Nat × List (Option Nat))} {ad ad' : Nat → Nat} (hw : ab_wf h) (hf : ∀ q, q < ab_nx h → ad' q = ad q) : ab_ws y ad' (ab_add h ns) = ab_ws y ad h ++ (List.range ns.length).map (fun i => (ad' (ab_nx h + i), ab_cell y ad' (ab_add h ns) (ab_nx h + i))) := by
  have e : ab_nx (ab_add h ns) = ab_nx h + ns.length := List.length_append
  unfold ab_ws
  rw [e, List.range_add, List.map_append, List.map_map]
  congr 1
  apply List.map_congr_left
  intro o ho
  have ho := List.mem_range.mp ho
  rw [hf o ho, ab_add_cell hw hf ho]
def ab_ad (ad : Nat → Nat) (n q : Nat) : Nat → Nat := fun o => if o = n then q else ad o
theorem ab_ad_new (ad : Nat → Nat) (n q : Nat) : ab_ad ad n q n = q := if_pos rfl
theorem ab_ad_lt {ad : Nat → Nat} {n q o : Nat} (h : o < n) : ab_ad ad n q o = ad o := if_neg (by omega)
theorem ab_ok_cv {ad ad' : Nat → Nat} {n : Nat} {v : Value} (hv : ab_ok n v = true) (hf : ∀ o, o < n ∨ 1000 ≤ o → ad' o = ad o) : ab_cv ad' v = ab_cv ad v := by
  cases v <;> first | rfl | skip
  rename_i o
  simp only [ab_ok, Bool.or_eq_true, decide_eq_true_eq] at hv
  exact congrArg Value.ref (hf o hv)
theorem ab_ok_S {ad ad' : Nat → Nat} {n : Nat} (hv : S.all (ab_ok n) = true) (hf : ∀ o, o < n ∨ 1000 ≤ o → ad' o = ad o) : S.map (ab_cv ad') = S.map (ab_cv ad) := List.map_congr_left fun v hm => ab_ok_cv (List.all_eq_true.mp hv v hm) hf
theorem ab_ok_L {ad ad' : Nat → Nat} {n : Nat} (hv : L.all (fun v => (v.map (ab_ok n)).getD true) = true) (hf : ∀ o, o < n ∨ 1000 ≤ o → ad' o = ad o) : ∀ q ∈ ab_le ad' L, q ∈ ab_le ad L := by
  intro q hq
  obtain ⟨v, h1, h2⟩ := ab_le_mem.mp hq
  refine ab_le_mem.mpr ⟨v, h1, ?_⟩
  rw [h2]
  refine ab_ok_cv ?_ hf
  have hm : some v ∈ L := by
    rw [List.getD_eq_getElem?_getD] at h1
    cases hL : L[q.1]? with
    | none => rw [hL] at h1; cases h1
    | some x =>
      rw [hL] at h1
      have h1 : x = some v := h1
      subst h1
      exact List.mem_of_getElem? hL
  exact List.all_eq_true.mp hv _ hm
theorem ab_fx_ad {ad : Nat → Nat} {ns : List (Nat × Nat × List (Option Nat))} {ad' : Nat → Nat} (hfix : ab_fx ad ad0 h0 h) (hn1 : ab_nx h0 ≤ ab_nx h) (hpos : 0 < ns.length) (hf : ∀ o, o < ab_nx h ∨ 1000 ≤ o → ad' o = ad o) : ab_fx ad' ad0 h0 (ab_add h ns) := by
  refine ⟨fun o ho => ?_, fun z => ?_⟩
  · rw [hf o (ho.elim (fun w => Or.inl (by omega)) Or.inr)]
    exact hfix.1 o ho
  · have e : ab_nx (ab_add h ns) = ab_nx h + ns.length := List.length_append
    omega
theorem ab_add_wf {ns : List (Nat × Nat × List (Option Nat))} (hw : ab_wf h) (hr : ∀ x ∈ ns, ∀ k r, x.2.2.getD k none = some r → r < ab_nx h + ns.length) : ab_wf (ab_add h ns) := by
  intro o k r ho
  have e : ab_nx (ab_add h ns) = ab_nx h + ns.length := List.length_append
  rw [e]
  rcases Nat.lt_or_ge o (ab_nx h) with hlt | hge
  · rw [ab_add_rf hlt] at ho
    have := hw o k r ho
    omega
  · unfold ab_rf at ho
    have e2 : (ab_add h ns).1[o]? = ns[o - ab_nx h]? := List.getElem?_append_right hge
    rw [e2] at ho
    cases hx : ns[o - ab_nx h]? with
    | none => rw [hx] at ho; cases ho
    | some x =>
      rw [hx] at ho
      exact hr x (List.mem_of_getElem? hx) k r ho
theorem ab_sl_add (ns : List (Nat × Nat × List (Option Nat))) : ab_sl (ab_add h ns) = ab_sl h + (ns.map (fun x => x.2.1)).sum := by
  unfold ab_sl ab_add
  rw [List.map_append, List.sum_append]
theorem ab_new_cell0 (kd ln : Nat) (rs : List (Option Nat)) : ab_kd (ab_new h kd ln rs) (ab_nx h) = kd ∧ ab_ln (ab_new h kd ln rs) (ab_nx h) = ln ∧ (∀ k, ab_rf (ab_new h kd ln rs) (ab_nx h) k = rs.getD k none) ∧ (ab_new h kd ln rs).2.1 (ab_nx h) = (fun _ => 0) ∧ (ab_new h kd ln rs).2.2 (ab_nx h) = (fun _ => 0) := by
  have e : (ab_new h kd ln rs).1[ab_nx h]? = some (kd, ln, rs) := by
    show (h.1 ++ [(kd, ln, rs)])[h.1.length]? = _
    rw [List.getElem?_append_right (Nat.le_refl _), Nat.sub_self]
    rfl
  refine ⟨by unfold ab_kd; rw [e]; rfl, by unfold ab_ln; rw [e]; rfl, fun k => by unfold ab_rf; rw [e]; rfl, funext fun k => if_neg (Nat.lt_irrefl _), funext fun k => if_neg (Nat.lt_irrefl _)⟩
theorem ab_new_ws {ad : Nat → Nat} {kd ln q : Nat} {rs : List (Option Nat)} {e : va_E} (hw : ab_wf h) (he : ab_cell y (ab_ad ad (ab_nx h) q) (ab_new h kd ln rs) (ab_nx h) = e) : ab_ws y ad h ++ [(q, e)] = ab_ws y (ab_ad ad (ab_nx h) q) (ab_new h kd ln rs) := by
  have h1 := ab_ws_add (y := y) (ns := [(kd, ln, rs)]) (ad := ad) (ad' := ab_ad ad (ab_nx h) q) hw (fun o ho => ab_ad_lt ho)
  have h2 : ab_ws y (ab_ad ad (ab_nx h) q) (ab_new h kd ln rs) = _ := h1
  rw [h2]
  congr 1
  show _ = [(ab_ad ad (ab_nx h) q (ab_nx h + 0), ab_cell y (ab_ad ad (ab_nx h) q) (ab_new h kd ln rs) (ab_nx h + 0))]
  rw [Nat.add_zero, he, ab_ad_new]
theorem abs_newobj (hx : p.tables.exec = Jvm.exec) (hb : c.code = cc) {own i ci : Nat} (hown : s.vm.findClass (ab_C own) = some m.cls) (hts : ∀ w ∈ ab_BIG, w.before args s = true) (hA : ∀ q, s.heap.size ≤ q → A q) (hE : ab_EF D y s) (hf : ab_nw own i = some ci) (hci : ci < 8) (h1000 : ab_nx h < 1000) (hL : L.all (fun v => (v.map (ab_ok (ab_nx h))).getD true) = true) (hSS : S.all (ab_ok (ab_nx h)) = true)
    (hR : ab_nx h + 1 - ab_nx h0 ≤ R.cells ∧ ab_sl h + ab_N ci - ab_sl h0 ≤ R.slots) (hd : decode cc pc = .ok (.new i, 3)) (k1 : ab_Sim p l e R s m args below meth c Q A D y nL ad0 h0 (pc + 3, L, .ref (ab_nx h) :: S, ab_new h ci (ab_N ci) (List.replicate (ab_N ci) none))) : ab_Sim p l e R s m args below meth c Q A D y nL ad0 h0 (pc, L, S, h) := by
  obtain ⟨w1, w2, w3⟩ := ab_nw_spec hf
  obtain ⟨c1, c2, c3, c4, c5⟩ := ab_new_cell0 (h := h) ci (ab_N ci) (List.replicate (ab_N ci) none)
  intro ad H locs ls hP hD hS hw hl hlen hfix hn1 hn2
  have hn1 : ab_nx h0 ≤ ab_nx h := hn1
  have hn2 : ab_sl h0 ≤ ab_sl h := hn2
  have hgv : ∀ j, ab_gv (ab_new h ci (ab_N ci) (List.replicate (ab_N ci) none)) (ab_nx h) j (ab_ty ci j) = ab_gv (ab_new h ci (ab_N ci) (List.replicate (ab_N ci) none)) (ab_nx h) j (ab_ty ci j) := fun _ => rfl
  have hdef : ∀ j, j < ab_N ci → defaultValue (ab_ty ci j) = ab_gv (ab_new h ci (ab_N ci) (List.replicate (ab_N ci) none)) (ab_nx h) j (ab_ty ci j) := by
    intro j hj
    have ht := ab_ty_ok ci hci j hj
    have e : ab_rf (ab_new h ci (ab_N ci) (List.replicate (ab_N ci) none)) (ab_nx h) j = none := by
      rw [c3]
      simp [List.getD_eq_getElem?_getD, List.getElem?_replicate, hj]
    cases hty : ab_ty ci j <;> rw [hty] at ht <;> first | (simp [ab_tyok] at ht; done) | skip
    all_goals simp only [defaultValue, ab_gv, e, c4, c5, va_rf]
  have hcv : ∀ (ad' : Nat → Nat) j, j < ab_N ci → ab_cv ad' (defaultValue (ab_ty ci j)) = defaultValue (ab_ty ci j) := by
    intro ad' j hj
    cases ab_ty ci j <;> rfl
  refine va_new (C := ab_C ci) (T := ab_T ci) (N := ab_N ci) (ci := ci) (fs := (List.range (ab_N ci)).map (fun j => defaultValue (ab_ty ci j))) hx hb hts (ab_cls_in ci hci) (ab_ty ci) (ab_cls_ty ci hci) hown (hts _ w1) (hts _ w2) (hts _ w3) hE.1 hP hD hS hA (ab_cls ci hci) (fun j hj => ?_) (by show ab_nx h - ab_nx h0 + 1 ≤ R.cells; omega) (by show ab_sl h - ab_sl h0 + ab_N ci ≤ R.slots; omega) hd (fun q H1 hP1 hD1 hS1 => ?_)
  · unfold vp_V
    rw [List.getD_eq_getElem?_getD, List.getElem?_map, List.getElem?_range hj]
    rfl
  · have hfe : ∀ o, o < ab_nx h ∨ 1000 ≤ o → ab_ad ad (ab_nx h) q o = ad o := fun o ho => if_neg (by omega)
    have hws := ab_new_ws (y := y) (ad := ad) (kd := ci) (ln := ab_N ci) (q := q) (rs := List.replicate (ab_N ci) none) (e := .inr (ci, (List.range (ab_N ci)).map (fun j => defaultValue (ab_ty ci j)))) hw (by
      rw [ab_cell_obj c1 hci]
      congr 2
      apply List.map_congr_left
      intro j hj
      have hj := List.mem_range.mp hj
      rw [← hdef j hj]
      exact hcv _ j hj)
    rw [hws] at hP1 hD1
    have k2 := k1 (ab_ad ad (ab_nx h) q) H1 locs ls hP1 hD1 hS1 (ab_add_wf hw (fun x hx2 k r hr => by
      rcases List.mem_singleton.mp hx2 with rfl
      simp [List.getD_eq_getElem?_getD, List.getElem?_replicate] at hr
      split at hr <;> simp at hr)) (ab_has_weak hl (ab_ok_L hL hfe)) hlen (ab_fx_ad hfix hn1 (by simp) hfe) (by
        show ab_nx h0 ≤ ab_nx (ab_add h _)
        have e : ab_nx (ab_add h [(ci, ab_N ci, List.replicate (ab_N ci) none)]) = ab_nx h + 1 := List.length_append
        omega) (by
        show ab_sl h0 ≤ ab_sl (ab_add h _)
        rw [ab_sl_add]
        omega)
    have e1 : ab_nx (pc + 3, L, Value.ref (ab_nx h) :: S, ab_new h ci (ab_N ci) (List.replicate (ab_N ci) none)).2.2.2 - ab_nx h0 = ab_nx h - ab_nx h0 + 1 := by
      have e : ab_nx (ab_add h [(ci, ab_N ci, List.replicate (ab_N ci) none)]) = ab_nx h + 1 := List.length_append
      show ab_nx (ab_add h _) - ab_nx h0 = _
      rw [e]
      omega
    have e2 : ab_sl (pc + 3, L, Value.ref (ab_nx h) :: S, ab_new h ci (ab_N ci) (List.replicate (ab_N ci) none)).2.2.2 - ab_sl h0 = ab_sl h - ab_sl h0 + ab_N ci := by
      show ab_sl (ab_add h _) - ab_sl h0 = _
      rw [ab_sl_add]
      simp
      omega
    rw [e1, e2] at k2
    have e3 : (pc + 3, L, Value.ref (ab_nx h) :: S, ab_new h ci (ab_N ci) (List.replicate (ab_N ci) none)).2.2.1.map (ab_cv (ab_ad ad (ab_nx h) q)) = Value.ref q :: S.map (ab_cv ad) := by
      show ab_cv _ (.ref (ab_nx h)) :: S.map _ = _
      rw [ab_ok_S hSS hfe]
      show Value.ref (ab_ad ad (ab_nx h) q (ab_nx h)) :: _ = _
      rw [ab_ad_new]
    rw [e3] at k2
    exact k2
theorem abs_newarr (hx : p.tables.exec = Jvm.exec) (hb : c.code = cc) {at1 : ArrayType} {n : Int32} {kd t0 : Nat} {ty : FieldType} (hts : ∀ w ∈ ab_BIG, w.before args s = true) (hA : ∀ q, s.heap.size ≤ q → A q) (hE : ab_EF D y s) (hk : (at1 = .int ∧ kd = 10 ∧ ty = .int ∧ t0 = 0) ∨ (at1 = .long ∧ kd = 11 ∧ ty = .long ∧ t0 = 1) ∨ (at1 = .boolean ∧ kd = 12 ∧ ty = .boolean ∧ t0 = 2) ∨ (at1 = .byte ∧ kd = 13 ∧ ty = .byte ∧ t0 = 3)) (h0n : 0 ≤ n) (h1k : n.toNatClampNeg ≤ 1000) (h1000 : ab_nx h < 1000) (hL : L.all (fun v => (v.map (ab_ok (ab_nx h))).getD true) = true) (hSS : S.all (ab_ok (ab_nx h)) = true)
    (hR : ab_nx h + 1 - ab_nx h0 ≤ R.cells ∧ ab_sl h + n.toNatClampNeg - ab_sl h0 ≤ R.slots) (hd : decode cc pc = .ok (.newarray at1, 2)) (k1 : ab_Sim p l e R s m args below meth c Q A D y nL ad0 h0 (pc + 2, L, .ref (ab_nx h) :: S, ab_new h kd n.toNatClampNeg [])) : ab_Sim p l e R s m args below meth c Q A D y nL ad0 h0 (pc, L, .int n :: S, h) := by
  obtain ⟨c1, c2, c3, c4, c5⟩ := ab_new_cell0 (h := h) kd n.toNatClampNeg []
  have hty : newarray.typeOf at1 = ty := by rcases hk with ⟨rfl, -, rfl, -⟩ | ⟨rfl, -, rfl, -⟩ | ⟨rfl, -, rfl, -⟩ | ⟨rfl, -, rfl, -⟩ <;> rfl
  have harr : Cond.arrayClass (newarray.typeOf at1) ∈ ab_BIG := by rcases hk with ⟨rfl, -⟩ | ⟨rfl, -⟩ | ⟨rfl, -⟩ | ⟨rfl, -⟩ <;> first | exact ab_arrI | exact ab_arrJ | exact ab_arrZ | exact ab_arrB
  have htys : (ab_tys y)[t0]? = some (y kd, ty) := by rcases hk with ⟨-, rfl, rfl, rfl⟩ | ⟨-, rfl, rfl, rfl⟩ | ⟨-, rfl, rfl, rfl⟩ | ⟨-, rfl, rfl, rfl⟩ <;> rfl
  have hcb : componentBytes ty ≤ 8 := by rcases hk with ⟨-, -, rfl, -⟩ | ⟨-, -, rfl, -⟩ | ⟨-, -, rfl, -⟩ | ⟨-, -, rfl, -⟩ <;> decide
  intro ad H locs ls hP hD hS hw hl hlen hfix hn1 hn2
  have hn1 : ab_nx h0 ≤ ab_nx h := hn1
  have hn2 : ab_sl h0 ≤ ab_sl h := hn2
  have hRA := (hE.1.2 t0 _ htys).2
  refine va_newa (a0 := (n.toNatClampNeg, if kd = 11 then .inr (.inl (fun _ => 0)) else .inl (fun _ => 0))) hx hb (hts _ harr) hty hE.1 hP hD hS hA (fun cA => ?_) (Int32.not_lt.mpr h0n) rfl (Nat.le_trans (Nat.mul_le_mul h1k hcb) (by decide)) (by show ab_nx h - ab_nx h0 + 1 ≤ R.cells; omega) (by show ab_sl h - ab_sl h0 + n.toNatClampNeg ≤ R.slots; omega) hd (fun q cA H1 hK1 hP1 hD1 hS1 => ?_)
  · rcases hk with ⟨-, rfl, rfl, -⟩ | ⟨-, rfl, rfl, -⟩ | ⟨-, rfl, rfl, -⟩ | ⟨-, rfl, rfl, -⟩ <;> rfl
  · have hRA1 := (hK1.2 (ab_tys y).length (cA, ty) (by rw [List.getElem?_append_right (Nat.le_refl _), Nat.sub_self]; rfl)).2
    have hcA : cA = y kd := by
      rcases hk with ⟨-, rfl, rfl, -⟩ | ⟨-, rfl, rfl, -⟩ | ⟨-, rfl, rfl, -⟩ | ⟨-, rfl, rfl, -⟩ <;> exact Option.some.inj (hRA1.symm.trans hRA)
    subst hcA
    have hfe : ∀ o, o < ab_nx h ∨ 1000 ≤ o → ab_ad ad (ab_nx h) q o = ad o := fun o ho => if_neg (by omega)
    have hws := ab_new_ws (y := y) (ad := ad) (kd := kd) (ln := n.toNatClampNeg) (q := q) (rs := []) (e := .inl (y kd, (n.toNatClampNeg, if kd = 11 then .inr (.inl (fun _ => 0)) else .inl (fun _ => 0)))) hw (by
      rcases hk with ⟨-, rfl, -, -⟩ | ⟨-, rfl, -, -⟩ | ⟨-, rfl, -, -⟩ | ⟨-, rfl, -, -⟩
      · rw [ab_cell_arr c1 (by omega) (by omega) (by omega) (by omega), c2, c4]; rfl
      · rw [ab_cell_lng c1, c2, c5]; rfl
      · rw [ab_cell_arr c1 (by omega) (by omega) (by omega) (by omega), c2, c4]; rfl
      · rw [ab_cell_arr c1 (by omega) (by omega) (by omega) (by omega), c2, c4]; rfl)
    rw [hws] at hP1 hD1
    have k2 := k1 (ab_ad ad (ab_nx h) q) H1 locs ls hP1 hD1 hS1 (ab_add_wf hw (fun x hx2 k r hr => by
      rcases List.mem_singleton.mp hx2 with rfl
      simp at hr)) (ab_has_weak hl (ab_ok_L hL hfe)) hlen (ab_fx_ad hfix hn1 (by simp) hfe) (by
        show ab_nx h0 ≤ ab_nx (ab_add h _)
        have e : ab_nx (ab_add h [(kd, n.toNatClampNeg, [])]) = ab_nx h + 1 := List.length_append
        omega) (by
        show ab_sl h0 ≤ ab_sl (ab_add h _)
        rw [ab_sl_add]
        omega)
    have e1 : ab_nx (pc + 2, L, Value.ref (ab_nx h) :: S, ab_new h kd n.toNatClampNeg []).2.2.2 - ab_nx h0 = ab_nx h - ab_nx h0 + 1 := by
      have e : ab_nx (ab_add h [(kd, n.toNatClampNeg, [])]) = ab_nx h + 1 := List.length_append
      show ab_nx (ab_add h _) - ab_nx h0 = _
      rw [e]
      omega
    have e2 : ab_sl (pc + 2, L, Value.ref (ab_nx h) :: S, ab_new h kd n.toNatClampNeg []).2.2.2 - ab_sl h0 = ab_sl h - ab_sl h0 + n.toNatClampNeg := by
      show ab_sl (ab_add h _) - ab_sl h0 = _
      rw [ab_sl_add]
      simp
      omega
    rw [e1, e2] at k2
    have e3 : (pc + 2, L, Value.ref (ab_nx h) :: S, ab_new h kd n.toNatClampNeg []).2.2.1.map (ab_cv (ab_ad ad (ab_nx h) q)) = Value.ref q :: S.map (ab_cv ad) := by
      show ab_cv _ (.ref (ab_nx h)) :: S.map _ = _
      rw [ab_ok_S hSS hfe]
      show Value.ref (ab_ad ad (ab_nx h) q (ab_nx h)) :: _ = _
      rw [ab_ad_new]
    rw [e3] at k2
    exact k2
theorem abs_anew (hx : p.tables.exec = Jvm.exec) (hb : c.code = cc) {own i : Nat} {n : Int32} (hown : s.vm.findClass (ab_C own) = some m.cls) (hts : ∀ w ∈ ab_BIG, w.before args s = true) (hA : ∀ q, s.heap.size ≤ q → A q) (hE : ab_EF D y s) (hf : ab_nw own i = some 3) (h0n : 0 ≤ n) (h1k : n.toNatClampNeg ≤ 1000) (h1000 : ab_nx h < 1000) (hL : L.all (fun v => (v.map (ab_ok (ab_nx h))).getD true) = true) (hSS : S.all (ab_ok (ab_nx h)) = true)
    (hR : ab_nx h + 1 - ab_nx h0 ≤ R.cells ∧ ab_sl h + n.toNatClampNeg - ab_sl h0 ≤ R.slots) (hd : decode cc pc = .ok (.anewarray i, 3)) (k1 : ab_Sim p l e R s m args below meth c Q A D y nL ad0 h0 (pc + 3, L, .ref (ab_nx h) :: S, ab_new h 15 n.toNatClampNeg (List.replicate n.toNatClampNeg none))) : ab_Sim p l e R s m args below meth c Q A D y nL ad0 h0 (pc, L, .int n :: S, h) := by
  obtain ⟨w1, w2, w3⟩ := ab_nw_spec hf
  obtain ⟨c1, c2, c3, c4, c5⟩ := ab_new_cell0 (h := h) 15 n.toNatClampNeg (List.replicate n.toNatClampNeg none)
  intro ad H locs ls hP hD hS hw hl hlen hfix hn1 hn2
  have hn1 : ab_nx h0 ≤ ab_nx h := hn1
  have hn2 : ab_sl h0 ≤ ab_sl h := hn2
  have hRA := (hE.1.2 5 _ rfl).2
  refine va_newq (C := RX3) hx hb hown (hts _ w1) hE.2.2.1 hE.1 hP hD hS hA (Int32.not_lt.mpr h0n) rfl (by omega) (by show ab_nx h - ab_nx h0 + 1 ≤ R.cells; omega) (by show ab_sl h - ab_sl h0 + n.toNatClampNeg ≤ R.slots; omega) hd (fun q cA H1 hK1 hP1 hD1 hS1 => ?_)
  have hRA1 := (hK1.2 (ab_tys y).length (cA, .object RX3) (by rw [List.getElem?_append_right (Nat.le_refl _), Nat.sub_self]; rfl)).2
  have hcA : cA = y 15 := by
    obtain ⟨_, _, -, -, -, z1⟩ := hRA
    obtain ⟨_, _, -, -, -, z2⟩ := hRA1
    exact Option.some.inj (z2.symm.trans z1)
  subst hcA
  have hfe : ∀ o, o < ab_nx h ∨ 1000 ≤ o → ab_ad ad (ab_nx h) q o = ad o := fun o ho => if_neg (by omega)
  have hno : ∀ k, (List.replicate n.toNatClampNeg (none : Option Nat)).getD k none = none := by
    intro k
    rw [List.getD_eq_getElem?_getD, List.getElem?_replicate]
    split <;> rfl
  have hws := ab_new_ws (y := y) (ad := ad) (kd := 15) (ln := n.toNatClampNeg) (q := q) (rs := List.replicate n.toNatClampNeg none) (e := .inl (y 15, n.toNatClampNeg, .inr (.inr (.inr (.inr (fun _ => none)))))) hw (by
    rw [ab_cell_rfs c1 (Or.inr rfl), c2]
    refine ab_rfs_congr (fun j => ?_)
    rw [c3, hno]
    rfl)
  rw [hws] at hP1 hD1
  have k2 := k1 (ab_ad ad (ab_nx h) q) H1 locs ls hP1 hD1 hS1 (ab_add_wf hw (fun x hx2 k r hr => by
    rcases List.mem_singleton.mp hx2 with rfl
    rw [hno] at hr
    cases hr)) (ab_has_weak hl (ab_ok_L hL hfe)) hlen (ab_fx_ad hfix hn1 (by simp) hfe) (by
      show ab_nx h0 ≤ ab_nx (ab_add h _)
      have e : ab_nx (ab_add h [(15, n.toNatClampNeg, List.replicate n.toNatClampNeg none)]) = ab_nx h + 1 := List.length_append
      omega) (by
      show ab_sl h0 ≤ ab_sl (ab_add h _)
      rw [ab_sl_add]
      omega)
  have e1 : ab_nx (pc + 3, L, Value.ref (ab_nx h) :: S, ab_new h 15 n.toNatClampNeg (List.replicate n.toNatClampNeg none)).2.2.2 - ab_nx h0 = ab_nx h - ab_nx h0 + 1 := by
    have e : ab_nx (ab_add h [(15, n.toNatClampNeg, List.replicate n.toNatClampNeg none)]) = ab_nx h + 1 := List.length_append
    show ab_nx (ab_add h _) - ab_nx h0 = _
    rw [e]
    omega
  have e2 : ab_sl (pc + 3, L, Value.ref (ab_nx h) :: S, ab_new h 15 n.toNatClampNeg (List.replicate n.toNatClampNeg none)).2.2.2 - ab_sl h0 = ab_sl h - ab_sl h0 + n.toNatClampNeg := by
    show ab_sl (ab_add h _) - ab_sl h0 = _
    rw [ab_sl_add]
    simp
    omega
  rw [e1, e2] at k2
  have e3 : (pc + 3, L, Value.ref (ab_nx h) :: S, ab_new h 15 n.toNatClampNeg (List.replicate n.toNatClampNeg none)).2.2.1.map (ab_cv (ab_ad ad (ab_nx h) q)) = Value.ref q :: S.map (ab_cv ad) := by
    show ab_cv _ (.ref (ab_nx h)) :: S.map _ = _
    rw [ab_ok_S hSS hfe]
    show Value.ref (ab_ad ad (ab_nx h) q (ab_nx h)) :: _ = _
    rw [ab_ad_new]
  rw [e3] at k2
  exact k2
end ABS
end
section
theorem ab_mem {q : ab_P} {w : Cond} (h : (ab_tb q.1)[q.2]? = some w) (hg : goodWord w = true) : w ∈ ab_BIG := List.mem_filter.mpr ⟨ab_tb_in (List.mem_of_getElem? h), hg⟩
theorem ab_cw0 : Cond.code yX0_init cX0_init 1 none ∈ ab_BIG := ab_mem (q := (1, 225)) rfl rfl
theorem ab_cw1 : Cond.code yX0_split cX0_split 4 none ∈ ab_BIG := ab_mem (q := (2, 173)) rfl rfl
theorem ab_cw2 : Cond.code yX0_firstAtStart cX0_firstAtStart 4 (some .int) ∈ ab_BIG := ab_mem (q := (2, 177)) rfl rfl
theorem ab_cw3 : Cond.code yX0_isHopeful cX0_isHopeful 4 (some .boolean) ∈ ab_BIG := ab_mem (q := (2, 181)) rfl rfl
theorem ab_cw4 : Cond.code yX0_splitOnce cX0_splitOnce 5 (some .boolean) ∈ ab_BIG := ab_mem (q := (2, 186)) rfl rfl
theorem ab_cw5 : Cond.code yX0_areOperandsAlike cX0_areOperandsAlike 6 (some .boolean) ∈ ab_BIG := ab_mem (q := (2, 190)) rfl rfl
theorem ab_cw6 : Cond.code yX0_isAlike cX0_isAlike 6 (some .boolean) ∈ ab_BIG := ab_mem (q := (2, 194)) rfl rfl
theorem ab_cw7 : Cond.code yX0_countClasses cX0_countClasses 4 (some .int) ∈ ab_BIG := ab_mem (q := (2, 201)) rfl rfl
theorem ab_cw8 : Cond.code yX0_greatestClass cX0_greatestClass 4 (some .int) ∈ ab_BIG := ab_mem (q := (2, 205)) rfl rfl
theorem ab_cw9 : Cond.code yX0_sizeOf cX0_sizeOf 5 (some .int) ∈ ab_BIG := ab_mem (q := (2, 209)) rfl rfl
theorem ab_cw10 : Cond.code yX0_leaderOf cX0_leaderOf 5 (some .int) ∈ ab_BIG := ab_mem (q := (2, 229)) rfl rfl
theorem ab_cw11 : Cond.code yX1_init cX1_init 1 none ∈ ab_BIG := ab_mem (q := (2, 3)) rfl rfl
theorem ab_cw12 : Cond.code yX1_find cX1_find 3 none ∈ ab_BIG := ab_mem (q := (2, 238)) rfl rfl
theorem ab_cw13 : Cond.code yX1_nameOf cX1_nameOf 2 (some .int) ∈ ab_BIG := ab_mem (q := (3, 12)) rfl rfl
theorem ab_cw14 : Cond.code yX1_numberOf cX1_numberOf 2 (some .long) ∈ ab_BIG := ab_mem (q := (3, 49)) rfl rfl
theorem ab_cw15 : Cond.code yX1_isName cX1_isName 2 (some .boolean) ∈ ab_BIG := ab_mem (q := (3, 15)) rfl rfl
theorem ab_cw16 : Cond.code yX1_codeOf cX1_codeOf 3 (some .long) ∈ ab_BIG := ab_mem (q := (3, 3)) rfl rfl
theorem ab_cw17 : Cond.code yX1_codeOfNeg cX1_codeOfNeg 5 (some .long) ∈ ab_BIG := ab_mem (q := (3, 31)) rfl rfl
theorem ab_cw18 : Cond.code yX1_codeOfPair cX1_codeOfPair 9 (some .long) ∈ ab_BIG := ab_mem (q := (3, 40)) rfl rfl
theorem ab_cw19 : Cond.code yX1_codeOfPhi cX1_codeOfPhi 6 (some .long) ∈ ab_BIG := ab_mem (q := (3, 36)) rfl rfl
theorem ab_cw20 : Cond.code yX1_earlier cX1_earlier 4 (some .long) ∈ ab_BIG := ab_mem (q := (3, 8)) rfl rfl
theorem ab_cw21 : Cond.code yX1_isSame cX1_isSame 6 (some .boolean) ∈ ab_BIG := ab_mem (q := (3, 19)) rfl rfl
theorem ab_cw22 : Cond.code yX1_isSameOperand cX1_isSameOperand 6 (some .boolean) ∈ ab_BIG := ab_mem (q := (3, 27)) rfl rfl
theorem ab_cw23 : Cond.code yX2_init cX2_init 1 none ∈ ab_BIG := ab_mem (q := (1, 181)) rfl rfl
theorem ab_cw24 : Cond.code yX2_forget cX2_forget 1 none ∈ ab_BIG := ab_mem (q := (3, 124)) rfl rfl
theorem ab_cw25 : Cond.code yX2_give cX2_give 5 none ∈ ab_BIG := ab_mem (q := (2, 117)) rfl rfl
theorem ab_cw26 : Cond.code yX2_giveBySeed cX2_giveBySeed 4 (some .int) ∈ ab_BIG := ab_mem (q := (3, 106)) rfl rfl
theorem ab_cw27 : Cond.code yX2_watch cX2_watch 3 none ∈ ab_BIG := ab_mem (q := (3, 102)) rfl rfl
theorem ab_cw28 : Cond.code yX2_go cX2_go 5 (some .long) ∈ ab_BIG := ab_mem (q := (2, 121)) rfl rfl
theorem ab_cw29 : Cond.code yX2_nextBlock cX2_nextBlock 5 (some .int) ∈ ab_BIG := ab_mem (q := (2, 155)) rfl rfl
theorem ab_cw30 : Cond.code yX2_pass cX2_pass 6 none ∈ ab_BIG := ab_mem (q := (2, 130)) rfl rfl
theorem ab_cw31 : Cond.code yX2_passPhis cX2_passPhis 7 none ∈ ab_BIG := ab_mem (q := (2, 138)) rfl rfl
theorem ab_cw32 : Cond.code yX2_bringOf cX2_bringOf 5 (some .long) ∈ ab_BIG := ab_mem (q := (2, 146)) rfl rfl
theorem ab_cw33 : Cond.code yX2_compare cX2_compare 1 none ∈ ab_BIG := ab_mem (q := (2, 142)) rfl rfl
theorem ab_cw34 : Cond.code yX3_init cX3_init 1 none ∈ ab_BIG := ab_mem (q := (1, 50)) rfl rfl
theorem ab_cw35 : Cond.code yX3_clear cX3_clear 1 none ∈ ab_BIG := ab_mem (q := (4, 48)) rfl rfl
theorem ab_cw36 : Cond.code yX3_openBlock cX3_openBlock 1 (some .boolean) ∈ ab_BIG := ab_mem (q := (4, 64)) rfl rfl
theorem ab_cw37 : Cond.code yX3_openName cX3_openName 2 (some .boolean) ∈ ab_BIG := ab_mem (q := (4, 76)) rfl rfl
theorem ab_cw38 : Cond.code yX3_putFigure cX3_putFigure 2 none ∈ ab_BIG := ab_mem (q := (4, 89)) rfl rfl
theorem ab_cw39 : Cond.code yX3_putOperand cX3_putOperand 3 none ∈ ab_BIG := ab_mem (q := (4, 97)) rfl rfl
theorem ab_cw40 : Cond.code yX3_putEnd cX3_putEnd 2 none ∈ ab_BIG := ab_mem (q := (4, 105)) rfl rfl
theorem ab_cw41 : Cond.code yX3_putAsked cX3_putAsked 2 none ∈ ab_BIG := ab_mem (q := (4, 109)) rfl rfl
theorem ab_cw42 : Cond.code yX3_putGoal cX3_putGoal 2 none ∈ ab_BIG := ab_mem (q := (4, 113)) rfl rfl
theorem ab_cw43 : Cond.code yX3_putOther cX3_putOther 2 none ∈ ab_BIG := ab_mem (q := (4, 117)) rfl rfl
theorem ab_cw44 : Cond.code yX3_copyFrom cX3_copyFrom 3 none ∈ ab_BIG := ab_mem (q := (3, 115)) rfl rfl
theorem ab_cw45 : Cond.code yX3_hasBlock cX3_hasBlock 2 (some .boolean) ∈ ab_BIG := ab_mem (q := (2, 126)) rfl rfl
theorem ab_cw46 : Cond.code yX3_hasName cX3_hasName 2 (some .boolean) ∈ ab_BIG := ab_mem (q := (2, 81)) rfl rfl
theorem ab_cw47 : Cond.code yX3_hasOperand cX3_hasOperand 3 (some .boolean) ∈ ab_BIG := ab_mem (q := (2, 97)) rfl rfl
theorem ab_cw48 : Cond.code yX3_hasFigure cX3_hasFigure 2 (some .boolean) ∈ ab_BIG := ab_mem (q := (2, 85)) rfl rfl
theorem ab_cw49 : Cond.code yX3_successors cX3_successors 2 (some .int) ∈ ab_BIG := ab_mem (q := (4, 125)) rfl rfl
theorem ab_cw50 : Cond.code yX3_reachOutside cX3_reachOutside 5 (some .int) ∈ ab_BIG := ab_mem (q := (4, 129)) rfl rfl
theorem ab_cw51 : Cond.code yX3_findDominators cX3_findDominators 4 none ∈ ab_BIG := ab_mem (q := (4, 137)) rfl rfl
theorem ab_cw52 : Cond.code yX3_findPreds cX3_findPreds 3 none ∈ ab_BIG := ab_mem (q := (4, 133)) rfl rfl
theorem ab_cw53 : Cond.code yX7_fault cX7_fault 1 (some .int) ∈ ab_BIG := ab_mem (q := (4, 146)) rfl rfl
theorem ab_cw54 : Cond.code yX3_routeFrom cX3_routeFrom 4 (some .int) ∈ ab_BIG := ab_mem (q := (2, 134)) rfl rfl
theorem ab_cw55 : Cond.code yX3_isSeen cX3_isSeen 3 (some .boolean) ∈ ab_BIG := ab_mem (q := (2, 106)) rfl rfl
theorem ab_cw56 : Cond.code yX3_isSeenAtEnd cX3_isSeenAtEnd 3 (some .boolean) ∈ ab_BIG := ab_mem (q := (3, 87)) rfl rfl
theorem ab_cw57 : Cond.code yX3_isSeenByOperand cX3_isSeenByOperand 5 (some .boolean) ∈ ab_BIG := ab_mem (q := (3, 82)) rfl rfl
theorem ab_cw58 : Cond.code yX3_isSound cX3_isSound 3 (some .boolean) ∈ ab_BIG := ab_mem (q := (4, 121)) rfl rfl
theorem ab_cw59 : Cond.code yX3_areOperandsSound cX3_areOperandsSound 4 (some .boolean) ∈ ab_BIG := ab_mem (q := (4, 141)) rfl rfl
theorem ab_cw60 : Cond.code yX3_looksBehind cX3_looksBehind 3 (some .boolean) ∈ ab_BIG := ab_mem (q := (3, 23)) rfl rfl
theorem ab_cw61 : Cond.code yX3_countKind cX3_countKind 4 (some .int) ∈ ab_BIG := ab_mem (q := (2, 69)) rfl rfl
theorem ab_cw62 : Cond.code yX3_countOperands cX3_countOperands 3 (some .int) ∈ ab_BIG := ab_mem (q := (2, 73)) rfl rfl
theorem ab_cw63 : Cond.code yX3_countUses cX3_countUses 5 (some .int) ∈ ab_BIG := ab_mem (q := (2, 89)) rfl rfl
theorem ab_cw64 : Cond.code yX7_fault cX7_fault 1 (some .int) ∈ ab_BIG := ab_mem (q := (4, 146)) rfl rfl
theorem ab_cw65 : Cond.code yX3_exchange cX3_exchange 6 (some .int) ∈ ab_BIG := ab_mem (q := (3, 58)) rfl rfl
theorem ab_cw66 : Cond.code yX3_dropUnneeded cX3_dropUnneeded 3 (some .int) ∈ ab_BIG := ab_mem (q := (3, 66)) rfl rfl
theorem ab_cw67 : Cond.code yX3_findNeeded cX3_findNeeded 3 none ∈ ab_BIG := ab_mem (q := (3, 70)) rfl rfl
theorem ab_cw68 : Cond.code yX3_markOperands cX3_markOperands 3 none ∈ ab_BIG := ab_mem (q := (3, 74)) rfl rfl
theorem ab_cw69 : Cond.code yX4_init cX4_init 1 none ∈ ab_BIG := ab_mem (q := (1, 27)) rfl rfl
theorem ab_cw70 : Cond.code yX4_readText cX4_readText 3 (some .boolean) ∈ ab_BIG := ab_mem (q := (3, 196)) rfl rfl
theorem ab_cw71 : Cond.code yX4_refuse cX4_refuse 2 (some .boolean) ∈ ab_BIG := ab_mem (q := (4, 60)) rfl rfl
theorem ab_cw72 : Cond.code yX4_readLine cX4_readLine 1 (some .boolean) ∈ ab_BIG := ab_mem (q := (4, 52)) rfl rfl
theorem ab_cw73 : Cond.code yX4_readHead cX4_readHead 1 (some .boolean) ∈ ab_BIG := ab_mem (q := (4, 56)) rfl rfl
theorem ab_cw74 : Cond.code yX4_readName cX4_readName 3 (some .boolean) ∈ ab_BIG := ab_mem (q := (4, 72)) rfl rfl
theorem ab_cw75 : Cond.code yX4_readFigure cX4_readFigure 2 (some .boolean) ∈ ab_BIG := ab_mem (q := (4, 80)) rfl rfl
theorem ab_cw76 : Cond.code yX4_readOperands cX4_readOperands 5 (some .boolean) ∈ ab_BIG := ab_mem (q := (4, 93)) rfl rfl
theorem ab_cw77 : Cond.code yX4_readEnd cX4_readEnd 2 (some .boolean) ∈ ab_BIG := ab_mem (q := (4, 101)) rfl rfl
theorem ab_cw78 : Cond.code yX4_takeSemicolon cX4_takeSemicolon 1 (some .boolean) ∈ ab_BIG := ab_mem (q := (4, 68)) rfl rfl
theorem ab_cw79 : Cond.code yX4_takeNumber cX4_takeNumber 3 (some .boolean) ∈ ab_BIG := ab_mem (q := (4, 85)) rfl rfl
theorem ab_cw80 : Cond.code yX4_scan cX4_scan 3 none ∈ ab_BIG := ab_mem (q := (3, 200)) rfl rfl
theorem ab_cw81 : Cond.code yX4_scanToken cX4_scanToken 2 (some .int) ∈ ab_BIG := ab_mem (q := (3, 212)) rfl rfl
theorem ab_cw82 : Cond.code yX4_skip cX4_skip 4 none ∈ ab_BIG := ab_mem (q := (3, 204)) rfl rfl
theorem ab_cw83 : Cond.code yX4_figureFrom cX4_figureFrom 4 (some .int) ∈ ab_BIG := ab_mem (q := (4, 44)) rfl rfl
theorem ab_cw84 : Cond.code yX4_wordFrom cX4_wordFrom 2 (some .int) ∈ ab_BIG := ab_mem (q := (3, 216)) rfl rfl
theorem ab_cw85 : Cond.code yX4_isWord cX4_isWord 4 (some .boolean) ∈ ab_BIG := ab_mem (q := (3, 221)) rfl rfl
theorem ab_cw86 : Cond.code yX5_init cX5_init 2 none ∈ ab_BIG := ab_mem (q := (2, 13)) rfl rfl
theorem ab_cw87 : Cond.code yX7_fault cX7_fault 1 (some .int) ∈ ab_BIG := ab_mem (q := (4, 146)) rfl rfl
theorem ab_cw88 : Cond.code yX7_fault cX7_fault 1 (some .int) ∈ ab_BIG := ab_mem (q := (4, 146)) rfl rfl
theorem ab_cw89 : Cond.code yX7_fault cX7_fault 1 (some .int) ∈ ab_BIG := ab_mem (q := (4, 146)) rfl rfl
theorem ab_cw90 : Cond.code yX7_fault cX7_fault 1 (some .int) ∈ ab_BIG := ab_mem (q := (4, 146)) rfl rfl
theorem ab_cw91 : Cond.code yX7_fault cX7_fault 1 (some .int) ∈ ab_BIG := ab_mem (q := (4, 146)) rfl rfl
theorem ab_cw92 : Cond.code yX6_init cX6_init 1 none ∈ ab_BIG := ab_mem (q := (1, 33)) rfl rfl
theorem ab_cw93 : Cond.code yX6_push cX6_push 2 (some .boolean) ∈ ab_BIG := ab_mem (q := (3, 182)) rfl rfl
theorem ab_cw94 : Cond.code yX6_has cX6_has 4 (some .boolean) ∈ ab_BIG := ab_mem (q := (3, 208)) rfl rfl
theorem ab_cw95 : Cond.code yX7_init cX7_init 2 none ∈ ab_BIG := ab_mem (q := (1, 19)) rfl rfl
theorem ab_cw96 : Cond.code yX7_feed cX7_feed 2 (some .int) ∈ ab_BIG := ab_mem (q := (3, 178)) rfl rfl
theorem ab_cw97 : Cond.code yX7_fault cX7_fault 1 (some .int) ∈ ab_BIG := ab_mem (q := (4, 146)) rfl rfl
theorem ab_cw98 : Cond.code yX7_text cX7_text 3 (some .int) ∈ ab_BIG := ab_mem (q := (3, 192)) rfl rfl
theorem ab_cw99 : Cond.code yX7_fault cX7_fault 1 (some .int) ∈ ab_BIG := ab_mem (q := (4, 146)) rfl rfl
theorem ab_cw100 : Cond.code yX7_rule cX7_rule 2 (some .int) ∈ ab_BIG := ab_mem (q := (2, 65)) rfl rfl
theorem ab_cw101 : Cond.code yX7_fault cX7_fault 1 (some .int) ∈ ab_BIG := ab_mem (q := (4, 146)) rfl rfl
theorem ab_cw102 : Cond.code yX7_fault cX7_fault 1 (some .int) ∈ ab_BIG := ab_mem (q := (4, 146)) rfl rfl
theorem ab_cw103 : Cond.code yX7_name cX7_name 3 (some .int) ∈ ab_BIG := ab_mem (q := (2, 77)) rfl rfl
theorem ab_cw104 : Cond.code yX7_operand cX7_operand 3 (some .int) ∈ ab_BIG := ab_mem (q := (2, 93)) rfl rfl
theorem ab_cw105 : Cond.code yX7_seen cX7_seen 3 (some .int) ∈ ab_BIG := ab_mem (q := (2, 102)) rfl rfl
theorem ab_cw106 : Cond.code yX7_run cX7_run 5 (some .long) ∈ ab_BIG := ab_mem (q := (2, 113)) rfl rfl
theorem ab_cw107 : Cond.code yX7_value cX7_value 2 (some .long) ∈ ab_BIG := ab_mem (q := (2, 159)) rfl rfl
theorem ab_cw108 : Cond.code yX7_went cX7_went 2 (some .int) ∈ ab_BIG := ab_mem (q := (2, 165)) rfl rfl
theorem ab_cw109 : Cond.code yX7_classes cX7_classes 2 (some .int) ∈ ab_BIG := ab_mem (q := (2, 169)) rfl rfl
theorem ab_cw110 : Cond.code yX7_part cX7_part 2 (some .int) ∈ ab_BIG := ab_mem (q := (2, 216)) rfl rfl
theorem ab_cw111 : Cond.code yX7_partAt cX7_partAt 3 (some .int) ∈ ab_BIG := ab_mem (q := (2, 220)) rfl rfl
theorem ab_cw112 : Cond.code yX7_leader cX7_leader 2 (some .int) ∈ ab_BIG := ab_mem (q := (2, 225)) rfl rfl
theorem ab_cw113 : Cond.code yX7_form cX7_form 2 (some .int) ∈ ab_BIG := ab_mem (q := (2, 234)) rfl rfl
theorem ab_cw114 : Cond.code yX7_number cX7_number 2 (some .long) ∈ ab_BIG := ab_mem (q := (3, 45)) rfl rfl
theorem ab_cw115 : Cond.code yX7_replace cX7_replace 2 (some .int) ∈ ab_BIG := ab_mem (q := (3, 54)) rfl rfl
theorem ab_cw116 : Cond.code yX7_sweep cX7_sweep 1 (some .int) ∈ ab_BIG := ab_mem (q := (3, 62)) rfl rfl
theorem ab_cw117 : Cond.code yX7_set cX7_set 5 (some .int) ∈ ab_BIG := ab_mem (q := (3, 78)) rfl rfl
theorem ab_cw118 : Cond.code yX7_alter cX7_alter 4 (some .int) ∈ ab_BIG := ab_mem (q := (3, 91)) rfl rfl
theorem ab_cw119 : Cond.code yX7_agree cX7_agree 9 (some .int) ∈ ab_BIG := ab_mem (q := (3, 98)) rfl rfl
theorem ab_cw120 : Cond.code yX7_keep cX7_keep 3 (some .int) ∈ ab_BIG := ab_mem (q := (3, 111)) rfl rfl
theorem ab_cw121 : Cond.code yX7_back cX7_back 2 (some .int) ∈ ab_BIG := ab_mem (q := (3, 120)) rfl rfl
theorem ab_cw122 : Cond.code yX7_fault cX7_fault 1 (some .int) ∈ ab_BIG := ab_mem (q := (4, 146)) rfl rfl
theorem ab_cw123 : Cond.code yX7_fault cX7_fault 1 (some .int) ∈ ab_BIG := ab_mem (q := (4, 146)) rfl rfl
theorem ab_cw124 : Cond.code yX7_fault cX7_fault 1 (some .int) ∈ ab_BIG := ab_mem (q := (4, 146)) rfl rfl
theorem ab_cw125 : Cond.code yX7_fault cX7_fault 1 (some .int) ∈ ab_BIG := ab_mem (q := (4, 146)) rfl rfl
theorem ab_cw126 : Cond.code yX7_fault cX7_fault 1 (some .int) ∈ ab_BIG := ab_mem (q := (4, 146)) rfl rfl
theorem ab_cw127 : Cond.code yX7_fault cX7_fault 1 (some .int) ∈ ab_BIG := ab_mem (q := (4, 146)) rfl rfl
theorem ab_cw128 : Cond.code yX7_fault cX7_fault 1 (some .int) ∈ ab_BIG := ab_mem (q := (4, 146)) rfl rfl
theorem ab_cw129 : Cond.code yX7_highestFigure cX7_highestFigure 1 (some .int) ∈ ab_BIG := ab_mem (q := (3, 94)) rfl rfl
theorem ab_cw130 : Cond.code yX7_hasBit cX7_hasBit 2 (some .boolean) ∈ ab_BIG := ab_mem (q := (2, 109)) rfl rfl
theorem ab_cw131 : Cond.code yX7_bring cX7_bring 6 (some .long) ∈ ab_BIG := ab_mem (q := (2, 150)) rfl rfl
theorem ab_cw132 : Cond.code yL_part cL_part 2 (some .int) ∈ ab_BIG := ab_mem (q := (3, 127)) rfl rfl
theorem ab_cw133 : Cond.code yL_cell cL_cell 2 (some .int) ∈ ab_BIG := ab_mem (q := (3, 131)) rfl rfl
theorem ab_cw134 : Cond.code yL_says cL_says 3 none ∈ ab_BIG := ab_mem (q := (3, 174)) rfl rfl
theorem ab_cw135 : Cond.code yL_name cL_name 6 none ∈ ab_BIG := ab_mem (q := (3, 171)) rfl rfl
theorem ab_cw136 : Cond.code yL_number cL_number 3 none ∈ ab_BIG := ab_mem (q := (3, 185)) rfl rfl
theorem ab_cw137 : Cond.code yL_ends cL_ends 2 (some .int) ∈ ab_BIG := ab_mem (q := (3, 188)) rfl rfl
theorem ab_cw138 : Cond.code yL_line cL_line 3 none ∈ ab_BIG := ab_mem (q := (3, 156)) rfl rfl
theorem ab_cw139 : Cond.code yL_shape cL_shape 3 (some .int) ∈ ab_BIG := ab_mem (q := (3, 138)) rfl rfl
theorem ab_cw140 : Cond.code yL_over cL_over 3 (some .boolean) ∈ ab_BIG := ab_mem (q := (3, 147)) rfl rfl
theorem ab_cw141 : Cond.code yL_seen cL_seen 4 (some .boolean) ∈ ab_BIG := ab_mem (q := (3, 150)) rfl rfl
theorem ab_cw142 : Cond.code yL_may cL_may 6 (some .boolean) ∈ ab_BIG := ab_mem (q := (3, 144)) rfl rfl
theorem ab_cw143 : Cond.code yL_pick cL_pick 9 (some .int) ∈ ab_BIG := ab_mem (q := (3, 141)) rfl rfl
theorem ab_cw144 : Cond.code yL_atEnd cL_atEnd 7 (some .int) ∈ ab_BIG := ab_mem (q := (3, 153)) rfl rfl
theorem ab_cw145 : Cond.code yL_program cL_program 16 (some .boolean) ∈ ab_BIG := ab_mem (q := (3, 135)) rfl rfl
theorem ab_CW_0_1 : ∀ mi, 0 ≤ mi → mi < 1 → Cond.code (ab_nm mi) (ab_by mi) (ab_mxl mi) (ab_rt mi) ∈ ab_BIG := fun mi h1 h2 => by
  have e : mi = 0 := by omega
  subst e
  exact ab_cw0
theorem ab_CW_1_2 : ∀ mi, 1 ≤ mi → mi < 2 → Cond.code (ab_nm mi) (ab_by mi) (ab_mxl mi) (ab_rt mi) ∈ ab_BIG := fun mi h1 h2 => by
  have e : mi = 1 := by omega
  subst e
  exact ab_cw1
theorem ab_CW_0_2 : ∀ mi, 0 ≤ mi → mi < 2 → Cond.code (ab_nm mi) (ab_by mi) (ab_mxl mi) (ab_rt mi) ∈ ab_BIG := fun mi h1 h2 => (Nat.lt_or_ge mi 1).elim (fun h => ab_CW_0_1 mi h1 h) (fun h => ab_CW_1_2 mi h h2)
theorem ab_CW_2_3 : ∀ mi, 2 ≤ mi → mi < 3 → Cond.code (ab_nm mi) (ab_by mi) (ab_mxl mi) (ab_rt mi) ∈ ab_BIG := fun mi h1 h2 => by
  have e : mi = 2 := by omega
  subst e
  exact ab_cw2
theorem ab_CW_3_4 : ∀ mi, 3 ≤ mi → mi < 4 → Cond.code (ab_nm mi) (ab_by mi) (ab_mxl mi) (ab_rt mi) ∈ ab_BIG := fun mi h1 h2 => by
  have e : mi = 3 := by omega
  subst e
  exact ab_cw3
theorem ab_CW_2_4 : ∀ mi, 2 ≤ mi → mi < 4 → Cond.code (ab_nm mi) (ab_by mi) (ab_mxl mi) (ab_rt mi) ∈ ab_BIG := fun mi h1 h2 => (Nat.lt_or_ge mi 3).elim (fun h => ab_CW_2_3 mi h1 h) (fun h => ab_CW_3_4 mi h h2)
theorem ab_CW_0_4 : ∀ mi, 0 ≤ mi → mi < 4 → Cond.code (ab_nm mi) (ab_by mi) (ab_mxl mi) (ab_rt mi) ∈ ab_BIG := fun mi h1 h2 => (Nat.lt_or_ge mi 2).elim (fun h => ab_CW_0_2 mi h1 h) (fun h => ab_CW_2_4 mi h h2)
theorem ab_CW_4_5 : ∀ mi, 4 ≤ mi → mi < 5 → Cond.code (ab_nm mi) (ab_by mi) (ab_mxl mi) (ab_rt mi) ∈ ab_BIG := fun mi h1 h2 => by
  have e : mi = 4 := by omega
  subst e
  exact ab_cw4
theorem ab_CW_5_6 : ∀ mi, 5 ≤ mi → mi < 6 → Cond.code (ab_nm mi) (ab_by mi) (ab_mxl mi) (ab_rt mi) ∈ ab_BIG := fun mi h1 h2 => by
  have e : mi = 5 := by omega
  subst e
  exact ab_cw5
theorem ab_CW_4_6 : ∀ mi, 4 ≤ mi → mi < 6 → Cond.code (ab_nm mi) (ab_by mi) (ab_mxl mi) (ab_rt mi) ∈ ab_BIG := fun mi h1 h2 => (Nat.lt_or_ge mi 5).elim (fun h => ab_CW_4_5 mi h1 h) (fun h => ab_CW_5_6 mi h h2)
theorem ab_CW_6_7 : ∀ mi, 6 ≤ mi → mi < 7 → Cond.code (ab_nm mi) (ab_by mi) (ab_mxl mi) (ab_rt mi) ∈ ab_BIG := fun mi h1 h2 => by
  have e : mi = 6 := by omega
  subst e
  exact ab_cw6
theorem ab_CW_7_8 : ∀ mi, 7 ≤ mi → mi < 8 → Cond.code (ab_nm mi) (ab_by mi) (ab_mxl mi) (ab_rt mi) ∈ ab_BIG := fun mi h1 h2 => by
  have e : mi = 7 := by omega
  subst e
  exact ab_cw7
theorem ab_CW_8_9 : ∀ mi, 8 ≤ mi → mi < 9 → Cond.code (ab_nm mi) (ab_by mi) (ab_mxl mi) (ab_rt mi) ∈ ab_BIG := fun mi h1 h2 => by
  have e : mi = 8 := by omega
  subst e
  exact ab_cw8
theorem ab_CW_7_9 : ∀ mi, 7 ≤ mi → mi < 9 → Cond.code (ab_nm mi) (ab_by mi) (ab_mxl mi) (ab_rt mi) ∈ ab_BIG := fun mi h1 h2 => (Nat.lt_or_ge mi 8).elim (fun h => ab_CW_7_8 mi h1 h) (fun h => ab_CW_8_9 mi h h2)
theorem ab_CW_6_9 : ∀ mi, 6 ≤ mi → mi < 9 → Cond.code (ab_nm mi) (ab_by mi) (ab_mxl mi) (ab_rt mi) ∈ ab_BIG := fun mi h1 h2 => (Nat.lt_or_ge mi 7).elim (fun h => ab_CW_6_7 mi h1 h) (fun h => ab_CW_7_9 mi h h2)
theorem ab_CW_4_9 : ∀ mi, 4 ≤ mi → mi < 9 → Cond.code (ab_nm mi) (ab_by mi) (ab_mxl mi) (ab_rt mi) ∈ ab_BIG := fun mi h1 h2 => (Nat.lt_or_ge mi 6).elim (fun h => ab_CW_4_6 mi h1 h) (fun h => ab_CW_6_9 mi h h2)
theorem ab_CW_0_9 : ∀ mi, 0 ≤ mi → mi < 9 → Cond.code (ab_nm mi) (ab_by mi) (ab_mxl mi) (ab_rt mi) ∈ ab_BIG := fun mi h1 h2 => (Nat.lt_or_ge mi 4).elim (fun h => ab_CW_0_4 mi h1 h) (fun h => ab_CW_4_9 mi h h2)
theorem ab_CW_9_10 : ∀ mi, 9 ≤ mi → mi < 10 → Cond.code (ab_nm mi) (ab_by mi) (ab_mxl mi) (ab_rt mi) ∈ ab_BIG := fun mi h1 h2 => by
  have e : mi = 9 := by omega
  subst e
  exact ab_cw9
theorem ab_CW_10_11 : ∀ mi, 10 ≤ mi → mi < 11 → Cond.code (ab_nm mi) (ab_by mi) (ab_mxl mi) (ab_rt mi) ∈ ab_BIG := fun mi h1 h2 => by
  have e : mi = 10 := by omega
  subst e
  exact ab_cw10
theorem ab_CW_9_11 : ∀ mi, 9 ≤ mi → mi < 11 → Cond.code (ab_nm mi) (ab_by mi) (ab_mxl mi) (ab_rt mi) ∈ ab_BIG := fun mi h1 h2 => (Nat.lt_or_ge mi 10).elim (fun h => ab_CW_9_10 mi h1 h) (fun h => ab_CW_10_11 mi h h2)
theorem ab_CW_11_12 : ∀ mi, 11 ≤ mi → mi < 12 → Cond.code (ab_nm mi) (ab_by mi) (ab_mxl mi) (ab_rt mi) ∈ ab_BIG := fun mi h1 h2 => by
  have e : mi = 11 := by omega
  subst e
  exact ab_cw11
theorem ab_CW_12_13 : ∀ mi, 12 ≤ mi → mi < 13 → Cond.code (ab_nm mi) (ab_by mi) (ab_mxl mi) (ab_rt mi) ∈ ab_BIG := fun mi h1 h2 => by
  have e : mi = 12 := by omega
  subst e
  exact ab_cw12
theorem ab_CW_11_13 : ∀ mi, 11 ≤ mi → mi < 13 → Cond.code (ab_nm mi) (ab_by mi) (ab_mxl mi) (ab_rt mi) ∈ ab_BIG := fun mi h1 h2 => (Nat.lt_or_ge mi 12).elim (fun h => ab_CW_11_12 mi h1 h) (fun h => ab_CW_12_13 mi h h2)
theorem ab_CW_9_13 : ∀ mi, 9 ≤ mi → mi < 13 → Cond.code (ab_nm mi) (ab_by mi) (ab_mxl mi) (ab_rt mi) ∈ ab_BIG := fun mi h1 h2 => (Nat.lt_or_ge mi 11).elim (fun h => ab_CW_9_11 mi h1 h) (fun h => ab_CW_11_13 mi h h2)
theorem ab_CW_13_14 : ∀ mi, 13 ≤ mi → mi < 14 → Cond.code (ab_nm mi) (ab_by mi) (ab_mxl mi) (ab_rt mi) ∈ ab_BIG := fun mi h1 h2 => by
  have e : mi = 13 := by omega
  subst e
  exact ab_cw13
theorem ab_CW_14_15 : ∀ mi, 14 ≤ mi → mi < 15 → Cond.code (ab_nm mi) (ab_by mi) (ab_mxl mi) (ab_rt mi) ∈ ab_BIG := fun mi h1 h2 => by
  have e : mi = 14 := by omega
  subst e
  exact ab_cw14
theorem ab_CW_13_15 : ∀ mi, 13 ≤ mi → mi < 15 → Cond.code (ab_nm mi) (ab_by mi) (ab_mxl mi) (ab_rt mi) ∈ ab_BIG := fun mi h1 h2 => (Nat.lt_or_ge mi 14).elim (fun h => ab_CW_13_14 mi h1 h) (fun h => ab_CW_14_15 mi h h2)
theorem ab_CW_15_16 : ∀ mi, 15 ≤ mi → mi < 16 → Cond.code (ab_nm mi) (ab_by mi) (ab_mxl mi) (ab_rt mi) ∈ ab_BIG := fun mi h1 h2 => by
  have e : mi = 15 := by omega
  subst e
  exact ab_cw15
theorem ab_CW_16_17 : ∀ mi, 16 ≤ mi → mi < 17 → Cond.code (ab_nm mi) (ab_by mi) (ab_mxl mi) (ab_rt mi) ∈ ab_BIG := fun mi h1 h2 => by
  have e : mi = 16 := by omega
  subst e
  exact ab_cw16
theorem ab_CW_17_18 : ∀ mi, 17 ≤ mi → mi < 18 → Cond.code (ab_nm mi) (ab_by mi) (ab_mxl mi) (ab_rt mi) ∈ ab_BIG := fun mi h1 h2 => by
  have e : mi = 17 := by omega
  subst e
  exact ab_cw17
theorem ab_CW_16_18 : ∀ mi, 16 ≤ mi → mi < 18 → Cond.code (ab_nm mi) (ab_by mi) (ab_mxl mi) (ab_rt mi) ∈ ab_BIG := fun mi h1 h2 => (Nat.lt_or_ge mi 17).elim (fun h => ab_CW_16_17 mi h1 h) (fun h => ab_CW_17_18 mi h h2)
theorem ab_CW_15_18 : ∀ mi, 15 ≤ mi → mi < 18 → Cond.code (ab_nm mi) (ab_by mi) (ab_mxl mi) (ab_rt mi) ∈ ab_BIG := fun mi h1 h2 => (Nat.lt_or_ge mi 16).elim (fun h => ab_CW_15_16 mi h1 h) (fun h => ab_CW_16_18 mi h h2)
theorem ab_CW_13_18 : ∀ mi, 13 ≤ mi → mi < 18 → Cond.code (ab_nm mi) (ab_by mi) (ab_mxl mi) (ab_rt mi) ∈ ab_BIG := fun mi h1 h2 => (Nat.lt_or_ge mi 15).elim (fun h => ab_CW_13_15 mi h1 h) (fun h => ab_CW_15_18 mi h h2)
theorem ab_CW_9_18 : ∀ mi, 9 ≤ mi → mi < 18 → Cond.code (ab_nm mi) (ab_by mi) (ab_mxl mi) (ab_rt mi) ∈ ab_BIG := fun mi h1 h2 => (Nat.lt_or_ge mi 13).elim (fun h => ab_CW_9_13 mi h1 h) (fun h => ab_CW_13_18 mi h h2)
theorem ab_CW_0_18 : ∀ mi, 0 ≤ mi → mi < 18 → Cond.code (ab_nm mi) (ab_by mi) (ab_mxl mi) (ab_rt mi) ∈ ab_BIG := fun mi h1 h2 => (Nat.lt_or_ge mi 9).elim (fun h => ab_CW_0_9 mi h1 h) (fun h => ab_CW_9_18 mi h h2)
theorem ab_CW_18_19 : ∀ mi, 18 ≤ mi → mi < 19 → Cond.code (ab_nm mi) (ab_by mi) (ab_mxl mi) (ab_rt mi) ∈ ab_BIG := fun mi h1 h2 => by
  have e : mi = 18 := by omega
  subst e
  exact ab_cw18
theorem ab_CW_19_20 : ∀ mi, 19 ≤ mi → mi < 20 → Cond.code (ab_nm mi) (ab_by mi) (ab_mxl mi) (ab_rt mi) ∈ ab_BIG := fun mi h1 h2 => by
  have e : mi = 19 := by omega
  subst e
  exact ab_cw19
theorem ab_CW_18_20 : ∀ mi, 18 ≤ mi → mi < 20 → Cond.code (ab_nm mi) (ab_by mi) (ab_mxl mi) (ab_rt mi) ∈ ab_BIG := fun mi h1 h2 => (Nat.lt_or_ge mi 19).elim (fun h => ab_CW_18_19 mi h1 h) (fun h => ab_CW_19_20 mi h h2)
theorem ab_CW_20_21 : ∀ mi, 20 ≤ mi → mi < 21 → Cond.code (ab_nm mi) (ab_by mi) (ab_mxl mi) (ab_rt mi) ∈ ab_BIG := fun mi h1 h2 => by
  have e : mi = 20 := by omega
  subst e
  exact ab_cw20
theorem ab_CW_21_22 : ∀ mi, 21 ≤ mi → mi < 22 → Cond.code (ab_nm mi) (ab_by mi) (ab_mxl mi) (ab_rt mi) ∈ ab_BIG := fun mi h1 h2 => by
  have e : mi = 21 := by omega
  subst e
  exact ab_cw21
theorem ab_CW_20_22 : ∀ mi, 20 ≤ mi → mi < 22 → Cond.code (ab_nm mi) (ab_by mi) (ab_mxl mi) (ab_rt mi) ∈ ab_BIG := fun mi h1 h2 => (Nat.lt_or_ge mi 21).elim (fun h => ab_CW_20_21 mi h1 h) (fun h => ab_CW_21_22 mi h h2)
theorem ab_CW_18_22 : ∀ mi, 18 ≤ mi → mi < 22 → Cond.code (ab_nm mi) (ab_by mi) (ab_mxl mi) (ab_rt mi) ∈ ab_BIG := fun mi h1 h2 => (Nat.lt_or_ge mi 20).elim (fun h => ab_CW_18_20 mi h1 h) (fun h => ab_CW_20_22 mi h h2)
theorem ab_CW_22_23 : ∀ mi, 22 ≤ mi → mi < 23 → Cond.code (ab_nm mi) (ab_by mi) (ab_mxl mi) (ab_rt mi) ∈ ab_BIG := fun mi h1 h2 => by
  have e : mi = 22 := by omega
  subst e
  exact ab_cw22
theorem ab_CW_23_24 : ∀ mi, 23 ≤ mi → mi < 24 → Cond.code (ab_nm mi) (ab_by mi) (ab_mxl mi) (ab_rt mi) ∈ ab_BIG := fun mi h1 h2 => by
  have e : mi = 23 := by omega
  subst e
  exact ab_cw23
theorem ab_CW_22_24 : ∀ mi, 22 ≤ mi → mi < 24 → Cond.code (ab_nm mi) (ab_by mi) (ab_mxl mi) (ab_rt mi) ∈ ab_BIG := fun mi h1 h2 => (Nat.lt_or_ge mi 23).elim (fun h => ab_CW_22_23 mi h1 h) (fun h => ab_CW_23_24 mi h h2)
theorem ab_CW_24_25 : ∀ mi, 24 ≤ mi → mi < 25 → Cond.code (ab_nm mi) (ab_by mi) (ab_mxl mi) (ab_rt mi) ∈ ab_BIG := fun mi h1 h2 => by
  have e : mi = 24 := by omega
  subst e
  exact ab_cw24
theorem ab_CW_25_26 : ∀ mi, 25 ≤ mi → mi < 26 → Cond.code (ab_nm mi) (ab_by mi) (ab_mxl mi) (ab_rt mi) ∈ ab_BIG := fun mi h1 h2 => by
  have e : mi = 25 := by omega
  subst e
  exact ab_cw25
theorem ab_CW_26_27 : ∀ mi, 26 ≤ mi → mi < 27 → Cond.code (ab_nm mi) (ab_by mi) (ab_mxl mi) (ab_rt mi) ∈ ab_BIG := fun mi h1 h2 => by
  have e : mi = 26 := by omega
  subst e
  exact ab_cw26
theorem ab_CW_25_27 : ∀ mi, 25 ≤ mi → mi < 27 → Cond.code (ab_nm mi) (ab_by mi) (ab_mxl mi) (ab_rt mi) ∈ ab_BIG := fun mi h1 h2 => (Nat.lt_or_ge mi 26).elim (fun h => ab_CW_25_26 mi h1 h) (fun h => ab_CW_26_27 mi h h2)
theorem ab_CW_24_27 : ∀ mi, 24 ≤ mi → mi < 27 → Cond.code (ab_nm mi) (ab_by mi) (ab_mxl mi) (ab_rt mi) ∈ ab_BIG := fun mi h1 h2 => (Nat.lt_or_ge mi 25).elim (fun h => ab_CW_24_25 mi h1 h) (fun h => ab_CW_25_27 mi h h2)
theorem ab_CW_22_27 : ∀ mi, 22 ≤ mi → mi < 27 → Cond.code (ab_nm mi) (ab_by mi) (ab_mxl mi) (ab_rt mi) ∈ ab_BIG := fun mi h1 h2 => (Nat.lt_or_ge mi 24).elim (fun h => ab_CW_22_24 mi h1 h) (fun h => ab_CW_24_27 mi h h2)
theorem ab_CW_18_27 : ∀ mi, 18 ≤ mi → mi < 27 → Cond.code (ab_nm mi) (ab_by mi) (ab_mxl mi) (ab_rt mi) ∈ ab_BIG := fun mi h1 h2 => (Nat.lt_or_ge mi 22).elim (fun h => ab_CW_18_22 mi h1 h) (fun h => ab_CW_22_27 mi h h2)
theorem ab_CW_27_28 : ∀ mi, 27 ≤ mi → mi < 28 → Cond.code (ab_nm mi) (ab_by mi) (ab_mxl mi) (ab_rt mi) ∈ ab_BIG := fun mi h1 h2 => by
  have e : mi = 27 := by omega
  subst e
  exact ab_cw27
theorem ab_CW_28_29 : ∀ mi, 28 ≤ mi → mi < 29 → Cond.code (ab_nm mi) (ab_by mi) (ab_mxl mi) (ab_rt mi) ∈ ab_BIG := fun mi h1 h2 => by
  have e : mi = 28 := by omega
  subst e
  exact ab_cw28
theorem ab_CW_27_29 : ∀ mi, 27 ≤ mi → mi < 29 → Cond.code (ab_nm mi) (ab_by mi) (ab_mxl mi) (ab_rt mi) ∈ ab_BIG := fun mi h1 h2 => (Nat.lt_or_ge mi 28).elim (fun h => ab_CW_27_28 mi h1 h) (fun h => ab_CW_28_29 mi h h2)
theorem ab_CW_29_30 : ∀ mi, 29 ≤ mi → mi < 30 → Cond.code (ab_nm mi) (ab_by mi) (ab_mxl mi) (ab_rt mi) ∈ ab_BIG := fun mi h1 h2 => by
  have e : mi = 29 := by omega
  subst e
  exact ab_cw29
theorem ab_CW_30_31 : ∀ mi, 30 ≤ mi → mi < 31 → Cond.code (ab_nm mi) (ab_by mi) (ab_mxl mi) (ab_rt mi) ∈ ab_BIG := fun mi h1 h2 => by
  have e : mi = 30 := by omega
  subst e
  exact ab_cw30
theorem ab_CW_29_31 : ∀ mi, 29 ≤ mi → mi < 31 → Cond.code (ab_nm mi) (ab_by mi) (ab_mxl mi) (ab_rt mi) ∈ ab_BIG := fun mi h1 h2 => (Nat.lt_or_ge mi 30).elim (fun h => ab_CW_29_30 mi h1 h) (fun h => ab_CW_30_31 mi h h2)
theorem ab_CW_27_31 : ∀ mi, 27 ≤ mi → mi < 31 → Cond.code (ab_nm mi) (ab_by mi) (ab_mxl mi) (ab_rt mi) ∈ ab_BIG := fun mi h1 h2 => (Nat.lt_or_ge mi 29).elim (fun h => ab_CW_27_29 mi h1 h) (fun h => ab_CW_29_31 mi h h2)
theorem ab_CW_31_32 : ∀ mi, 31 ≤ mi → mi < 32 → Cond.code (ab_nm mi) (ab_by mi) (ab_mxl mi) (ab_rt mi) ∈ ab_BIG := fun mi h1 h2 => by
  have e : mi = 31 := by omega
  subst e
  exact ab_cw31
theorem ab_CW_32_33 : ∀ mi, 32 ≤ mi → mi < 33 → Cond.code (ab_nm mi) (ab_by mi) (ab_mxl mi) (ab_rt mi) ∈ ab_BIG := fun mi h1 h2 => by
  have e : mi = 32 := by omega
  subst e
  exact ab_cw32
theorem ab_CW_31_33 : ∀ mi, 31 ≤ mi → mi < 33 → Cond.code (ab_nm mi) (ab_by mi) (ab_mxl mi) (ab_rt mi) ∈ ab_BIG := fun mi h1 h2 => (Nat.lt_or_ge mi 32).elim (fun h => ab_CW_31_32 mi h1 h) (fun h => ab_CW_32_33 mi h h2)
theorem ab_CW_33_34 : ∀ mi, 33 ≤ mi → mi < 34 → Cond.code (ab_nm mi) (ab_by mi) (ab_mxl mi) (ab_rt mi) ∈ ab_BIG := fun mi h1 h2 => by
  have e : mi = 33 := by omega
  subst e
  exact ab_cw33
theorem ab_CW_34_35 : ∀ mi, 34 ≤ mi → mi < 35 → Cond.code (ab_nm mi) (ab_by mi) (ab_mxl mi) (ab_rt mi) ∈ ab_BIG := fun mi h1 h2 => by
  have e : mi = 34 := by omega
  subst e
  exact ab_cw34
theorem ab_CW_35_36 : ∀ mi, 35 ≤ mi → mi < 36 → Cond.code (ab_nm mi) (ab_by mi) (ab_mxl mi) (ab_rt mi) ∈ ab_BIG := fun mi h1 h2 => by
  have e : mi = 35 := by omega
  subst e
  exact ab_cw35
theorem ab_CW_34_36 : ∀ mi, 34 ≤ mi → mi < 36 → Cond.code (ab_nm mi) (ab_by mi) (ab_mxl mi) (ab_rt mi) ∈ ab_BIG := fun mi h1 h2 => (Nat.lt_or_ge mi 35).elim (fun h => ab_CW_34_35 mi h1 h) (fun h => ab_CW_35_36 mi h h2)
theorem ab_CW_33_36 : ∀ mi, 33 ≤ mi → mi < 36 → Cond.code (ab_nm mi) (ab_by mi) (ab_mxl mi) (ab_rt mi) ∈ ab_BIG := fun mi h1 h2 => (Nat.lt_or_ge mi 34).elim (fun h => ab_CW_33_34 mi h1 h) (fun h => ab_CW_34_36 mi h h2)
theorem ab_CW_31_36 : ∀ mi, 31 ≤ mi → mi < 36 → Cond.code (ab_nm mi) (ab_by mi) (ab_mxl mi) (ab_rt mi) ∈ ab_BIG := fun mi h1 h2 => (Nat.lt_or_ge mi 33).elim (fun h => ab_CW_31_33 mi h1 h) (fun h => ab_CW_33_36 mi h h2)
theorem ab_CW_27_36 : ∀ mi, 27 ≤ mi → mi < 36 → Cond.code (ab_nm mi) (ab_by mi) (ab_mxl mi) (ab_rt mi) ∈ ab_BIG := fun mi h1 h2 => (Nat.lt_or_ge mi 31).elim (fun h => ab_CW_27_31 mi h1 h) (fun h => ab_CW_31_36 mi h h2)
theorem ab_CW_18_36 : ∀ mi, 18 ≤ mi → mi < 36 → Cond.code (ab_nm mi) (ab_by mi) (ab_mxl mi) (ab_rt mi) ∈ ab_BIG := fun mi h1 h2 => (Nat.lt_or_ge mi 27).elim (fun h => ab_CW_18_27 mi h1 h) (fun h => ab_CW_27_36 mi h h2)
theorem ab_CW_0_36 : ∀ mi, 0 ≤ mi → mi < 36 → Cond.code (ab_nm mi) (ab_by mi) (ab_mxl mi) (ab_rt mi) ∈ ab_BIG := fun mi h1 h2 => (Nat.lt_or_ge mi 18).elim (fun h => ab_CW_0_18 mi h1 h) (fun h => ab_CW_18_36 mi h h2)
theorem ab_CW_36_37 : ∀ mi, 36 ≤ mi → mi < 37 → Cond.code (ab_nm mi) (ab_by mi) (ab_mxl mi) (ab_rt mi) ∈ ab_BIG := fun mi h1 h2 => by
  have e : mi = 36 := by omega
  subst e
  exact ab_cw36
theorem ab_CW_37_38 : ∀ mi, 37 ≤ mi → mi < 38 → Cond.code (ab_nm mi) (ab_by mi) (ab_mxl mi) (ab_rt mi) ∈ ab_BIG := fun mi h1 h2 => by
  have e : mi = 37 := by omega
  subst e
  exact ab_cw37
theorem ab_CW_36_38 : ∀ mi, 36 ≤ mi → mi < 38 → Cond.code (ab_nm mi) (ab_by mi) (ab_mxl mi) (ab_rt mi) ∈ ab_BIG := fun mi h1 h2 => (Nat.lt_or_ge mi 37).elim (fun h => ab_CW_36_37 mi h1 h) (fun h => ab_CW_37_38 mi h h2)
theorem ab_CW_38_39 : ∀ mi, 38 ≤ mi → mi < 39 → Cond.code (ab_nm mi) (ab_by mi) (ab_mxl mi) (ab_rt mi) ∈ ab_BIG := fun mi h1 h2 => by
  have e : mi = 38 := by omega
  subst e
  exact ab_cw38
theorem ab_CW_39_40 : ∀ mi, 39 ≤ mi → mi < 40 → Cond.code (ab_nm mi) (ab_by mi) (ab_mxl mi) (ab_rt mi) ∈ ab_BIG := fun mi h1 h2 => by
  have e : mi = 39 := by omega
  subst e
  exact ab_cw39
theorem ab_CW_38_40 : ∀ mi, 38 ≤ mi → mi < 40 → Cond.code (ab_nm mi) (ab_by mi) (ab_mxl mi) (ab_rt mi) ∈ ab_BIG := fun mi h1 h2 => (Nat.lt_or_ge mi 39).elim (fun h => ab_CW_38_39 mi h1 h) (fun h => ab_CW_39_40 mi h h2)
theorem ab_CW_36_40 : ∀ mi, 36 ≤ mi → mi < 40 → Cond.code (ab_nm mi) (ab_by mi) (ab_mxl mi) (ab_rt mi) ∈ ab_BIG := fun mi h1 h2 => (Nat.lt_or_ge mi 38).elim (fun h => ab_CW_36_38 mi h1 h) (fun h => ab_CW_38_40 mi h h2)
theorem ab_CW_40_41 : ∀ mi, 40 ≤ mi → mi < 41 → Cond.code (ab_nm mi) (ab_by mi) (ab_mxl mi) (ab_rt mi) ∈ ab_BIG := fun mi h1 h2 => by
  have e : mi = 40 := by omega
  subst e
  exact ab_cw40
theorem ab_CW_41_42 : ∀ mi, 41 ≤ mi → mi < 42 → Cond.code (ab_nm mi) (ab_by mi) (ab_mxl mi) (ab_rt mi) ∈ ab_BIG := fun mi h1 h2 => by
  have e : mi = 41 := by omega
  subst e
  exact ab_cw41
theorem ab_CW_40_42 : ∀ mi, 40 ≤ mi → mi < 42 → Cond.code (ab_nm mi) (ab_by mi) (ab_mxl mi) (ab_rt mi) ∈ ab_BIG := fun mi h1 h2 => (Nat.lt_or_ge mi 41).elim (fun h => ab_CW_40_41 mi h1 h) (fun h => ab_CW_41_42 mi h h2)
theorem ab_CW_42_43 : ∀ mi, 42 ≤ mi → mi < 43 → Cond.code (ab_nm mi) (ab_by mi) (ab_mxl mi) (ab_rt mi) ∈ ab_BIG := fun mi h1 h2 => by
  have e : mi = 42 := by omega
  subst e
  exact ab_cw42
theorem ab_CW_43_44 : ∀ mi, 43 ≤ mi → mi < 44 → Cond.code (ab_nm mi) (ab_by mi) (ab_mxl mi) (ab_rt mi) ∈ ab_BIG := fun mi h1 h2 => by
  have e : mi = 43 := by omega
  subst e
  exact ab_cw43
theorem ab_CW_44_45 : ∀ mi, 44 ≤ mi → mi < 45 → Cond.code (ab_nm mi) (ab_by mi) (ab_mxl mi) (ab_rt mi) ∈ ab_BIG := fun mi h1 h2 => by
  have e : mi = 44 := by omega
  subst e
  exact ab_cw44
theorem ab_CW_43_45 : ∀ mi, 43 ≤ mi → mi < 45 → Cond.code (ab_nm mi) (ab_by mi) (ab_mxl mi) (ab_rt mi) ∈ ab_BIG := fun mi h1 h2 => (Nat.lt_or_ge mi 44).elim (fun h => ab_CW_43_44 mi h1 h) (fun h => ab_CW_44_45 mi h h2)
theorem ab_CW_42_45 : ∀ mi, 42 ≤ mi → mi < 45 → Cond.code (ab_nm mi) (ab_by mi) (ab_mxl mi) (ab_rt mi) ∈ ab_BIG := fun mi h1 h2 => (Nat.lt_or_ge mi 43).elim (fun h => ab_CW_42_43 mi h1 h) (fun h => ab_CW_43_45 mi h h2)
theorem ab_CW_40_45 : ∀ mi, 40 ≤ mi → mi < 45 → Cond.code (ab_nm mi) (ab_by mi) (ab_mxl mi) (ab_rt mi) ∈ ab_BIG := fun mi h1 h2 => (Nat.lt_or_ge mi 42).elim (fun h => ab_CW_40_42 mi h1 h) (fun h => ab_CW_42_45 mi h h2)
theorem ab_CW_36_45 : ∀ mi, 36 ≤ mi → mi < 45 → Cond.code (ab_nm mi) (ab_by mi) (ab_mxl mi) (ab_rt mi) ∈ ab_BIG := fun mi h1 h2 => (Nat.lt_or_ge mi 40).elim (fun h => ab_CW_36_40 mi h1 h) (fun h => ab_CW_40_45 mi h h2)
theorem ab_CW_45_46 : ∀ mi, 45 ≤ mi → mi < 46 → Cond.code (ab_nm mi) (ab_by mi) (ab_mxl mi) (ab_rt mi) ∈ ab_BIG := fun mi h1 h2 => by
  have e : mi = 45 := by omega
  subst e
  exact ab_cw45
theorem ab_CW_46_47 : ∀ mi, 46 ≤ mi → mi < 47 → Cond.code (ab_nm mi) (ab_by mi) (ab_mxl mi) (ab_rt mi) ∈ ab_BIG := fun mi h1 h2 => by
  have e : mi = 46 := by omega
  subst e
  exact ab_cw46
theorem ab_CW_45_47 : ∀ mi, 45 ≤ mi → mi < 47 → Cond.code (ab_nm mi) (ab_by mi) (ab_mxl mi) (ab_rt mi) ∈ ab_BIG := fun mi h1 h2 => (Nat.lt_or_ge mi 46).elim (fun h => ab_CW_45_46 mi h1 h) (fun h => ab_CW_46_47 mi h h2)
theorem ab_CW_47_48 : ∀ mi, 47 ≤ mi → mi < 48 → Cond.code (ab_nm mi) (ab_by mi) (ab_mxl mi) (ab_rt mi) ∈ ab_BIG := fun mi h1 h2 => by
  have e : mi = 47 := by omega
  subst e
  exact ab_cw47
theorem ab_CW_48_49 : ∀ mi, 48 ≤ mi → mi < 49 → Cond.code (ab_nm mi) (ab_by mi) (ab_mxl mi) (ab_rt mi) ∈ ab_BIG := fun mi h1 h2 => by
  have e : mi = 48 := by omega
  subst e
  exact ab_cw48
theorem ab_CW_47_49 : ∀ mi, 47 ≤ mi → mi < 49 → Cond.code (ab_nm mi) (ab_by mi) (ab_mxl mi) (ab_rt mi) ∈ ab_BIG := fun mi h1 h2 => (Nat.lt_or_ge mi 48).elim (fun h => ab_CW_47_48 mi h1 h) (fun h => ab_CW_48_49 mi h h2)
theorem ab_CW_45_49 : ∀ mi, 45 ≤ mi → mi < 49 → Cond.code (ab_nm mi) (ab_by mi) (ab_mxl mi) (ab_rt mi) ∈ ab_BIG := fun mi h1 h2 => (Nat.lt_or_ge mi 47).elim (fun h => ab_CW_45_47 mi h1 h) (fun h => ab_CW_47_49 mi h h2)
theorem ab_CW_49_50 : ∀ mi, 49 ≤ mi → mi < 50 → Cond.code (ab_nm mi) (ab_by mi) (ab_mxl mi) (ab_rt mi) ∈ ab_BIG := fun mi h1 h2 => by
  have e : mi = 49 := by omega
  subst e
  exact ab_cw49
theorem ab_CW_50_51 : ∀ mi, 50 ≤ mi → mi < 51 → Cond.code (ab_nm mi) (ab_by mi) (ab_mxl mi) (ab_rt mi) ∈ ab_BIG := fun mi h1 h2 => by
  have e : mi = 50 := by omega
  subst e
  exact ab_cw50
theorem ab_CW_49_51 : ∀ mi, 49 ≤ mi → mi < 51 → Cond.code (ab_nm mi) (ab_by mi) (ab_mxl mi) (ab_rt mi) ∈ ab_BIG := fun mi h1 h2 => (Nat.lt_or_ge mi 50).elim (fun h => ab_CW_49_50 mi h1 h) (fun h => ab_CW_50_51 mi h h2)
theorem ab_CW_51_52 : ∀ mi, 51 ≤ mi → mi < 52 → Cond.code (ab_nm mi) (ab_by mi) (ab_mxl mi) (ab_rt mi) ∈ ab_BIG := fun mi h1 h2 => by
  have e : mi = 51 := by omega
  subst e
  exact ab_cw51
theorem ab_CW_52_53 : ∀ mi, 52 ≤ mi → mi < 53 → Cond.code (ab_nm mi) (ab_by mi) (ab_mxl mi) (ab_rt mi) ∈ ab_BIG := fun mi h1 h2 => by
  have e : mi = 52 := by omega
  subst e
  exact ab_cw52
theorem ab_CW_53_54 : ∀ mi, 53 ≤ mi → mi < 54 → Cond.code (ab_nm mi) (ab_by mi) (ab_mxl mi) (ab_rt mi) ∈ ab_BIG := fun mi h1 h2 => by
  have e : mi = 53 := by omega
  subst e
  exact ab_cw53
theorem ab_CW_52_54 : ∀ mi, 52 ≤ mi → mi < 54 → Cond.code (ab_nm mi) (ab_by mi) (ab_mxl mi) (ab_rt mi) ∈ ab_BIG := fun mi h1 h2 => (Nat.lt_or_ge mi 53).elim (fun h => ab_CW_52_53 mi h1 h) (fun h => ab_CW_53_54 mi h h2)
theorem ab_CW_51_54 : ∀ mi, 51 ≤ mi → mi < 54 → Cond.code (ab_nm mi) (ab_by mi) (ab_mxl mi) (ab_rt mi) ∈ ab_BIG := fun mi h1 h2 => (Nat.lt_or_ge mi 52).elim (fun h => ab_CW_51_52 mi h1 h) (fun h => ab_CW_52_54 mi h h2)
theorem ab_CW_49_54 : ∀ mi, 49 ≤ mi → mi < 54 → Cond.code (ab_nm mi) (ab_by mi) (ab_mxl mi) (ab_rt mi) ∈ ab_BIG := fun mi h1 h2 => (Nat.lt_or_ge mi 51).elim (fun h => ab_CW_49_51 mi h1 h) (fun h => ab_CW_51_54 mi h h2)
theorem ab_CW_45_54 : ∀ mi, 45 ≤ mi → mi < 54 → Cond.code (ab_nm mi) (ab_by mi) (ab_mxl mi) (ab_rt mi) ∈ ab_BIG := fun mi h1 h2 => (Nat.lt_or_ge mi 49).elim (fun h => ab_CW_45_49 mi h1 h) (fun h => ab_CW_49_54 mi h h2)
theorem ab_CW_36_54 : ∀ mi, 36 ≤ mi → mi < 54 → Cond.code (ab_nm mi) (ab_by mi) (ab_mxl mi) (ab_rt mi) ∈ ab_BIG := fun mi h1 h2 => (Nat.lt_or_ge mi 45).elim (fun h => ab_CW_36_45 mi h1 h) (fun h => ab_CW_45_54 mi h h2)
theorem ab_CW_54_55 : ∀ mi, 54 ≤ mi → mi < 55 → Cond.code (ab_nm mi) (ab_by mi) (ab_mxl mi) (ab_rt mi) ∈ ab_BIG := fun mi h1 h2 => by
  have e : mi = 54 := by omega
  subst e
  exact ab_cw54
theorem ab_CW_55_56 : ∀ mi, 55 ≤ mi → mi < 56 → Cond.code (ab_nm mi) (ab_by mi) (ab_mxl mi) (ab_rt mi) ∈ ab_BIG := fun mi h1 h2 => by
  have e : mi = 55 := by omega
  subst e
  exact ab_cw55
theorem ab_CW_54_56 : ∀ mi, 54 ≤ mi → mi < 56 → Cond.code (ab_nm mi) (ab_by mi) (ab_mxl mi) (ab_rt mi) ∈ ab_BIG := fun mi h1 h2 => (Nat.lt_or_ge mi 55).elim (fun h => ab_CW_54_55 mi h1 h) (fun h => ab_CW_55_56 mi h h2)
theorem ab_CW_56_57 : ∀ mi, 56 ≤ mi → mi < 57 → Cond.code (ab_nm mi) (ab_by mi) (ab_mxl mi) (ab_rt mi) ∈ ab_BIG := fun mi h1 h2 => by
  have e : mi = 56 := by omega
  subst e
  exact ab_cw56
theorem ab_CW_57_58 : ∀ mi, 57 ≤ mi → mi < 58 → Cond.code (ab_nm mi) (ab_by mi) (ab_mxl mi) (ab_rt mi) ∈ ab_BIG := fun mi h1 h2 => by
  have e : mi = 57 := by omega
  subst e
  exact ab_cw57
theorem ab_CW_56_58 : ∀ mi, 56 ≤ mi → mi < 58 → Cond.code (ab_nm mi) (ab_by mi) (ab_mxl mi) (ab_rt mi) ∈ ab_BIG := fun mi h1 h2 => (Nat.lt_or_ge mi 57).elim (fun h => ab_CW_56_57 mi h1 h) (fun h => ab_CW_57_58 mi h h2)
theorem ab_CW_54_58 : ∀ mi, 54 ≤ mi → mi < 58 → Cond.code (ab_nm mi) (ab_by mi) (ab_mxl mi) (ab_rt mi) ∈ ab_BIG := fun mi h1 h2 => (Nat.lt_or_ge mi 56).elim (fun h => ab_CW_54_56 mi h1 h) (fun h => ab_CW_56_58 mi h h2)
theorem ab_CW_58_59 : ∀ mi, 58 ≤ mi → mi < 59 → Cond.code (ab_nm mi) (ab_by mi) (ab_mxl mi) (ab_rt mi) ∈ ab_BIG := fun mi h1 h2 => by
  have e : mi = 58 := by omega
  subst e
  exact ab_cw58
theorem ab_CW_59_60 : ∀ mi, 59 ≤ mi → mi < 60 → Cond.code (ab_nm mi) (ab_by mi) (ab_mxl mi) (ab_rt mi) ∈ ab_BIG := fun mi h1 h2 => by
  have e : mi = 59 := by omega
  subst e
  exact ab_cw59
theorem ab_CW_58_60 : ∀ mi, 58 ≤ mi → mi < 60 → Cond.code (ab_nm mi) (ab_by mi) (ab_mxl mi) (ab_rt mi) ∈ ab_BIG := fun mi h1 h2 => (Nat.lt_or_ge mi 59).elim (fun h => ab_CW_58_59 mi h1 h) (fun h => ab_CW_59_60 mi h h2)
theorem ab_CW_60_61 : ∀ mi, 60 ≤ mi → mi < 61 → Cond.code (ab_nm mi) (ab_by mi) (ab_mxl mi) (ab_rt mi) ∈ ab_BIG := fun mi h1 h2 => by
  have e : mi = 60 := by omega
  subst e
  exact ab_cw60
theorem ab_CW_61_62 : ∀ mi, 61 ≤ mi → mi < 62 → Cond.code (ab_nm mi) (ab_by mi) (ab_mxl mi) (ab_rt mi) ∈ ab_BIG := fun mi h1 h2 => by
  have e : mi = 61 := by omega
  subst e
  exact ab_cw61
theorem ab_CW_62_63 : ∀ mi, 62 ≤ mi → mi < 63 → Cond.code (ab_nm mi) (ab_by mi) (ab_mxl mi) (ab_rt mi) ∈ ab_BIG := fun mi h1 h2 => by
  have e : mi = 62 := by omega
  subst e
  exact ab_cw62
theorem ab_CW_61_63 : ∀ mi, 61 ≤ mi → mi < 63 → Cond.code (ab_nm mi) (ab_by mi) (ab_mxl mi) (ab_rt mi) ∈ ab_BIG := fun mi h1 h2 => (Nat.lt_or_ge mi 62).elim (fun h => ab_CW_61_62 mi h1 h) (fun h => ab_CW_62_63 mi h h2)
theorem ab_CW_60_63 : ∀ mi, 60 ≤ mi → mi < 63 → Cond.code (ab_nm mi) (ab_by mi) (ab_mxl mi) (ab_rt mi) ∈ ab_BIG := fun mi h1 h2 => (Nat.lt_or_ge mi 61).elim (fun h => ab_CW_60_61 mi h1 h) (fun h => ab_CW_61_63 mi h h2)
theorem ab_CW_58_63 : ∀ mi, 58 ≤ mi → mi < 63 → Cond.code (ab_nm mi) (ab_by mi) (ab_mxl mi) (ab_rt mi) ∈ ab_BIG := fun mi h1 h2 => (Nat.lt_or_ge mi 60).elim (fun h => ab_CW_58_60 mi h1 h) (fun h => ab_CW_60_63 mi h h2)
theorem ab_CW_54_63 : ∀ mi, 54 ≤ mi → mi < 63 → Cond.code (ab_nm mi) (ab_by mi) (ab_mxl mi) (ab_rt mi) ∈ ab_BIG := fun mi h1 h2 => (Nat.lt_or_ge mi 58).elim (fun h => ab_CW_54_58 mi h1 h) (fun h => ab_CW_58_63 mi h h2)
theorem ab_CW_63_64 : ∀ mi, 63 ≤ mi → mi < 64 → Cond.code (ab_nm mi) (ab_by mi) (ab_mxl mi) (ab_rt mi) ∈ ab_BIG := fun mi h1 h2 => by
  have e : mi = 63 := by omega
  subst e
  exact ab_cw63
theorem ab_CW_64_65 : ∀ mi, 64 ≤ mi → mi < 65 → Cond.code (ab_nm mi) (ab_by mi) (ab_mxl mi) (ab_rt mi) ∈ ab_BIG := fun mi h1 h2 => by
  have e : mi = 64 := by omega
  subst e
  exact ab_cw64
theorem ab_CW_63_65 : ∀ mi, 63 ≤ mi → mi < 65 → Cond.code (ab_nm mi) (ab_by mi) (ab_mxl mi) (ab_rt mi) ∈ ab_BIG := fun mi h1 h2 => (Nat.lt_or_ge mi 64).elim (fun h => ab_CW_63_64 mi h1 h) (fun h => ab_CW_64_65 mi h h2)
theorem ab_CW_65_66 : ∀ mi, 65 ≤ mi → mi < 66 → Cond.code (ab_nm mi) (ab_by mi) (ab_mxl mi) (ab_rt mi) ∈ ab_BIG := fun mi h1 h2 => by
  have e : mi = 65 := by omega
  subst e
  exact ab_cw65
theorem ab_CW_66_67 : ∀ mi, 66 ≤ mi → mi < 67 → Cond.code (ab_nm mi) (ab_by mi) (ab_mxl mi) (ab_rt mi) ∈ ab_BIG := fun mi h1 h2 => by
  have e : mi = 66 := by omega
  subst e
  exact ab_cw66
theorem ab_CW_67_68 : ∀ mi, 67 ≤ mi → mi < 68 → Cond.code (ab_nm mi) (ab_by mi) (ab_mxl mi) (ab_rt mi) ∈ ab_BIG := fun mi h1 h2 => by
  have e : mi = 67 := by omega
  subst e
  exact ab_cw67
theorem ab_CW_66_68 : ∀ mi, 66 ≤ mi → mi < 68 → Cond.code (ab_nm mi) (ab_by mi) (ab_mxl mi) (ab_rt mi) ∈ ab_BIG := fun mi h1 h2 => (Nat.lt_or_ge mi 67).elim (fun h => ab_CW_66_67 mi h1 h) (fun h => ab_CW_67_68 mi h h2)
theorem ab_CW_65_68 : ∀ mi, 65 ≤ mi → mi < 68 → Cond.code (ab_nm mi) (ab_by mi) (ab_mxl mi) (ab_rt mi) ∈ ab_BIG := fun mi h1 h2 => (Nat.lt_or_ge mi 66).elim (fun h => ab_CW_65_66 mi h1 h) (fun h => ab_CW_66_68 mi h h2)
theorem ab_CW_63_68 : ∀ mi, 63 ≤ mi → mi < 68 → Cond.code (ab_nm mi) (ab_by mi) (ab_mxl mi) (ab_rt mi) ∈ ab_BIG := fun mi h1 h2 => (Nat.lt_or_ge mi 65).elim (fun h => ab_CW_63_65 mi h1 h) (fun h => ab_CW_65_68 mi h h2)
theorem ab_CW_68_69 : ∀ mi, 68 ≤ mi → mi < 69 → Cond.code (ab_nm mi) (ab_by mi) (ab_mxl mi) (ab_rt mi) ∈ ab_BIG := fun mi h1 h2 => by
  have e : mi = 68 := by omega
  subst e
  exact ab_cw68
theorem ab_CW_69_70 : ∀ mi, 69 ≤ mi → mi < 70 → Cond.code (ab_nm mi) (ab_by mi) (ab_mxl mi) (ab_rt mi) ∈ ab_BIG := fun mi h1 h2 => by
  have e : mi = 69 := by omega
  subst e
  exact ab_cw69
theorem ab_CW_68_70 : ∀ mi, 68 ≤ mi → mi < 70 → Cond.code (ab_nm mi) (ab_by mi) (ab_mxl mi) (ab_rt mi) ∈ ab_BIG := fun mi h1 h2 => (Nat.lt_or_ge mi 69).elim (fun h => ab_CW_68_69 mi h1 h) (fun h => ab_CW_69_70 mi h h2)
theorem ab_CW_70_71 : ∀ mi, 70 ≤ mi → mi < 71 → Cond.code (ab_nm mi) (ab_by mi) (ab_mxl mi) (ab_rt mi) ∈ ab_BIG := fun mi h1 h2 => by
  have e : mi = 70 := by omega
  subst e
  exact ab_cw70
theorem ab_CW_71_72 : ∀ mi, 71 ≤ mi → mi < 72 → Cond.code (ab_nm mi) (ab_by mi) (ab_mxl mi) (ab_rt mi) ∈ ab_BIG := fun mi h1 h2 => by
  have e : mi = 71 := by omega
  subst e
  exact ab_cw71
theorem ab_CW_72_73 : ∀ mi, 72 ≤ mi → mi < 73 → Cond.code (ab_nm mi) (ab_by mi) (ab_mxl mi) (ab_rt mi) ∈ ab_BIG := fun mi h1 h2 => by
  have e : mi = 72 := by omega
  subst e
  exact ab_cw72
theorem ab_CW_71_73 : ∀ mi, 71 ≤ mi → mi < 73 → Cond.code (ab_nm mi) (ab_by mi) (ab_mxl mi) (ab_rt mi) ∈ ab_BIG := fun mi h1 h2 => (Nat.lt_or_ge mi 72).elim (fun h => ab_CW_71_72 mi h1 h) (fun h => ab_CW_72_73 mi h h2)
theorem ab_CW_70_73 : ∀ mi, 70 ≤ mi → mi < 73 → Cond.code (ab_nm mi) (ab_by mi) (ab_mxl mi) (ab_rt mi) ∈ ab_BIG := fun mi h1 h2 => (Nat.lt_or_ge mi 71).elim (fun h => ab_CW_70_71 mi h1 h) (fun h => ab_CW_71_73 mi h h2)
theorem ab_CW_68_73 : ∀ mi, 68 ≤ mi → mi < 73 → Cond.code (ab_nm mi) (ab_by mi) (ab_mxl mi) (ab_rt mi) ∈ ab_BIG := fun mi h1 h2 => (Nat.lt_or_ge mi 70).elim (fun h => ab_CW_68_70 mi h1 h) (fun h => ab_CW_70_73 mi h h2)
theorem ab_CW_63_73 : ∀ mi, 63 ≤ mi → mi < 73 → Cond.code (ab_nm mi) (ab_by mi) (ab_mxl mi) (ab_rt mi) ∈ ab_BIG := fun mi h1 h2 => (Nat.lt_or_ge mi 68).elim (fun h => ab_CW_63_68 mi h1 h) (fun h => ab_CW_68_73 mi h h2)
theorem ab_CW_54_73 : ∀ mi, 54 ≤ mi → mi < 73 → Cond.code (ab_nm mi) (ab_by mi) (ab_mxl mi) (ab_rt mi) ∈ ab_BIG := fun mi h1 h2 => (Nat.lt_or_ge mi 63).elim (fun h => ab_CW_54_63 mi h1 h) (fun h => ab_CW_63_73 mi h h2)
theorem ab_CW_36_73 : ∀ mi, 36 ≤ mi → mi < 73 → Cond.code (ab_nm mi) (ab_by mi) (ab_mxl mi) (ab_rt mi) ∈ ab_BIG := fun mi h1 h2 => (Nat.lt_or_ge mi 54).elim (fun h => ab_CW_36_54 mi h1 h) (fun h => ab_CW_54_73 mi h h2)
theorem ab_CW_0_73 : ∀ mi, 0 ≤ mi → mi < 73 → Cond.code (ab_nm mi) (ab_by mi) (ab_mxl mi) (ab_rt mi) ∈ ab_BIG := fun mi h1 h2 => (Nat.lt_or_ge mi 36).elim (fun h => ab_CW_0_36 mi h1 h) (fun h => ab_CW_36_73 mi h h2)
theorem ab_CW_73_74 : ∀ mi, 73 ≤ mi → mi < 74 → Cond.code (ab_nm mi) (ab_by mi) (ab_mxl mi) (ab_rt mi) ∈ ab_BIG := fun mi h1 h2 => by
  have e : mi = 73 := by omega
  subst e
  exact ab_cw73
theorem ab_CW_74_75 : ∀ mi, 74 ≤ mi → mi < 75 → Cond.code (ab_nm mi) (ab_by mi) (ab_mxl mi) (ab_rt mi) ∈ ab_BIG := fun mi h1 h2 => by
  have e : mi = 74 := by omega
  subst e
  exact ab_cw74
theorem ab_CW_73_75 : ∀ mi, 73 ≤ mi → mi < 75 → Cond.code (ab_nm mi) (ab_by mi) (ab_mxl mi) (ab_rt mi) ∈ ab_BIG := fun mi h1 h2 => (Nat.lt_or_ge mi 74).elim (fun h => ab_CW_73_74 mi h1 h) (fun h => ab_CW_74_75 mi h h2)
theorem ab_CW_75_76 : ∀ mi, 75 ≤ mi → mi < 76 → Cond.code (ab_nm mi) (ab_by mi) (ab_mxl mi) (ab_rt mi) ∈ ab_BIG := fun mi h1 h2 => by
  have e : mi = 75 := by omega
  subst e
  exact ab_cw75
theorem ab_CW_76_77 : ∀ mi, 76 ≤ mi → mi < 77 → Cond.code (ab_nm mi) (ab_by mi) (ab_mxl mi) (ab_rt mi) ∈ ab_BIG := fun mi h1 h2 => by
  have e : mi = 76 := by omega
  subst e
  exact ab_cw76
theorem ab_CW_75_77 : ∀ mi, 75 ≤ mi → mi < 77 → Cond.code (ab_nm mi) (ab_by mi) (ab_mxl mi) (ab_rt mi) ∈ ab_BIG := fun mi h1 h2 => (Nat.lt_or_ge mi 76).elim (fun h => ab_CW_75_76 mi h1 h) (fun h => ab_CW_76_77 mi h h2)
theorem ab_CW_73_77 : ∀ mi, 73 ≤ mi → mi < 77 → Cond.code (ab_nm mi) (ab_by mi) (ab_mxl mi) (ab_rt mi) ∈ ab_BIG := fun mi h1 h2 => (Nat.lt_or_ge mi 75).elim (fun h => ab_CW_73_75 mi h1 h) (fun h => ab_CW_75_77 mi h h2)
theorem ab_CW_77_78 : ∀ mi, 77 ≤ mi → mi < 78 → Cond.code (ab_nm mi) (ab_by mi) (ab_mxl mi) (ab_rt mi) ∈ ab_BIG := fun mi h1 h2 => by
  have e : mi = 77 := by omega
  subst e
  exact ab_cw77
theorem ab_CW_78_79 : ∀ mi, 78 ≤ mi → mi < 79 → Cond.code (ab_nm mi) (ab_by mi) (ab_mxl mi) (ab_rt mi) ∈ ab_BIG := fun mi h1 h2 => by
  have e : mi = 78 := by omega
  subst e
  exact ab_cw78
theorem ab_CW_77_79 : ∀ mi, 77 ≤ mi → mi < 79 → Cond.code (ab_nm mi) (ab_by mi) (ab_mxl mi) (ab_rt mi) ∈ ab_BIG := fun mi h1 h2 => (Nat.lt_or_ge mi 78).elim (fun h => ab_CW_77_78 mi h1 h) (fun h => ab_CW_78_79 mi h h2)
theorem ab_CW_79_80 : ∀ mi, 79 ≤ mi → mi < 80 → Cond.code (ab_nm mi) (ab_by mi) (ab_mxl mi) (ab_rt mi) ∈ ab_BIG := fun mi h1 h2 => by
  have e : mi = 79 := by omega
  subst e
  exact ab_cw79
theorem ab_CW_80_81 : ∀ mi, 80 ≤ mi → mi < 81 → Cond.code (ab_nm mi) (ab_by mi) (ab_mxl mi) (ab_rt mi) ∈ ab_BIG := fun mi h1 h2 => by
  have e : mi = 80 := by omega
  subst e
  exact ab_cw80
theorem ab_CW_81_82 : ∀ mi, 81 ≤ mi → mi < 82 → Cond.code (ab_nm mi) (ab_by mi) (ab_mxl mi) (ab_rt mi) ∈ ab_BIG := fun mi h1 h2 => by
  have e : mi = 81 := by omega
  subst e
  exact ab_cw81
theorem ab_CW_80_82 : ∀ mi, 80 ≤ mi → mi < 82 → Cond.code (ab_nm mi) (ab_by mi) (ab_mxl mi) (ab_rt mi) ∈ ab_BIG := fun mi h1 h2 => (Nat.lt_or_ge mi 81).elim (fun h => ab_CW_80_81 mi h1 h) (fun h => ab_CW_81_82 mi h h2)
theorem ab_CW_79_82 : ∀ mi, 79 ≤ mi → mi < 82 → Cond.code (ab_nm mi) (ab_by mi) (ab_mxl mi) (ab_rt mi) ∈ ab_BIG := fun mi h1 h2 => (Nat.lt_or_ge mi 80).elim (fun h => ab_CW_79_80 mi h1 h) (fun h => ab_CW_80_82 mi h h2)
theorem ab_CW_77_82 : ∀ mi, 77 ≤ mi → mi < 82 → Cond.code (ab_nm mi) (ab_by mi) (ab_mxl mi) (ab_rt mi) ∈ ab_BIG := fun mi h1 h2 => (Nat.lt_or_ge mi 79).elim (fun h => ab_CW_77_79 mi h1 h) (fun h => ab_CW_79_82 mi h h2)
theorem ab_CW_73_82 : ∀ mi, 73 ≤ mi → mi < 82 → Cond.code (ab_nm mi) (ab_by mi) (ab_mxl mi) (ab_rt mi) ∈ ab_BIG := fun mi h1 h2 => (Nat.lt_or_ge mi 77).elim (fun h => ab_CW_73_77 mi h1 h) (fun h => ab_CW_77_82 mi h h2)
theorem ab_CW_82_83 : ∀ mi, 82 ≤ mi → mi < 83 → Cond.code (ab_nm mi) (ab_by mi) (ab_mxl mi) (ab_rt mi) ∈ ab_BIG := fun mi h1 h2 => by
  have e : mi = 82 := by omega
  subst e
  exact ab_cw82
theorem ab_CW_83_84 : ∀ mi, 83 ≤ mi → mi < 84 → Cond.code (ab_nm mi) (ab_by mi) (ab_mxl mi) (ab_rt mi) ∈ ab_BIG := fun mi h1 h2 => by
  have e : mi = 83 := by omega
  subst e
  exact ab_cw83
theorem ab_CW_82_84 : ∀ mi, 82 ≤ mi → mi < 84 → Cond.code (ab_nm mi) (ab_by mi) (ab_mxl mi) (ab_rt mi) ∈ ab_BIG := fun mi h1 h2 => (Nat.lt_or_ge mi 83).elim (fun h => ab_CW_82_83 mi h1 h) (fun h => ab_CW_83_84 mi h h2)
theorem ab_CW_84_85 : ∀ mi, 84 ≤ mi → mi < 85 → Cond.code (ab_nm mi) (ab_by mi) (ab_mxl mi) (ab_rt mi) ∈ ab_BIG := fun mi h1 h2 => by
  have e : mi = 84 := by omega
  subst e
  exact ab_cw84
theorem ab_CW_85_86 : ∀ mi, 85 ≤ mi → mi < 86 → Cond.code (ab_nm mi) (ab_by mi) (ab_mxl mi) (ab_rt mi) ∈ ab_BIG := fun mi h1 h2 => by
  have e : mi = 85 := by omega
  subst e
  exact ab_cw85
theorem ab_CW_84_86 : ∀ mi, 84 ≤ mi → mi < 86 → Cond.code (ab_nm mi) (ab_by mi) (ab_mxl mi) (ab_rt mi) ∈ ab_BIG := fun mi h1 h2 => (Nat.lt_or_ge mi 85).elim (fun h => ab_CW_84_85 mi h1 h) (fun h => ab_CW_85_86 mi h h2)
theorem ab_CW_82_86 : ∀ mi, 82 ≤ mi → mi < 86 → Cond.code (ab_nm mi) (ab_by mi) (ab_mxl mi) (ab_rt mi) ∈ ab_BIG := fun mi h1 h2 => (Nat.lt_or_ge mi 84).elim (fun h => ab_CW_82_84 mi h1 h) (fun h => ab_CW_84_86 mi h h2)
theorem ab_CW_86_87 : ∀ mi, 86 ≤ mi → mi < 87 → Cond.code (ab_nm mi) (ab_by mi) (ab_mxl mi) (ab_rt mi) ∈ ab_BIG := fun mi h1 h2 => by
  have e : mi = 86 := by omega
  subst e
  exact ab_cw86
theorem ab_CW_87_88 : ∀ mi, 87 ≤ mi → mi < 88 → Cond.code (ab_nm mi) (ab_by mi) (ab_mxl mi) (ab_rt mi) ∈ ab_BIG := fun mi h1 h2 => by
  have e : mi = 87 := by omega
  subst e
  exact ab_cw87
theorem ab_CW_86_88 : ∀ mi, 86 ≤ mi → mi < 88 → Cond.code (ab_nm mi) (ab_by mi) (ab_mxl mi) (ab_rt mi) ∈ ab_BIG := fun mi h1 h2 => (Nat.lt_or_ge mi 87).elim (fun h => ab_CW_86_87 mi h1 h) (fun h => ab_CW_87_88 mi h h2)
theorem ab_CW_88_89 : ∀ mi, 88 ≤ mi → mi < 89 → Cond.code (ab_nm mi) (ab_by mi) (ab_mxl mi) (ab_rt mi) ∈ ab_BIG := fun mi h1 h2 => by
  have e : mi = 88 := by omega
  subst e
  exact ab_cw88
theorem ab_CW_89_90 : ∀ mi, 89 ≤ mi → mi < 90 → Cond.code (ab_nm mi) (ab_by mi) (ab_mxl mi) (ab_rt mi) ∈ ab_BIG := fun mi h1 h2 => by
  have e : mi = 89 := by omega
  subst e
  exact ab_cw89
theorem ab_CW_90_91 : ∀ mi, 90 ≤ mi → mi < 91 → Cond.code (ab_nm mi) (ab_by mi) (ab_mxl mi) (ab_rt mi) ∈ ab_BIG := fun mi h1 h2 => by
  have e : mi = 90 := by omega
  subst e
  exact ab_cw90
theorem ab_CW_89_91 : ∀ mi, 89 ≤ mi → mi < 91 → Cond.code (ab_nm mi) (ab_by mi) (ab_mxl mi) (ab_rt mi) ∈ ab_BIG := fun mi h1 h2 => (Nat.lt_or_ge mi 90).elim (fun h => ab_CW_89_90 mi h1 h) (fun h => ab_CW_90_91 mi h h2)
theorem ab_CW_88_91 : ∀ mi, 88 ≤ mi → mi < 91 → Cond.code (ab_nm mi) (ab_by mi) (ab_mxl mi) (ab_rt mi) ∈ ab_BIG := fun mi h1 h2 => (Nat.lt_or_ge mi 89).elim (fun h => ab_CW_88_89 mi h1 h) (fun h => ab_CW_89_91 mi h h2)
theorem ab_CW_86_91 : ∀ mi, 86 ≤ mi → mi < 91 → Cond.code (ab_nm mi) (ab_by mi) (ab_mxl mi) (ab_rt mi) ∈ ab_BIG := fun mi h1 h2 => (Nat.lt_or_ge mi 88).elim (fun h => ab_CW_86_88 mi h1 h) (fun h => ab_CW_88_91 mi h h2)
theorem ab_CW_82_91 : ∀ mi, 82 ≤ mi → mi < 91 → Cond.code (ab_nm mi) (ab_by mi) (ab_mxl mi) (ab_rt mi) ∈ ab_BIG := fun mi h1 h2 => (Nat.lt_or_ge mi 86).elim (fun h => ab_CW_82_86 mi h1 h) (fun h => ab_CW_86_91 mi h h2)
theorem ab_CW_73_91 : ∀ mi, 73 ≤ mi → mi < 91 → Cond.code (ab_nm mi) (ab_by mi) (ab_mxl mi) (ab_rt mi) ∈ ab_BIG := fun mi h1 h2 => (Nat.lt_or_ge mi 82).elim (fun h => ab_CW_73_82 mi h1 h) (fun h => ab_CW_82_91 mi h h2)
theorem ab_CW_91_92 : ∀ mi, 91 ≤ mi → mi < 92 → Cond.code (ab_nm mi) (ab_by mi) (ab_mxl mi) (ab_rt mi) ∈ ab_BIG := fun mi h1 h2 => by
  have e : mi = 91 := by omega
  subst e
  exact ab_cw91
theorem ab_CW_92_93 : ∀ mi, 92 ≤ mi → mi < 93 → Cond.code (ab_nm mi) (ab_by mi) (ab_mxl mi) (ab_rt mi) ∈ ab_BIG := fun mi h1 h2 => by
  have e : mi = 92 := by omega
  subst e
  exact ab_cw92
theorem ab_CW_91_93 : ∀ mi, 91 ≤ mi → mi < 93 → Cond.code (ab_nm mi) (ab_by mi) (ab_mxl mi) (ab_rt mi) ∈ ab_BIG := fun mi h1 h2 => (Nat.lt_or_ge mi 92).elim (fun h => ab_CW_91_92 mi h1 h) (fun h => ab_CW_92_93 mi h h2)
theorem ab_CW_93_94 : ∀ mi, 93 ≤ mi → mi < 94 → Cond.code (ab_nm mi) (ab_by mi) (ab_mxl mi) (ab_rt mi) ∈ ab_BIG := fun mi h1 h2 => by
  have e : mi = 93 := by omega
  subst e
  exact ab_cw93
theorem ab_CW_94_95 : ∀ mi, 94 ≤ mi → mi < 95 → Cond.code (ab_nm mi) (ab_by mi) (ab_mxl mi) (ab_rt mi) ∈ ab_BIG := fun mi h1 h2 => by
  have e : mi = 94 := by omega
  subst e
  exact ab_cw94
theorem ab_CW_93_95 : ∀ mi, 93 ≤ mi → mi < 95 → Cond.code (ab_nm mi) (ab_by mi) (ab_mxl mi) (ab_rt mi) ∈ ab_BIG := fun mi h1 h2 => (Nat.lt_or_ge mi 94).elim (fun h => ab_CW_93_94 mi h1 h) (fun h => ab_CW_94_95 mi h h2)
theorem ab_CW_91_95 : ∀ mi, 91 ≤ mi → mi < 95 → Cond.code (ab_nm mi) (ab_by mi) (ab_mxl mi) (ab_rt mi) ∈ ab_BIG := fun mi h1 h2 => (Nat.lt_or_ge mi 93).elim (fun h => ab_CW_91_93 mi h1 h) (fun h => ab_CW_93_95 mi h h2)
theorem ab_CW_95_96 : ∀ mi, 95 ≤ mi → mi < 96 → Cond.code (ab_nm mi) (ab_by mi) (ab_mxl mi) (ab_rt mi) ∈ ab_BIG := fun mi h1 h2 => by
  have e : mi = 95 := by omega
  subst e
  exact ab_cw95
theorem ab_CW_96_97 : ∀ mi, 96 ≤ mi → mi < 97 → Cond.code (ab_nm mi) (ab_by mi) (ab_mxl mi) (ab_rt mi) ∈ ab_BIG := fun mi h1 h2 => by
  have e : mi = 96 := by omega
  subst e
  exact ab_cw96
theorem ab_CW_95_97 : ∀ mi, 95 ≤ mi → mi < 97 → Cond.code (ab_nm mi) (ab_by mi) (ab_mxl mi) (ab_rt mi) ∈ ab_BIG := fun mi h1 h2 => (Nat.lt_or_ge mi 96).elim (fun h => ab_CW_95_96 mi h1 h) (fun h => ab_CW_96_97 mi h h2)
theorem ab_CW_97_98 : ∀ mi, 97 ≤ mi → mi < 98 → Cond.code (ab_nm mi) (ab_by mi) (ab_mxl mi) (ab_rt mi) ∈ ab_BIG := fun mi h1 h2 => by
  have e : mi = 97 := by omega
  subst e
  exact ab_cw97
theorem ab_CW_98_99 : ∀ mi, 98 ≤ mi → mi < 99 → Cond.code (ab_nm mi) (ab_by mi) (ab_mxl mi) (ab_rt mi) ∈ ab_BIG := fun mi h1 h2 => by
  have e : mi = 98 := by omega
  subst e
  exact ab_cw98
theorem ab_CW_99_100 : ∀ mi, 99 ≤ mi → mi < 100 → Cond.code (ab_nm mi) (ab_by mi) (ab_mxl mi) (ab_rt mi) ∈ ab_BIG := fun mi h1 h2 => by
  have e : mi = 99 := by omega
  subst e
  exact ab_cw99
theorem ab_CW_98_100 : ∀ mi, 98 ≤ mi → mi < 100 → Cond.code (ab_nm mi) (ab_by mi) (ab_mxl mi) (ab_rt mi) ∈ ab_BIG := fun mi h1 h2 => (Nat.lt_or_ge mi 99).elim (fun h => ab_CW_98_99 mi h1 h) (fun h => ab_CW_99_100 mi h h2)
theorem ab_CW_97_100 : ∀ mi, 97 ≤ mi → mi < 100 → Cond.code (ab_nm mi) (ab_by mi) (ab_mxl mi) (ab_rt mi) ∈ ab_BIG := fun mi h1 h2 => (Nat.lt_or_ge mi 98).elim (fun h => ab_CW_97_98 mi h1 h) (fun h => ab_CW_98_100 mi h h2)
theorem ab_CW_95_100 : ∀ mi, 95 ≤ mi → mi < 100 → Cond.code (ab_nm mi) (ab_by mi) (ab_mxl mi) (ab_rt mi) ∈ ab_BIG := fun mi h1 h2 => (Nat.lt_or_ge mi 97).elim (fun h => ab_CW_95_97 mi h1 h) (fun h => ab_CW_97_100 mi h h2)
theorem ab_CW_91_100 : ∀ mi, 91 ≤ mi → mi < 100 → Cond.code (ab_nm mi) (ab_by mi) (ab_mxl mi) (ab_rt mi) ∈ ab_BIG := fun mi h1 h2 => (Nat.lt_or_ge mi 95).elim (fun h => ab_CW_91_95 mi h1 h) (fun h => ab_CW_95_100 mi h h2)
theorem ab_CW_100_101 : ∀ mi, 100 ≤ mi → mi < 101 → Cond.code (ab_nm mi) (ab_by mi) (ab_mxl mi) (ab_rt mi) ∈ ab_BIG := fun mi h1 h2 => by
  have e : mi = 100 := by omega
  subst e
  exact ab_cw100
theorem ab_CW_101_102 : ∀ mi, 101 ≤ mi → mi < 102 → Cond.code (ab_nm mi) (ab_by mi) (ab_mxl mi) (ab_rt mi) ∈ ab_BIG := fun mi h1 h2 => by
  have e : mi = 101 := by omega
  subst e
  exact ab_cw101
theorem ab_CW_100_102 : ∀ mi, 100 ≤ mi → mi < 102 → Cond.code (ab_nm mi) (ab_by mi) (ab_mxl mi) (ab_rt mi) ∈ ab_BIG := fun mi h1 h2 => (Nat.lt_or_ge mi 101).elim (fun h => ab_CW_100_101 mi h1 h) (fun h => ab_CW_101_102 mi h h2)
theorem ab_CW_102_103 : ∀ mi, 102 ≤ mi → mi < 103 → Cond.code (ab_nm mi) (ab_by mi) (ab_mxl mi) (ab_rt mi) ∈ ab_BIG := fun mi h1 h2 => by
  have e : mi = 102 := by omega
  subst e
  exact ab_cw102
theorem ab_CW_103_104 : ∀ mi, 103 ≤ mi → mi < 104 → Cond.code (ab_nm mi) (ab_by mi) (ab_mxl mi) (ab_rt mi) ∈ ab_BIG := fun mi h1 h2 => by
  have e : mi = 103 := by omega
  subst e
  exact ab_cw103
theorem ab_CW_102_104 : ∀ mi, 102 ≤ mi → mi < 104 → Cond.code (ab_nm mi) (ab_by mi) (ab_mxl mi) (ab_rt mi) ∈ ab_BIG := fun mi h1 h2 => (Nat.lt_or_ge mi 103).elim (fun h => ab_CW_102_103 mi h1 h) (fun h => ab_CW_103_104 mi h h2)
theorem ab_CW_100_104 : ∀ mi, 100 ≤ mi → mi < 104 → Cond.code (ab_nm mi) (ab_by mi) (ab_mxl mi) (ab_rt mi) ∈ ab_BIG := fun mi h1 h2 => (Nat.lt_or_ge mi 102).elim (fun h => ab_CW_100_102 mi h1 h) (fun h => ab_CW_102_104 mi h h2)
theorem ab_CW_104_105 : ∀ mi, 104 ≤ mi → mi < 105 → Cond.code (ab_nm mi) (ab_by mi) (ab_mxl mi) (ab_rt mi) ∈ ab_BIG := fun mi h1 h2 => by
  have e : mi = 104 := by omega
  subst e
  exact ab_cw104
theorem ab_CW_105_106 : ∀ mi, 105 ≤ mi → mi < 106 → Cond.code (ab_nm mi) (ab_by mi) (ab_mxl mi) (ab_rt mi) ∈ ab_BIG := fun mi h1 h2 => by
  have e : mi = 105 := by omega
  subst e
  exact ab_cw105
theorem ab_CW_104_106 : ∀ mi, 104 ≤ mi → mi < 106 → Cond.code (ab_nm mi) (ab_by mi) (ab_mxl mi) (ab_rt mi) ∈ ab_BIG := fun mi h1 h2 => (Nat.lt_or_ge mi 105).elim (fun h => ab_CW_104_105 mi h1 h) (fun h => ab_CW_105_106 mi h h2)
theorem ab_CW_106_107 : ∀ mi, 106 ≤ mi → mi < 107 → Cond.code (ab_nm mi) (ab_by mi) (ab_mxl mi) (ab_rt mi) ∈ ab_BIG := fun mi h1 h2 => by
  have e : mi = 106 := by omega
  subst e
  exact ab_cw106
theorem ab_CW_107_108 : ∀ mi, 107 ≤ mi → mi < 108 → Cond.code (ab_nm mi) (ab_by mi) (ab_mxl mi) (ab_rt mi) ∈ ab_BIG := fun mi h1 h2 => by
  have e : mi = 107 := by omega
  subst e
  exact ab_cw107
theorem ab_CW_108_109 : ∀ mi, 108 ≤ mi → mi < 109 → Cond.code (ab_nm mi) (ab_by mi) (ab_mxl mi) (ab_rt mi) ∈ ab_BIG := fun mi h1 h2 => by
  have e : mi = 108 := by omega
  subst e
  exact ab_cw108
theorem ab_CW_107_109 : ∀ mi, 107 ≤ mi → mi < 109 → Cond.code (ab_nm mi) (ab_by mi) (ab_mxl mi) (ab_rt mi) ∈ ab_BIG := fun mi h1 h2 => (Nat.lt_or_ge mi 108).elim (fun h => ab_CW_107_108 mi h1 h) (fun h => ab_CW_108_109 mi h h2)
theorem ab_CW_106_109 : ∀ mi, 106 ≤ mi → mi < 109 → Cond.code (ab_nm mi) (ab_by mi) (ab_mxl mi) (ab_rt mi) ∈ ab_BIG := fun mi h1 h2 => (Nat.lt_or_ge mi 107).elim (fun h => ab_CW_106_107 mi h1 h) (fun h => ab_CW_107_109 mi h h2)
theorem ab_CW_104_109 : ∀ mi, 104 ≤ mi → mi < 109 → Cond.code (ab_nm mi) (ab_by mi) (ab_mxl mi) (ab_rt mi) ∈ ab_BIG := fun mi h1 h2 => (Nat.lt_or_ge mi 106).elim (fun h => ab_CW_104_106 mi h1 h) (fun h => ab_CW_106_109 mi h h2)
theorem ab_CW_100_109 : ∀ mi, 100 ≤ mi → mi < 109 → Cond.code (ab_nm mi) (ab_by mi) (ab_mxl mi) (ab_rt mi) ∈ ab_BIG := fun mi h1 h2 => (Nat.lt_or_ge mi 104).elim (fun h => ab_CW_100_104 mi h1 h) (fun h => ab_CW_104_109 mi h h2)
theorem ab_CW_91_109 : ∀ mi, 91 ≤ mi → mi < 109 → Cond.code (ab_nm mi) (ab_by mi) (ab_mxl mi) (ab_rt mi) ∈ ab_BIG := fun mi h1 h2 => (Nat.lt_or_ge mi 100).elim (fun h => ab_CW_91_100 mi h1 h) (fun h => ab_CW_100_109 mi h h2)
theorem ab_CW_73_109 : ∀ mi, 73 ≤ mi → mi < 109 → Cond.code (ab_nm mi) (ab_by mi) (ab_mxl mi) (ab_rt mi) ∈ ab_BIG := fun mi h1 h2 => (Nat.lt_or_ge mi 91).elim (fun h => ab_CW_73_91 mi h1 h) (fun h => ab_CW_91_109 mi h h2)
theorem ab_CW_109_110 : ∀ mi, 109 ≤ mi → mi < 110 → Cond.code (ab_nm mi) (ab_by mi) (ab_mxl mi) (ab_rt mi) ∈ ab_BIG := fun mi h1 h2 => by
  have e : mi = 109 := by omega
  subst e
  exact ab_cw109
theorem ab_CW_110_111 : ∀ mi, 110 ≤ mi → mi < 111 → Cond.code (ab_nm mi) (ab_by mi) (ab_mxl mi) (ab_rt mi) ∈ ab_BIG := fun mi h1 h2 => by
  have e : mi = 110 := by omega
  subst e
  exact ab_cw110
theorem ab_CW_109_111 : ∀ mi, 109 ≤ mi → mi < 111 → Cond.code (ab_nm mi) (ab_by mi) (ab_mxl mi) (ab_rt mi) ∈ ab_BIG := fun mi h1 h2 => (Nat.lt_or_ge mi 110).elim (fun h => ab_CW_109_110 mi h1 h) (fun h => ab_CW_110_111 mi h h2)
theorem ab_CW_111_112 : ∀ mi, 111 ≤ mi → mi < 112 → Cond.code (ab_nm mi) (ab_by mi) (ab_mxl mi) (ab_rt mi) ∈ ab_BIG := fun mi h1 h2 => by
  have e : mi = 111 := by omega
  subst e
  exact ab_cw111
theorem ab_CW_112_113 : ∀ mi, 112 ≤ mi → mi < 113 → Cond.code (ab_nm mi) (ab_by mi) (ab_mxl mi) (ab_rt mi) ∈ ab_BIG := fun mi h1 h2 => by
  have e : mi = 112 := by omega
  subst e
  exact ab_cw112
theorem ab_CW_111_113 : ∀ mi, 111 ≤ mi → mi < 113 → Cond.code (ab_nm mi) (ab_by mi) (ab_mxl mi) (ab_rt mi) ∈ ab_BIG := fun mi h1 h2 => (Nat.lt_or_ge mi 112).elim (fun h => ab_CW_111_112 mi h1 h) (fun h => ab_CW_112_113 mi h h2)
theorem ab_CW_109_113 : ∀ mi, 109 ≤ mi → mi < 113 → Cond.code (ab_nm mi) (ab_by mi) (ab_mxl mi) (ab_rt mi) ∈ ab_BIG := fun mi h1 h2 => (Nat.lt_or_ge mi 111).elim (fun h => ab_CW_109_111 mi h1 h) (fun h => ab_CW_111_113 mi h h2)
theorem ab_CW_113_114 : ∀ mi, 113 ≤ mi → mi < 114 → Cond.code (ab_nm mi) (ab_by mi) (ab_mxl mi) (ab_rt mi) ∈ ab_BIG := fun mi h1 h2 => by
  have e : mi = 113 := by omega
  subst e
  exact ab_cw113
theorem ab_CW_114_115 : ∀ mi, 114 ≤ mi → mi < 115 → Cond.code (ab_nm mi) (ab_by mi) (ab_mxl mi) (ab_rt mi) ∈ ab_BIG := fun mi h1 h2 => by
  have e : mi = 114 := by omega
  subst e
  exact ab_cw114
theorem ab_CW_113_115 : ∀ mi, 113 ≤ mi → mi < 115 → Cond.code (ab_nm mi) (ab_by mi) (ab_mxl mi) (ab_rt mi) ∈ ab_BIG := fun mi h1 h2 => (Nat.lt_or_ge mi 114).elim (fun h => ab_CW_113_114 mi h1 h) (fun h => ab_CW_114_115 mi h h2)
theorem ab_CW_115_116 : ∀ mi, 115 ≤ mi → mi < 116 → Cond.code (ab_nm mi) (ab_by mi) (ab_mxl mi) (ab_rt mi) ∈ ab_BIG := fun mi h1 h2 => by
  have e : mi = 115 := by omega
  subst e
  exact ab_cw115
theorem ab_CW_116_117 : ∀ mi, 116 ≤ mi → mi < 117 → Cond.code (ab_nm mi) (ab_by mi) (ab_mxl mi) (ab_rt mi) ∈ ab_BIG := fun mi h1 h2 => by
  have e : mi = 116 := by omega
  subst e
  exact ab_cw116
theorem ab_CW_117_118 : ∀ mi, 117 ≤ mi → mi < 118 → Cond.code (ab_nm mi) (ab_by mi) (ab_mxl mi) (ab_rt mi) ∈ ab_BIG := fun mi h1 h2 => by
  have e : mi = 117 := by omega
  subst e
  exact ab_cw117
theorem ab_CW_116_118 : ∀ mi, 116 ≤ mi → mi < 118 → Cond.code (ab_nm mi) (ab_by mi) (ab_mxl mi) (ab_rt mi) ∈ ab_BIG := fun mi h1 h2 => (Nat.lt_or_ge mi 117).elim (fun h => ab_CW_116_117 mi h1 h) (fun h => ab_CW_117_118 mi h h2)
theorem ab_CW_115_118 : ∀ mi, 115 ≤ mi → mi < 118 → Cond.code (ab_nm mi) (ab_by mi) (ab_mxl mi) (ab_rt mi) ∈ ab_BIG := fun mi h1 h2 => (Nat.lt_or_ge mi 116).elim (fun h => ab_CW_115_116 mi h1 h) (fun h => ab_CW_116_118 mi h h2)
theorem ab_CW_113_118 : ∀ mi, 113 ≤ mi → mi < 118 → Cond.code (ab_nm mi) (ab_by mi) (ab_mxl mi) (ab_rt mi) ∈ ab_BIG := fun mi h1 h2 => (Nat.lt_or_ge mi 115).elim (fun h => ab_CW_113_115 mi h1 h) (fun h => ab_CW_115_118 mi h h2)
theorem ab_CW_109_118 : ∀ mi, 109 ≤ mi → mi < 118 → Cond.code (ab_nm mi) (ab_by mi) (ab_mxl mi) (ab_rt mi) ∈ ab_BIG := fun mi h1 h2 => (Nat.lt_or_ge mi 113).elim (fun h => ab_CW_109_113 mi h1 h) (fun h => ab_CW_113_118 mi h h2)
theorem ab_CW_118_119 : ∀ mi, 118 ≤ mi → mi < 119 → Cond.code (ab_nm mi) (ab_by mi) (ab_mxl mi) (ab_rt mi) ∈ ab_BIG := fun mi h1 h2 => by
  have e : mi = 118 := by omega
  subst e
  exact ab_cw118
theorem ab_CW_119_120 : ∀ mi, 119 ≤ mi → mi < 120 → Cond.code (ab_nm mi) (ab_by mi) (ab_mxl mi) (ab_rt mi) ∈ ab_BIG := fun mi h1 h2 => by
  have e : mi = 119 := by omega
  subst e
  exact ab_cw119
theorem ab_CW_118_120 : ∀ mi, 118 ≤ mi → mi < 120 → Cond.code (ab_nm mi) (ab_by mi) (ab_mxl mi) (ab_rt mi) ∈ ab_BIG := fun mi h1 h2 => (Nat.lt_or_ge mi 119).elim (fun h => ab_CW_118_119 mi h1 h) (fun h => ab_CW_119_120 mi h h2)
theorem ab_CW_120_121 : ∀ mi, 120 ≤ mi → mi < 121 → Cond.code (ab_nm mi) (ab_by mi) (ab_mxl mi) (ab_rt mi) ∈ ab_BIG := fun mi h1 h2 => by
  have e : mi = 120 := by omega
  subst e
  exact ab_cw120
theorem ab_CW_121_122 : ∀ mi, 121 ≤ mi → mi < 122 → Cond.code (ab_nm mi) (ab_by mi) (ab_mxl mi) (ab_rt mi) ∈ ab_BIG := fun mi h1 h2 => by
  have e : mi = 121 := by omega
  subst e
  exact ab_cw121
theorem ab_CW_120_122 : ∀ mi, 120 ≤ mi → mi < 122 → Cond.code (ab_nm mi) (ab_by mi) (ab_mxl mi) (ab_rt mi) ∈ ab_BIG := fun mi h1 h2 => (Nat.lt_or_ge mi 121).elim (fun h => ab_CW_120_121 mi h1 h) (fun h => ab_CW_121_122 mi h h2)
theorem ab_CW_118_122 : ∀ mi, 118 ≤ mi → mi < 122 → Cond.code (ab_nm mi) (ab_by mi) (ab_mxl mi) (ab_rt mi) ∈ ab_BIG := fun mi h1 h2 => (Nat.lt_or_ge mi 120).elim (fun h => ab_CW_118_120 mi h1 h) (fun h => ab_CW_120_122 mi h h2)
theorem ab_CW_122_123 : ∀ mi, 122 ≤ mi → mi < 123 → Cond.code (ab_nm mi) (ab_by mi) (ab_mxl mi) (ab_rt mi) ∈ ab_BIG := fun mi h1 h2 => by
  have e : mi = 122 := by omega
  subst e
  exact ab_cw122
theorem ab_CW_123_124 : ∀ mi, 123 ≤ mi → mi < 124 → Cond.code (ab_nm mi) (ab_by mi) (ab_mxl mi) (ab_rt mi) ∈ ab_BIG := fun mi h1 h2 => by
  have e : mi = 123 := by omega
  subst e
  exact ab_cw123
theorem ab_CW_122_124 : ∀ mi, 122 ≤ mi → mi < 124 → Cond.code (ab_nm mi) (ab_by mi) (ab_mxl mi) (ab_rt mi) ∈ ab_BIG := fun mi h1 h2 => (Nat.lt_or_ge mi 123).elim (fun h => ab_CW_122_123 mi h1 h) (fun h => ab_CW_123_124 mi h h2)
theorem ab_CW_124_125 : ∀ mi, 124 ≤ mi → mi < 125 → Cond.code (ab_nm mi) (ab_by mi) (ab_mxl mi) (ab_rt mi) ∈ ab_BIG := fun mi h1 h2 => by
  have e : mi = 124 := by omega
  subst e
  exact ab_cw124
theorem ab_CW_125_126 : ∀ mi, 125 ≤ mi → mi < 126 → Cond.code (ab_nm mi) (ab_by mi) (ab_mxl mi) (ab_rt mi) ∈ ab_BIG := fun mi h1 h2 => by
  have e : mi = 125 := by omega
  subst e
  exact ab_cw125
theorem ab_CW_126_127 : ∀ mi, 126 ≤ mi → mi < 127 → Cond.code (ab_nm mi) (ab_by mi) (ab_mxl mi) (ab_rt mi) ∈ ab_BIG := fun mi h1 h2 => by
  have e : mi = 126 := by omega
  subst e
  exact ab_cw126
theorem ab_CW_125_127 : ∀ mi, 125 ≤ mi → mi < 127 → Cond.code (ab_nm mi) (ab_by mi) (ab_mxl mi) (ab_rt mi) ∈ ab_BIG := fun mi h1 h2 => (Nat.lt_or_ge mi 126).elim (fun h => ab_CW_125_126 mi h1 h) (fun h => ab_CW_126_127 mi h h2)
theorem ab_CW_124_127 : ∀ mi, 124 ≤ mi → mi < 127 → Cond.code (ab_nm mi) (ab_by mi) (ab_mxl mi) (ab_rt mi) ∈ ab_BIG := fun mi h1 h2 => (Nat.lt_or_ge mi 125).elim (fun h => ab_CW_124_125 mi h1 h) (fun h => ab_CW_125_127 mi h h2)
theorem ab_CW_122_127 : ∀ mi, 122 ≤ mi → mi < 127 → Cond.code (ab_nm mi) (ab_by mi) (ab_mxl mi) (ab_rt mi) ∈ ab_BIG := fun mi h1 h2 => (Nat.lt_or_ge mi 124).elim (fun h => ab_CW_122_124 mi h1 h) (fun h => ab_CW_124_127 mi h h2)
theorem ab_CW_118_127 : ∀ mi, 118 ≤ mi → mi < 127 → Cond.code (ab_nm mi) (ab_by mi) (ab_mxl mi) (ab_rt mi) ∈ ab_BIG := fun mi h1 h2 => (Nat.lt_or_ge mi 122).elim (fun h => ab_CW_118_122 mi h1 h) (fun h => ab_CW_122_127 mi h h2)
theorem ab_CW_109_127 : ∀ mi, 109 ≤ mi → mi < 127 → Cond.code (ab_nm mi) (ab_by mi) (ab_mxl mi) (ab_rt mi) ∈ ab_BIG := fun mi h1 h2 => (Nat.lt_or_ge mi 118).elim (fun h => ab_CW_109_118 mi h1 h) (fun h => ab_CW_118_127 mi h h2)
theorem ab_CW_127_128 : ∀ mi, 127 ≤ mi → mi < 128 → Cond.code (ab_nm mi) (ab_by mi) (ab_mxl mi) (ab_rt mi) ∈ ab_BIG := fun mi h1 h2 => by
  have e : mi = 127 := by omega
  subst e
  exact ab_cw127
theorem ab_CW_128_129 : ∀ mi, 128 ≤ mi → mi < 129 → Cond.code (ab_nm mi) (ab_by mi) (ab_mxl mi) (ab_rt mi) ∈ ab_BIG := fun mi h1 h2 => by
  have e : mi = 128 := by omega
  subst e
  exact ab_cw128
theorem ab_CW_127_129 : ∀ mi, 127 ≤ mi → mi < 129 → Cond.code (ab_nm mi) (ab_by mi) (ab_mxl mi) (ab_rt mi) ∈ ab_BIG := fun mi h1 h2 => (Nat.lt_or_ge mi 128).elim (fun h => ab_CW_127_128 mi h1 h) (fun h => ab_CW_128_129 mi h h2)
theorem ab_CW_129_130 : ∀ mi, 129 ≤ mi → mi < 130 → Cond.code (ab_nm mi) (ab_by mi) (ab_mxl mi) (ab_rt mi) ∈ ab_BIG := fun mi h1 h2 => by
  have e : mi = 129 := by omega
  subst e
  exact ab_cw129
theorem ab_CW_130_131 : ∀ mi, 130 ≤ mi → mi < 131 → Cond.code (ab_nm mi) (ab_by mi) (ab_mxl mi) (ab_rt mi) ∈ ab_BIG := fun mi h1 h2 => by
  have e : mi = 130 := by omega
  subst e
  exact ab_cw130
theorem ab_CW_129_131 : ∀ mi, 129 ≤ mi → mi < 131 → Cond.code (ab_nm mi) (ab_by mi) (ab_mxl mi) (ab_rt mi) ∈ ab_BIG := fun mi h1 h2 => (Nat.lt_or_ge mi 130).elim (fun h => ab_CW_129_130 mi h1 h) (fun h => ab_CW_130_131 mi h h2)
theorem ab_CW_127_131 : ∀ mi, 127 ≤ mi → mi < 131 → Cond.code (ab_nm mi) (ab_by mi) (ab_mxl mi) (ab_rt mi) ∈ ab_BIG := fun mi h1 h2 => (Nat.lt_or_ge mi 129).elim (fun h => ab_CW_127_129 mi h1 h) (fun h => ab_CW_129_131 mi h h2)
theorem ab_CW_131_132 : ∀ mi, 131 ≤ mi → mi < 132 → Cond.code (ab_nm mi) (ab_by mi) (ab_mxl mi) (ab_rt mi) ∈ ab_BIG := fun mi h1 h2 => by
  have e : mi = 131 := by omega
  subst e
  exact ab_cw131
theorem ab_CW_132_133 : ∀ mi, 132 ≤ mi → mi < 133 → Cond.code (ab_nm mi) (ab_by mi) (ab_mxl mi) (ab_rt mi) ∈ ab_BIG := fun mi h1 h2 => by
  have e : mi = 132 := by omega
  subst e
  exact ab_cw132
theorem ab_CW_131_133 : ∀ mi, 131 ≤ mi → mi < 133 → Cond.code (ab_nm mi) (ab_by mi) (ab_mxl mi) (ab_rt mi) ∈ ab_BIG := fun mi h1 h2 => (Nat.lt_or_ge mi 132).elim (fun h => ab_CW_131_132 mi h1 h) (fun h => ab_CW_132_133 mi h h2)
theorem ab_CW_133_134 : ∀ mi, 133 ≤ mi → mi < 134 → Cond.code (ab_nm mi) (ab_by mi) (ab_mxl mi) (ab_rt mi) ∈ ab_BIG := fun mi h1 h2 => by
  have e : mi = 133 := by omega
  subst e
  exact ab_cw133
theorem ab_CW_134_135 : ∀ mi, 134 ≤ mi → mi < 135 → Cond.code (ab_nm mi) (ab_by mi) (ab_mxl mi) (ab_rt mi) ∈ ab_BIG := fun mi h1 h2 => by
  have e : mi = 134 := by omega
  subst e
  exact ab_cw134
theorem ab_CW_135_136 : ∀ mi, 135 ≤ mi → mi < 136 → Cond.code (ab_nm mi) (ab_by mi) (ab_mxl mi) (ab_rt mi) ∈ ab_BIG := fun mi h1 h2 => by
  have e : mi = 135 := by omega
  subst e
  exact ab_cw135
theorem ab_CW_134_136 : ∀ mi, 134 ≤ mi → mi < 136 → Cond.code (ab_nm mi) (ab_by mi) (ab_mxl mi) (ab_rt mi) ∈ ab_BIG := fun mi h1 h2 => (Nat.lt_or_ge mi 135).elim (fun h => ab_CW_134_135 mi h1 h) (fun h => ab_CW_135_136 mi h h2)
theorem ab_CW_133_136 : ∀ mi, 133 ≤ mi → mi < 136 → Cond.code (ab_nm mi) (ab_by mi) (ab_mxl mi) (ab_rt mi) ∈ ab_BIG := fun mi h1 h2 => (Nat.lt_or_ge mi 134).elim (fun h => ab_CW_133_134 mi h1 h) (fun h => ab_CW_134_136 mi h h2)
theorem ab_CW_131_136 : ∀ mi, 131 ≤ mi → mi < 136 → Cond.code (ab_nm mi) (ab_by mi) (ab_mxl mi) (ab_rt mi) ∈ ab_BIG := fun mi h1 h2 => (Nat.lt_or_ge mi 133).elim (fun h => ab_CW_131_133 mi h1 h) (fun h => ab_CW_133_136 mi h h2)
theorem ab_CW_127_136 : ∀ mi, 127 ≤ mi → mi < 136 → Cond.code (ab_nm mi) (ab_by mi) (ab_mxl mi) (ab_rt mi) ∈ ab_BIG := fun mi h1 h2 => (Nat.lt_or_ge mi 131).elim (fun h => ab_CW_127_131 mi h1 h) (fun h => ab_CW_131_136 mi h h2)
theorem ab_CW_136_137 : ∀ mi, 136 ≤ mi → mi < 137 → Cond.code (ab_nm mi) (ab_by mi) (ab_mxl mi) (ab_rt mi) ∈ ab_BIG := fun mi h1 h2 => by
  have e : mi = 136 := by omega
  subst e
  exact ab_cw136
theorem ab_CW_137_138 : ∀ mi, 137 ≤ mi → mi < 138 → Cond.code (ab_nm mi) (ab_by mi) (ab_mxl mi) (ab_rt mi) ∈ ab_BIG := fun mi h1 h2 => by
  have e : mi = 137 := by omega
  subst e
  exact ab_cw137
theorem ab_CW_136_138 : ∀ mi, 136 ≤ mi → mi < 138 → Cond.code (ab_nm mi) (ab_by mi) (ab_mxl mi) (ab_rt mi) ∈ ab_BIG := fun mi h1 h2 => (Nat.lt_or_ge mi 137).elim (fun h => ab_CW_136_137 mi h1 h) (fun h => ab_CW_137_138 mi h h2)
theorem ab_CW_138_139 : ∀ mi, 138 ≤ mi → mi < 139 → Cond.code (ab_nm mi) (ab_by mi) (ab_mxl mi) (ab_rt mi) ∈ ab_BIG := fun mi h1 h2 => by
  have e : mi = 138 := by omega
  subst e
  exact ab_cw138
theorem ab_CW_139_140 : ∀ mi, 139 ≤ mi → mi < 140 → Cond.code (ab_nm mi) (ab_by mi) (ab_mxl mi) (ab_rt mi) ∈ ab_BIG := fun mi h1 h2 => by
  have e : mi = 139 := by omega
  subst e
  exact ab_cw139
theorem ab_CW_140_141 : ∀ mi, 140 ≤ mi → mi < 141 → Cond.code (ab_nm mi) (ab_by mi) (ab_mxl mi) (ab_rt mi) ∈ ab_BIG := fun mi h1 h2 => by
  have e : mi = 140 := by omega
  subst e
  exact ab_cw140
theorem ab_CW_139_141 : ∀ mi, 139 ≤ mi → mi < 141 → Cond.code (ab_nm mi) (ab_by mi) (ab_mxl mi) (ab_rt mi) ∈ ab_BIG := fun mi h1 h2 => (Nat.lt_or_ge mi 140).elim (fun h => ab_CW_139_140 mi h1 h) (fun h => ab_CW_140_141 mi h h2)
theorem ab_CW_138_141 : ∀ mi, 138 ≤ mi → mi < 141 → Cond.code (ab_nm mi) (ab_by mi) (ab_mxl mi) (ab_rt mi) ∈ ab_BIG := fun mi h1 h2 => (Nat.lt_or_ge mi 139).elim (fun h => ab_CW_138_139 mi h1 h) (fun h => ab_CW_139_141 mi h h2)
theorem ab_CW_136_141 : ∀ mi, 136 ≤ mi → mi < 141 → Cond.code (ab_nm mi) (ab_by mi) (ab_mxl mi) (ab_rt mi) ∈ ab_BIG := fun mi h1 h2 => (Nat.lt_or_ge mi 138).elim (fun h => ab_CW_136_138 mi h1 h) (fun h => ab_CW_138_141 mi h h2)
theorem ab_CW_141_142 : ∀ mi, 141 ≤ mi → mi < 142 → Cond.code (ab_nm mi) (ab_by mi) (ab_mxl mi) (ab_rt mi) ∈ ab_BIG := fun mi h1 h2 => by
  have e : mi = 141 := by omega
  subst e
  exact ab_cw141
theorem ab_CW_142_143 : ∀ mi, 142 ≤ mi → mi < 143 → Cond.code (ab_nm mi) (ab_by mi) (ab_mxl mi) (ab_rt mi) ∈ ab_BIG := fun mi h1 h2 => by
  have e : mi = 142 := by omega
  subst e
  exact ab_cw142
theorem ab_CW_141_143 : ∀ mi, 141 ≤ mi → mi < 143 → Cond.code (ab_nm mi) (ab_by mi) (ab_mxl mi) (ab_rt mi) ∈ ab_BIG := fun mi h1 h2 => (Nat.lt_or_ge mi 142).elim (fun h => ab_CW_141_142 mi h1 h) (fun h => ab_CW_142_143 mi h h2)
theorem ab_CW_143_144 : ∀ mi, 143 ≤ mi → mi < 144 → Cond.code (ab_nm mi) (ab_by mi) (ab_mxl mi) (ab_rt mi) ∈ ab_BIG := fun mi h1 h2 => by
  have e : mi = 143 := by omega
  subst e
  exact ab_cw143
theorem ab_CW_144_145 : ∀ mi, 144 ≤ mi → mi < 145 → Cond.code (ab_nm mi) (ab_by mi) (ab_mxl mi) (ab_rt mi) ∈ ab_BIG := fun mi h1 h2 => by
  have e : mi = 144 := by omega
  subst e
  exact ab_cw144
theorem ab_CW_145_146 : ∀ mi, 145 ≤ mi → mi < 146 → Cond.code (ab_nm mi) (ab_by mi) (ab_mxl mi) (ab_rt mi) ∈ ab_BIG := fun mi h1 h2 => by
  have e : mi = 145 := by omega
  subst e
  exact ab_cw145
theorem ab_CW_144_146 : ∀ mi, 144 ≤ mi → mi < 146 → Cond.code (ab_nm mi) (ab_by mi) (ab_mxl mi) (ab_rt mi) ∈ ab_BIG := fun mi h1 h2 => (Nat.lt_or_ge mi 145).elim (fun h => ab_CW_144_145 mi h1 h) (fun h => ab_CW_145_146 mi h h2)
theorem ab_CW_143_146 : ∀ mi, 143 ≤ mi → mi < 146 → Cond.code (ab_nm mi) (ab_by mi) (ab_mxl mi) (ab_rt mi) ∈ ab_BIG := fun mi h1 h2 => (Nat.lt_or_ge mi 144).elim (fun h => ab_CW_143_144 mi h1 h) (fun h => ab_CW_144_146 mi h h2)
theorem ab_CW_141_146 : ∀ mi, 141 ≤ mi → mi < 146 → Cond.code (ab_nm mi) (ab_by mi) (ab_mxl mi) (ab_rt mi) ∈ ab_BIG := fun mi h1 h2 => (Nat.lt_or_ge mi 143).elim (fun h => ab_CW_141_143 mi h1 h) (fun h => ab_CW_143_146 mi h h2)
theorem ab_CW_136_146 : ∀ mi, 136 ≤ mi → mi < 146 → Cond.code (ab_nm mi) (ab_by mi) (ab_mxl mi) (ab_rt mi) ∈ ab_BIG := fun mi h1 h2 => (Nat.lt_or_ge mi 141).elim (fun h => ab_CW_136_141 mi h1 h) (fun h => ab_CW_141_146 mi h h2)
theorem ab_CW_127_146 : ∀ mi, 127 ≤ mi → mi < 146 → Cond.code (ab_nm mi) (ab_by mi) (ab_mxl mi) (ab_rt mi) ∈ ab_BIG := fun mi h1 h2 => (Nat.lt_or_ge mi 136).elim (fun h => ab_CW_127_136 mi h1 h) (fun h => ab_CW_136_146 mi h h2)
theorem ab_CW_109_146 : ∀ mi, 109 ≤ mi → mi < 146 → Cond.code (ab_nm mi) (ab_by mi) (ab_mxl mi) (ab_rt mi) ∈ ab_BIG := fun mi h1 h2 => (Nat.lt_or_ge mi 127).elim (fun h => ab_CW_109_127 mi h1 h) (fun h => ab_CW_127_146 mi h h2)
theorem ab_CW_73_146 : ∀ mi, 73 ≤ mi → mi < 146 → Cond.code (ab_nm mi) (ab_by mi) (ab_mxl mi) (ab_rt mi) ∈ ab_BIG := fun mi h1 h2 => (Nat.lt_or_ge mi 109).elim (fun h => ab_CW_73_109 mi h1 h) (fun h => ab_CW_109_146 mi h h2)
theorem ab_CW_0_146 : ∀ mi, 0 ≤ mi → mi < 146 → Cond.code (ab_nm mi) (ab_by mi) (ab_mxl mi) (ab_rt mi) ∈ ab_BIG := fun mi h1 h2 => (Nat.lt_or_ge mi 73).elim (fun h => ab_CW_0_73 mi h1 h) (fun h => ab_CW_73_146 mi h h2)
end
section
/-! CODES, by program, and that the bytes decode to them. -/
def ab_frL : List Nat := [1, 3, 2, 1, 2, 1, 0, 0, 1, 0, 2, 1, 5, 1, 1, 0, 4, 3, 3, 3, 2, 1, 0, 1, 0, 0, 0, 0, 3, 0, 2, 1, 1, 0, 1, 0, 0, 0, 0, 0, 0, 0, 0, 0, 1, 0, 0, 1, 0, 0, 1, 2, 1, 0, 0, 1, 1, 2, 4, 3, 0, 0, 0, 0, 0, 0, 2, 1, 0, 2, 8, 0, 4, 2, 3, 2, 2, 2, 1, 1, 7, 6, 1, 0, 5, 4, 1, 0, 0, 0, 0, 0, 1, 0, 0, 3, 1, 0, 9, 0, 1, 0, 0, 1, 2, 2, 4, 1, 0, 4, 5, 4, 4, 6, 6, 4, 3, 3, 1, 4, 2, 2, 0, 0, 0, 0, 0, 0, 0, 0, 0, 0, 0, 0, 2, 3, 3, 10, 4, 0, 1, 2, 3, 4, 2, 11]
def ab_lcL : List Nat := [21, 74, 44, 21, 50, 25, 0, 0, 24, 0, 43, 21, 123, 21, 21, 0, 101, 73, 73, 73, 50, 25, 0, 21, 0, 0, 0, 0, 74, 0, 49, 20, 25, 0, 21, 0, 0, 0, 0, 0, 0, 0, 0, 0, 40, 0, 0, 21, 0, 0, 21, 45, 21, 0, 0, 21, 21, 43, 90, 67, 0, 0, 0, 0, 0, 0, 44, 22, 0, 41, 177, 0, 89, 41, 67, 43, 43, 43, 21, 21, 155, 134, 23, 0, 113, 90, 21, 0, 0, 0, 0, 0, 21, 0, 0, 61, 21, 0, 199, 0, 23, 0, 0, 24, 43, 43, 98, 21, 0, 97, 119, 97, 97, 145, 145, 97, 66, 67, 21, 98, 62, 62, 0, 0, 0, 0, 0, 0, 0, 0, 0, 0, 0, 0, 42, 64, 64, 221, 89, 0, 22, 44, 67, 92, 44, 242]
def ab_fr (mi : Nat) : Nat := ab_frL.getD mi 0
def ab_lc (mi : Nat) : Nat := ab_lcL.getD mi 0
def ab_cok1 (own fr lc i : Nat) : Bool := match ab_ml own i with
  | some (mj, k) => if k ≤ 4 then decide (ab_fr mj + 1 ≤ fr) && decide (8 + (ab_mxl mj + 11) + ab_lc mj ≤ lc) else if k = 6 then decide (1 ≤ fr) && decide (8 + (nativeFrameWords "java/lang/System" "arraycopy" 5 + 11) ≤ lc) else if k = 8 then decide (2 ≤ fr) && decide (60 ≤ lc) else if k = 9 then decide (4 ≤ fr) && decide (90 ≤ lc) else decide (1 ≤ fr) && decide (21 ≤ lc)
  | none => true
def ab_cok (own fr lc : Nat) : Instr → Bool
  | .invokevirtual i => ab_cok1 own fr lc i
  | .invokestatic i => ab_cok1 own fr lc i
  | .invokespecial i => ab_cok1 own fr lc i
  | _ => true
def ab_ct (mi : Nat) (b : ByteArray) (l : List (Nat × Instr × Nat)) : Bool := l.all (fun e => decide (decode b e.1 = .ok (e.2.1, e.2.2)) && ab_lenok e.2.1 e.2.2 && ab_cok (ab_own mi) (ab_fr mi) (ab_lc mi) e.2.1)
def ab_c0 : List (Nat × Instr × Nat) := [(0, .aload_n 0, 1), (1, .invokespecial 3, 3), (4, .aload_n 0, 1), (5, .bipush 20, 2), (7, .newarray .int, 2), (9, .putfield 9, 3), (12, .aload_n 0, 1), (13, .bipush 20, 2), (15, .newarray .int, 2), (17, .putfield 15, 3), (20, .return_, 1)]
def ab_c1 : List (Nat × Instr × Nat) := [(0, .iconst 0, 1), (1, .istore_n 3, 1), (2, .iload_n 3, 1), (3, .aload_n 1, 1), (4, .getfield 18, 3), (7, .if_icmp .ge 21, 3), (10, .aload_n 0, 1), (11, .getfield 9, 3), (14, .iload_n 3, 1), (15, .aload_n 0, 1), (16, .aload_n 1, 1), (17, .iload_n 3, 1), (18, .invokevirtual 24, 3), (21, .iastore, 1), (22, .iinc 3 1, 3), (25, .goto (-23), 3), (28, .aload_n 0, 1), (29, .iconst 0, 1), (30, .putfield 28, 3), (33, .iconst 0, 1), (34, .istore_n 3, 1), (35, .iload_n 3, 1), (36, .iload_n 2, 1), (37, .if_icmp .ge 27, 3), (40, .aload_n 0, 1), (41, .aload_n 1, 1), (42, .invokevirtual 31, 3), (45, .ifCond .eq 19, 3), (48, .aload_n 0, 1), (49, .dup, 1), (50, .getfield 28, 3), (53, .iconst 1, 1), (54, .iadd, 1), (55, .putfield 28, 3), (58, .iinc 3 1, 3), (61, .goto (-26), 3), (64, .return_, 1)]
def ab_c2 : List (Nat × Instr × Nat) := [(0, .iconst 0, 1), (1, .istore_n 3, 1), (2, .iload_n 3, 1), (3, .iload_n 2, 1), (4, .if_icmp .ge 21, 3), (7, .aload_n 0, 1), (8, .aload_n 1, 1), (9, .iload_n 3, 1), (10, .iload_n 2, 1), (11, .invokevirtual 35, 3), (14, .ifCond .eq 5, 3), (17, .iload_n 3, 1), (18, .ireturn, 1), (19, .iinc 3 1, 3), (22, .goto (-20), 3), (25, .iload_n 2, 1), (26, .ireturn, 1)]
def ab_c3 : List (Nat × Instr × Nat) := [(0, .aload_n 1, 1), (1, .getfield 39, 3), (4, .iload_n 2, 1), (5, .iaload, 1), (6, .aload_n 1, 1), (7, .getfield 39, 3), (10, .iload_n 3, 1), (11, .iaload, 1), (12, .if_icmp .ne 14, 3), (15, .aload_n 1, 1), (16, .getfield 39, 3), (19, .iload_n 3, 1), (20, .iaload, 1), (21, .bipush 8, 2), (23, .if_icmp .ne 5, 3), (26, .iconst 0, 1), (27, .ireturn, 1), (28, .aload_n 1, 1), (29, .getfield 39, 3), (32, .iload_n 3, 1), (33, .iaload, 1), (34, .bipush 7, 2), (36, .if_icmp .ne 24, 3), (39, .aload_n 1, 1), (40, .getfield 42, 3), (43, .iload_n 2, 1), (44, .iaload, 1), (45, .aload_n 1, 1), (46, .getfield 42, 3), (49, .iload_n 3, 1), (50, .iaload, 1), (51, .if_icmp .ne 7, 3), (54, .iconst 1, 1), (55, .goto 4, 3), (58, .iconst 0, 1), (59, .ireturn, 1), (60, .aload_n 1, 1), (61, .iload_n 3, 1), (62, .invokevirtual 45, 3), (65, .ifCond .eq 18, 3), (68, .aload_n 1, 1), (69, .getfield 49, 3), (72, .iload_n 2, 1), (73, .iaload, 1), (74, .aload_n 1, 1), (75, .getfield 49, 3), (78, .iload_n 3, 1), (79, .iaload, 1), (80, .if_icmp .ne 7, 3), (83, .iconst 1, 1), (84, .goto 4, 3), (87, .iconst 0, 1), (88, .ireturn, 1)]
def ab_c4 : List (Nat × Instr × Nat) := [(0, .iconst 0, 1), (1, .istore_n 2, 1), (2, .iconst 0, 1), (3, .istore_n 3, 1), (4, .iload_n 3, 1), (5, .aload_n 1, 1), (6, .getfield 18, 3), (9, .if_icmp .ge 93, 3), (12, .aload_n 0, 1), (13, .getfield 15, 3), (16, .iload_n 3, 1), (17, .iload_n 3, 1), (18, .iastore, 1), (19, .iconst 0, 1), (20, .istore 4, 2), (22, .iload 4, 2), (24, .iload_n 3, 1), (25, .if_icmp .ge 54, 3), (28, .aload_n 0, 1), (29, .getfield 15, 3), (32, .iload_n 3, 1), (33, .iaload, 1), (34, .iload_n 3, 1), (35, .if_icmp .ne 44, 3), (38, .aload_n 0, 1), (39, .getfield 9, 3), (42, .iload 4, 2), (44, .iaload, 1), (45, .aload_n 0, 1), (46, .getfield 9, 3), (49, .iload_n 3, 1), (50, .iaload, 1), (51, .if_icmp .ne 22, 3), (54, .aload_n 0, 1), (55, .aload_n 1, 1), (56, .iload 4, 2), (58, .iload_n 3, 1), (59, .invokevirtual 52, 3), (62, .ifCond .eq 11, 3), (65, .aload_n 0, 1), (66, .getfield 15, 3), (69, .iload_n 3, 1), (70, .iload 4, 2), (72, .iastore, 1), (73, .iinc 4 1, 3), (76, .goto (-54), 3), (79, .aload_n 0, 1), (80, .getfield 15, 3), (83, .iload_n 3, 1), (84, .iaload, 1), (85, .aload_n 0, 1), (86, .getfield 9, 3), (89, .iload_n 3, 1), (90, .iaload, 1), (91, .if_icmp .eq 5, 3), (94, .iconst 1, 1), (95, .istore_n 2, 1), (96, .iinc 3 1, 3), (99, .goto (-95), 3), (102, .aload_n 0, 1), (103, .getfield 15, 3), (106, .iconst 0, 1), (107, .aload_n 0, 1), (108, .getfield 9, 3), (111, .iconst 0, 1), (112, .bipush 20, 2), (114, .invokestatic 55, 3), (117, .iload_n 2, 1), (118, .ireturn, 1)]
def ab_c5 : List (Nat × Instr × Nat) := [(0, .aload_n 1, 1), (1, .getfield 61, 3), (4, .iload_n 2, 1), (5, .iaload, 1), (6, .aload_n 1, 1), (7, .getfield 61, 3), (10, .iload_n 3, 1), (11, .iaload, 1), (12, .if_icmp .ne 7, 3), (15, .iconst 1, 1), (16, .goto 4, 3), (19, .iconst 0, 1), (20, .istore 4, 2), (22, .iconst 0, 1), (23, .istore 5, 2), (25, .iload 5, 2), (27, .aload_n 1, 1), (28, .getfield 61, 3), (31, .iload_n 3, 1), (32, .iaload, 1), (33, .if_icmp .ge 27, 3), (36, .iload 4, 2), (38, .ifCond .eq 22, 3), (41, .aload_n 0, 1), (42, .aload_n 1, 1), (43, .iload_n 2, 1), (44, .iload 5, 2), (46, .iload_n 3, 1), (47, .iload 5, 2), (49, .invokevirtual 64, 3), (52, .istore 4, 2), (54, .iinc 5 1, 3), (57, .goto (-32), 3), (60, .iload 4, 2), (62, .ifCond .eq 5, 3), (65, .iconst 1, 1), (66, .ireturn, 1), (67, .aload_n 1, 1), (68, .getfield 39, 3), (71, .iload_n 3, 1), (72, .iaload, 1), (73, .iconst 2, 1), (74, .if_icmp .eq 13, 3), (77, .aload_n 1, 1), (78, .getfield 39, 3), (81, .iload_n 3, 1), (82, .iaload, 1), (83, .iconst 3, 1), (84, .if_icmp .ne 7, 3), (87, .iconst 1, 1), (88, .goto 4, 3), (91, .iconst 0, 1), (92, .istore 5, 2), (94, .iload 5, 2), (96, .ifCond .eq 31, 3), (99, .aload_n 0, 1), (100, .aload_n 1, 1), (101, .iload_n 2, 1), (102, .iconst 0, 1), (103, .iload_n 3, 1), (104, .iconst 1, 1), (105, .invokevirtual 64, 3), (108, .ifCond .eq 19, 3), (111, .aload_n 0, 1), (112, .aload_n 1, 1), (113, .iload_n 2, 1), (114, .iconst 1, 1), (115, .iload_n 3, 1), (116, .iconst 0, 1), (117, .invokevirtual 64, 3), (120, .ifCond .eq 7, 3), (123, .iconst 1, 1), (124, .goto 4, 3), (127, .iconst 0, 1), (128, .ireturn, 1)]
def ab_c6 : List (Nat × Instr × Nat) := [(0, .aload_n 0, 1), (1, .getfield 9, 3), (4, .aload_n 1, 1), (5, .getfield 68, 3), (8, .iload_n 2, 1), (9, .aaload, 1), (10, .iload_n 3, 1), (11, .iaload, 1), (12, .iaload, 1), (13, .aload_n 0, 1), (14, .getfield 9, 3), (17, .aload_n 1, 1), (18, .getfield 68, 3), (21, .iload 4, 2), (23, .aaload, 1), (24, .iload 5, 2), (26, .iaload, 1), (27, .iaload, 1), (28, .if_icmp .ne 7, 3), (31, .iconst 1, 1), (32, .goto 4, 3), (35, .iconst 0, 1), (36, .ireturn, 1)]
def ab_c7 : List (Nat × Instr × Nat) := [(0, .iconst 0, 1), (1, .istore_n 2, 1), (2, .iconst 0, 1), (3, .istore_n 3, 1), (4, .iload_n 3, 1), (5, .aload_n 1, 1), (6, .getfield 18, 3), (9, .if_icmp .ge 33, 3), (12, .aload_n 0, 1), (13, .getfield 9, 3), (16, .iload_n 3, 1), (17, .iaload, 1), (18, .iload_n 3, 1), (19, .if_icmp .ne 17, 3), (22, .aload_n 1, 1), (23, .getfield 39, 3), (26, .iload_n 3, 1), (27, .iaload, 1), (28, .bipush 8, 2), (30, .if_icmp .eq 6, 3), (33, .iinc 2 1, 3), (36, .iinc 3 1, 3), (39, .goto (-35), 3), (42, .iload_n 2, 1), (43, .ireturn, 1)]
def ab_c8 : List (Nat × Instr × Nat) := [(0, .iconst 0, 1), (1, .istore_n 2, 1), (2, .iconst 0, 1), (3, .istore_n 3, 1), (4, .iload_n 3, 1), (5, .aload_n 1, 1), (6, .getfield 18, 3), (9, .if_icmp .ge 31, 3), (12, .aload_n 1, 1), (13, .getfield 39, 3), (16, .iload_n 3, 1), (17, .iaload, 1), (18, .bipush 8, 2), (20, .if_icmp .eq 14, 3), (23, .iload_n 2, 1), (24, .aload_n 0, 1), (25, .aload_n 1, 1), (26, .iload_n 3, 1), (27, .invokevirtual 72, 3), (30, .invokestatic 75, 3), (33, .istore_n 2, 1), (34, .iinc 3 1, 3), (37, .goto (-33), 3), (40, .iload_n 2, 1), (41, .ireturn, 1)]
def ab_c9 : List (Nat × Instr × Nat) := [(0, .iconst 0, 1), (1, .istore_n 3, 1), (2, .iconst 0, 1), (3, .istore 4, 2), (5, .iload 4, 2), (7, .aload_n 1, 1), (8, .getfield 18, 3), (11, .if_icmp .ge 23, 3), (14, .aload_n 0, 1), (15, .getfield 9, 3), (18, .iload 4, 2), (20, .iaload, 1), (21, .iload_n 2, 1), (22, .if_icmp .ne 6, 3), (25, .iinc 3 1, 3), (28, .iinc 4 1, 3), (31, .goto (-26), 3), (34, .iload_n 3, 1), (35, .ireturn, 1)]
def ab_c10 : List (Nat × Instr × Nat) := [(0, .iload_n 2, 1), (1, .istore_n 3, 1), (2, .iconst 0, 1), (3, .istore 4, 2), (5, .iload 4, 2), (7, .aload_n 1, 1), (8, .getfield 18, 3), (11, .if_icmp .ge 48, 3), (14, .aload_n 0, 1), (15, .getfield 9, 3), (18, .iload 4, 2), (20, .iaload, 1), (21, .aload_n 0, 1), (22, .getfield 9, 3), (25, .iload_n 2, 1), (26, .iaload, 1), (27, .if_icmp .ne 26, 3), (30, .aload_n 1, 1), (31, .iload 4, 2), (33, .iload_n 2, 1), (34, .invokevirtual 81, 3), (37, .ifCond .eq 16, 3), (40, .aload_n 1, 1), (41, .iload 4, 2), (43, .iload_n 3, 1), (44, .invokevirtual 81, 3), (47, .ifCond .eq 6, 3), (50, .iload 4, 2), (52, .istore_n 3, 1), (53, .iinc 4 1, 3), (56, .goto (-51), 3), (59, .iload_n 3, 1), (60, .ireturn, 1)]
def ab_c11 : List (Nat × Instr × Nat) := [(0, .aload_n 0, 1), (1, .invokespecial 3, 3), (4, .aload_n 0, 1), (5, .bipush 20, 2), (7, .newarray .long, 2), (9, .putfield 9, 3), (12, .return_, 1)]
def ab_c12 : List (Nat × Instr × Nat) := [(0, .iconst 0, 1), (1, .istore_n 2, 1), (2, .iload_n 2, 1), (3, .aload_n 1, 1), (4, .getfield 15, 3), (7, .if_icmp .ge 21, 3), (10, .aload_n 0, 1), (11, .getfield 9, 3), (14, .iload_n 2, 1), (15, .ldc2_w 21, 3), (18, .iload_n 2, 1), (19, .i2l, 1), (20, .ladd, 1), (21, .lastore, 1), (22, .iinc 2 1, 3), (25, .goto (-23), 3), (28, .iconst 0, 1), (29, .istore_n 2, 1), (30, .iload_n 2, 1), (31, .aload_n 1, 1), (32, .getfield 15, 3), (35, .if_icmp .ge 21, 3), (38, .aload_n 0, 1), (39, .getfield 9, 3), (42, .iload_n 2, 1), (43, .aload_n 0, 1), (44, .aload_n 1, 1), (45, .iload_n 2, 1), (46, .invokevirtual 23, 3), (49, .lastore, 1), (50, .iinc 2 1, 3), (53, .goto (-23), 3), (56, .return_, 1)]
def ab_c13 : List (Nat × Instr × Nat) := [(0, .aload_n 0, 1), (1, .getfield 9, 3), (4, .iload_n 1, 1), (5, .laload, 1), (6, .invokestatic 27, 3), (9, .ifCond .eq 17, 3), (12, .aload_n 0, 1), (13, .getfield 9, 3), (16, .iload_n 1, 1), (17, .laload, 1), (18, .ldc2_w 21, 3), (21, .lsub, 1), (22, .l2i, 1), (23, .goto 5, 3), (26, .bipush (-4), 2), (28, .ireturn, 1)]
def ab_c14 : List (Nat × Instr × Nat) := [(0, .aload_n 0, 1), (1, .getfield 9, 3), (4, .iload_n 1, 1), (5, .laload, 1), (6, .invokestatic 27, 3), (9, .ifCond .eq 9, 3), (12, .ldc2_w 31, 3), (15, .goto 9, 3), (18, .aload_n 0, 1), (19, .getfield 9, 3), (22, .iload_n 1, 1), (23, .laload, 1), (24, .lreturn, 1)]
def ab_c15 : List (Nat × Instr × Nat) := [(0, .lload_n 0, 1), (1, .ldc2_w 21, 3), (4, .lcmp, 1), (5, .ifCond .lt 7, 3), (8, .iconst 1, 1), (9, .goto 4, 3), (12, .iconst 0, 1), (13, .ireturn, 1)]
def ab_c16 : List (Nat × Instr × Nat) := [(0, .aload_n 1, 1), (1, .getfield 33, 3), (4, .iload_n 2, 1), (5, .iaload, 1), (6, .tableswitch 103 0 8 #[50, 75, 103, 103, 82, 103, 103, 89, 96], 50), (56, .aload_n 1, 1), (57, .getfield 37, 3), (60, .iload_n 2, 1), (61, .iaload, 1), (62, .bipush 99, 2), (64, .if_icmp .ne 9, 3), (67, .ldc2_w 40, 3), (70, .goto 10, 3), (73, .aload_n 1, 1), (74, .getfield 37, 3), (77, .iload_n 2, 1), (78, .iaload, 1), (79, .i2l, 1), (80, .lreturn, 1), (81, .aload_n 0, 1), (82, .aload_n 1, 1), (83, .iload_n 2, 1), (84, .invokevirtual 42, 3), (87, .lreturn, 1), (88, .aload_n 0, 1), (89, .aload_n 1, 1), (90, .iload_n 2, 1), (91, .invokevirtual 45, 3), (94, .lreturn, 1), (95, .aload_n 0, 1), (96, .aload_n 1, 1), (97, .iload_n 2, 1), (98, .invokevirtual 48, 3), (101, .lreturn, 1), (102, .aload_n 0, 1), (103, .getfield 9, 3), (106, .iload_n 2, 1), (107, .laload, 1), (108, .lreturn, 1), (109, .aload_n 0, 1), (110, .aload_n 1, 1), (111, .iload_n 2, 1), (112, .invokevirtual 51, 3), (115, .lreturn, 1)]
def ab_c17 : List (Nat × Instr × Nat) := [(0, .aload_n 1, 1), (1, .getfield 54, 3), (4, .iload_n 2, 1), (5, .aaload, 1), (6, .iconst 0, 1), (7, .iaload, 1), (8, .istore_n 3, 1), (9, .aload_n 0, 1), (10, .getfield 9, 3), (13, .iload_n 3, 1), (14, .laload, 1), (15, .invokestatic 27, 3), (18, .ifCond .ne 15, 3), (21, .iconst 4, 1), (22, .aload_n 0, 1), (23, .getfield 9, 3), (26, .iload_n 3, 1), (27, .laload, 1), (28, .lconst 0, 1), (29, .invokestatic 58, 3), (32, .lreturn, 1), (33, .aload_n 0, 1), (34, .iload_n 3, 1), (35, .invokevirtual 62, 3), (38, .istore 4, 2), (40, .aload_n 1, 1), (41, .getfield 33, 3), (44, .iload 4, 2), (46, .iaload, 1), (47, .iconst 4, 1), (48, .if_icmp .ne 20, 3), (51, .aload_n 0, 1), (52, .getfield 9, 3), (55, .aload_n 1, 1), (56, .getfield 54, 3), (59, .iload 4, 2), (61, .aaload, 1), (62, .iconst 0, 1), (63, .iaload, 1), (64, .laload, 1), (65, .goto 9, 3), (68, .aload_n 0, 1), (69, .aload_n 1, 1), (70, .iload_n 2, 1), (71, .invokevirtual 42, 3), (74, .lreturn, 1)]
def ab_c18 : List (Nat × Instr × Nat) := [(0, .aload_n 1, 1), (1, .getfield 33, 3), (4, .iload_n 2, 1), (5, .iaload, 1), (6, .istore_n 3, 1), (7, .aload_n 0, 1), (8, .getfield 9, 3), (11, .aload_n 1, 1), (12, .getfield 54, 3), (15, .iload_n 2, 1), (16, .aaload, 1), (17, .iconst 0, 1), (18, .iaload, 1), (19, .laload, 1), (20, .lstore 4, 2), (22, .aload_n 0, 1), (23, .getfield 9, 3), (26, .aload_n 1, 1), (27, .getfield 54, 3), (30, .iload_n 2, 1), (31, .aaload, 1), (32, .iconst 1, 1), (33, .iaload, 1), (34, .laload, 1), (35, .lstore 6, 2), (37, .lload 4, 2), (39, .invokestatic 27, 3), (42, .ifCond .ne 15, 3), (45, .lload 6, 2), (47, .invokestatic 27, 3), (50, .ifCond .ne 7, 3), (53, .iconst 1, 1), (54, .goto 4, 3), (57, .iconst 0, 1), (58, .istore 8, 2), (60, .iload 8, 2), (62, .ifCond .ne 21, 3), (65, .lload 4, 2), (67, .ldc2_w 40, 3), (70, .lcmp, 1), (71, .ifCond .eq 12, 3), (74, .lload 6, 2), (76, .ldc2_w 40, 3), (79, .lcmp, 1), (80, .ifCond .ne 12, 3), (83, .iload_n 3, 1), (84, .lload 4, 2), (86, .lload 6, 2), (88, .invokestatic 58, 3), (91, .lreturn, 1), (92, .iload_n 3, 1), (93, .iconst 2, 1), (94, .if_icmp .ne 10, 3), (97, .lload 4, 2), (99, .lconst 0, 1), (100, .lcmp, 1), (101, .ifCond .eq 15, 3), (104, .iload_n 3, 1), (105, .iconst 3, 1), (106, .if_icmp .ne 13, 3), (109, .lload 4, 2), (111, .lconst 1, 1), (112, .lcmp, 1), (113, .ifCond .ne 6, 3), (116, .lload 6, 2), (118, .lreturn, 1), (119, .iload_n 3, 1), (120, .iconst 2, 1), (121, .if_icmp .ne 10, 3), (124, .lload 6, 2), (126, .lconst 0, 1), (127, .lcmp, 1), (128, .ifCond .eq 28, 3), (131, .iload_n 3, 1), (132, .iconst 3, 1), (133, .if_icmp .ne 10, 3), (136, .lload 6, 2), (138, .lconst 1, 1), (139, .lcmp, 1), (140, .ifCond .eq 16, 3), (143, .iload_n 3, 1), (144, .bipush 6, 2), (146, .if_icmp .ne 13, 3), (149, .lload 6, 2), (151, .lconst 1, 1), (152, .lcmp, 1), (153, .ifCond .ne 6, 3), (156, .lload 4, 2), (158, .lreturn, 1), (159, .aload_n 0, 1), (160, .aload_n 1, 1), (161, .iload_n 2, 1), (162, .invokevirtual 42, 3), (165, .lreturn, 1)]
def ab_c19 : List (Nat × Instr × Nat) := [(0, .aload_n 1, 1), (1, .iload_n 2, 1), (2, .invokevirtual 66, 3), (5, .ifCond .eq 10, 3), (8, .aload_n 0, 1), (9, .getfield 9, 3), (12, .iload_n 2, 1), (13, .laload, 1), (14, .lreturn, 1), (15, .aload_n 0, 1), (16, .getfield 9, 3), (19, .aload_n 1, 1), (20, .getfield 54, 3), (23, .iload_n 2, 1), (24, .aaload, 1), (25, .iconst 0, 1), (26, .iaload, 1), (27, .laload, 1), (28, .lstore_n 3, 1), (29, .iconst 1, 1), (30, .istore 5, 2), (32, .iload 5, 2), (34, .aload_n 1, 1), (35, .getfield 70, 3), (38, .iload_n 2, 1), (39, .iaload, 1), (40, .if_icmp .ge 35, 3), (43, .aload_n 0, 1), (44, .getfield 9, 3), (47, .aload_n 1, 1), (48, .getfield 54, 3), (51, .iload_n 2, 1), (52, .aaload, 1), (53, .iload 5, 2), (55, .iaload, 1), (56, .laload, 1), (57, .lload_n 3, 1), (58, .lcmp, 1), (59, .ifCond .eq 10, 3), (62, .aload_n 0, 1), (63, .aload_n 1, 1), (64, .iload_n 2, 1), (65, .invokevirtual 42, 3), (68, .lreturn, 1), (69, .iinc 5 1, 3), (72, .goto (-40), 3), (75, .lload_n 3, 1), (76, .lreturn, 1)]
def ab_c20 : List (Nat × Instr × Nat) := [(0, .iconst 0, 1), (1, .istore_n 3, 1), (2, .iload_n 3, 1), (3, .iload_n 2, 1), (4, .if_icmp .ge 50, 3), (7, .aload_n 1, 1), (8, .getfield 33, 3), (11, .iload_n 3, 1), (12, .iaload, 1), (13, .aload_n 1, 1), (14, .getfield 33, 3), (17, .iload_n 2, 1), (18, .iaload, 1), (19, .if_icmp .ne 29, 3), (22, .aload_n 0, 1), (23, .iload_n 3, 1), (24, .invokevirtual 62, 3), (27, .iload_n 3, 1), (28, .if_icmp .ne 20, 3), (31, .aload_n 0, 1), (32, .aload_n 1, 1), (33, .iload_n 3, 1), (34, .iload_n 2, 1), (35, .invokevirtual 73, 3), (38, .ifCond .eq 10, 3), (41, .aload_n 0, 1), (42, .getfield 9, 3), (45, .iload_n 3, 1), (46, .laload, 1), (47, .lreturn, 1), (48, .iinc 3 1, 3), (51, .goto (-49), 3), (54, .aload_n 0, 1), (55, .getfield 9, 3), (58, .iload_n 2, 1), (59, .laload, 1), (60, .lreturn, 1)]
def ab_c21 : List (Nat × Instr × Nat) := [(0, .aload_n 1, 1), (1, .getfield 33, 3), (4, .iload_n 3, 1), (5, .iaload, 1), (6, .iconst 1, 1), (7, .if_icmp .ne 24, 3), (10, .aload_n 1, 1), (11, .getfield 37, 3), (14, .iload_n 2, 1), (15, .iaload, 1), (16, .aload_n 1, 1), (17, .getfield 37, 3), (20, .iload_n 3, 1), (21, .iaload, 1), (22, .if_icmp .ne 7, 3), (25, .iconst 1, 1), (26, .goto 4, 3), (29, .iconst 0, 1), (30, .ireturn, 1), (31, .aload_n 1, 1), (32, .getfield 33, 3), (35, .iload_n 3, 1), (36, .iaload, 1), (37, .bipush 7, 2), (39, .if_icmp .ne 28, 3), (42, .aload_n 1, 1), (43, .getfield 77, 3), (46, .iload_n 2, 1), (47, .iaload, 1), (48, .aload_n 1, 1), (49, .getfield 77, 3), (52, .iload_n 3, 1), (53, .iaload, 1), (54, .if_icmp .ne 11, 3), (57, .aload_n 1, 1), (58, .iload_n 2, 1), (59, .invokevirtual 66, 3), (62, .ifCond .eq 5, 3), (65, .iconst 0, 1), (66, .ireturn, 1), (67, .iconst 1, 1), (68, .istore 4, 2), (70, .iconst 0, 1), (71, .istore 5, 2), (73, .iload 5, 2), (75, .aload_n 1, 1), (76, .getfield 70, 3), (79, .iload_n 3, 1), (80, .iaload, 1), (81, .if_icmp .ge 27, 3), (84, .iload 4, 2), (86, .ifCond .eq 22, 3), (89, .aload_n 0, 1), (90, .aload_n 1, 1), (91, .iload_n 2, 1), (92, .iload 5, 2), (94, .iload_n 3, 1), (95, .iload 5, 2), (97, .invokevirtual 80, 3), (100, .istore 4, 2), (102, .iinc 5 1, 3), (105, .goto (-32), 3), (108, .iload 4, 2), (110, .ifCond .eq 5, 3), (113, .iconst 1, 1), (114, .ireturn, 1), (115, .aload_n 1, 1), (116, .getfield 33, 3), (119, .iload_n 3, 1), (120, .iaload, 1), (121, .iconst 2, 1), (122, .if_icmp .eq 13, 3), (125, .aload_n 1, 1), (126, .getfield 33, 3), (129, .iload_n 3, 1), (130, .iaload, 1), (131, .iconst 3, 1), (132, .if_icmp .ne 7, 3), (135, .iconst 1, 1), (136, .goto 4, 3), (139, .iconst 0, 1), (140, .istore 5, 2), (142, .iload 5, 2), (144, .ifCond .eq 31, 3), (147, .aload_n 0, 1), (148, .aload_n 1, 1), (149, .iload_n 2, 1), (150, .iconst 0, 1), (151, .iload_n 3, 1), (152, .iconst 1, 1), (153, .invokevirtual 80, 3), (156, .ifCond .eq 19, 3), (159, .aload_n 0, 1), (160, .aload_n 1, 1), (161, .iload_n 2, 1), (162, .iconst 1, 1), (163, .iload_n 3, 1), (164, .iconst 0, 1), (165, .invokevirtual 80, 3), (168, .ifCond .eq 7, 3), (171, .iconst 1, 1), (172, .goto 4, 3), (175, .iconst 0, 1), (176, .ireturn, 1)]
def ab_c22 : List (Nat × Instr × Nat) := [(0, .aload_n 0, 1), (1, .getfield 9, 3), (4, .aload_n 1, 1), (5, .getfield 54, 3), (8, .iload_n 2, 1), (9, .aaload, 1), (10, .iload_n 3, 1), (11, .iaload, 1), (12, .laload, 1), (13, .aload_n 0, 1), (14, .getfield 9, 3), (17, .aload_n 1, 1), (18, .getfield 54, 3), (21, .iload 4, 2), (23, .aaload, 1), (24, .iload 5, 2), (26, .iaload, 1), (27, .laload, 1), (28, .lcmp, 1), (29, .ifCond .ne 7, 3), (32, .iconst 1, 1), (33, .goto 4, 3), (36, .iconst 0, 1), (37, .ireturn, 1)]
def ab_c23 : List (Nat × Instr × Nat) := [(0, .aload_n 0, 1), (1, .invokespecial 3, 3), (4, .aload_n 0, 1), (5, .iconst 4, 1), (6, .newarray .int, 2), (8, .putfield 9, 3), (11, .aload_n 0, 1), (12, .bipush 20, 2), (14, .newarray .long, 2), (16, .putfield 15, 3), (19, .aload_n 0, 1), (20, .bipush 20, 2), (22, .newarray .long, 2), (24, .putfield 19, 3), (27, .aload_n 0, 1), (28, .bipush (-4), 2), (30, .putfield 22, 3), (33, .aload_n 0, 1), (34, .bipush (-4), 2), (36, .putfield 26, 3), (39, .return_, 1)]
def ab_c24 : List (Nat × Instr × Nat) := [(0, .aload_n 0, 1), (1, .iconst 0, 1), (2, .putfield 29, 3), (5, .return_, 1)]
def ab_c25 : List (Nat × Instr × Nat) := [(0, .aload_n 0, 1), (1, .getfield 9, 3), (4, .iconst 0, 1), (5, .iload_n 1, 1), (6, .iastore, 1), (7, .aload_n 0, 1), (8, .getfield 9, 3), (11, .iconst 1, 1), (12, .iload_n 2, 1), (13, .iastore, 1), (14, .aload_n 0, 1), (15, .getfield 9, 3), (18, .iconst 2, 1), (19, .iload_n 3, 1), (20, .iastore, 1), (21, .aload_n 0, 1), (22, .getfield 9, 3), (25, .iconst 3, 1), (26, .iload 4, 2), (28, .iastore, 1), (29, .return_, 1)]
def ab_c26 : List (Nat × Instr × Nat) := [(0, .iload_n 1, 1), (1, .istore_n 2, 1), (2, .iconst 0, 1), (3, .istore_n 3, 1), (4, .iload_n 3, 1), (5, .iconst 4, 1), (6, .if_icmp .ge 37, 3), (9, .iload_n 2, 1), (10, .ldc 33, 2), (12, .imul, 1), (13, .sipush 12345, 3), (16, .iadd, 1), (17, .istore_n 2, 1), (18, .aload_n 0, 1), (19, .getfield 9, 3), (22, .iload_n 3, 1), (23, .iload_n 2, 1), (24, .bipush 16, 2), (26, .iushr, 1), (27, .sipush 32767, 3), (30, .iand, 1), (31, .bipush 9, 2), (33, .irem, 1), (34, .iconst 4, 1), (35, .isub, 1), (36, .iastore, 1), (37, .iinc 3 1, 3), (40, .goto (-36), 3), (43, .iload_n 2, 1), (44, .ireturn, 1)]
def ab_c27 : List (Nat × Instr × Nat) := [(0, .aload_n 0, 1), (1, .iload_n 1, 1), (2, .putfield 26, 3), (5, .aload_n 0, 1), (6, .iload_n 2, 1), (7, .putfield 22, 3), (10, .aload_n 0, 1), (11, .iconst 0, 1), (12, .putfield 34, 3), (15, .return_, 1)]
def ab_c28 : List (Nat × Instr × Nat) := [(0, .iconst 0, 1), (1, .istore_n 2, 1), (2, .iload_n 2, 1), (3, .bipush 20, 2), (5, .if_icmp .ge 18, 3), (8, .aload_n 0, 1), (9, .getfield 15, 3), (12, .iload_n 2, 1), (13, .ldc2_w 37, 3), (16, .lastore, 1), (17, .iinc 2 1, 3), (20, .goto (-18), 3), (23, .aload_n 0, 1), (24, .iconst 1, 1), (25, .putfield 29, 3), (28, .aload_n 0, 1), (29, .iconst 0, 1), (30, .putfield 39, 3), (33, .aload_n 0, 1), (34, .iconst 0, 1), (35, .putfield 42, 3), (38, .aload_n 0, 1), (39, .iconst 0, 1), (40, .putfield 45, 3), (43, .bipush (-4), 2), (45, .istore_n 2, 1), (46, .iconst 0, 1), (47, .istore_n 3, 1), (48, .iconst 0, 1), (49, .istore 4, 2), (51, .iload 4, 2), (53, .sipush 200, 3), (56, .if_icmp .ge 70, 3), (59, .aload_n 1, 1), (60, .iload_n 3, 1), (61, .invokevirtual 48, 3), (64, .ifCond .eq 62, 3), (67, .aload_n 0, 1), (68, .aload_n 1, 1), (69, .iload_n 2, 1), (70, .iload_n 3, 1), (71, .invokevirtual 54, 3), (74, .aload_n 0, 1), (75, .dup, 1), (76, .getfield 45, 3), (79, .iconst 1, 1), (80, .iadd, 1), (81, .putfield 45, 3), (84, .aload_n 1, 1), (85, .getfield 58, 3), (88, .iload_n 3, 1), (89, .iaload, 1), (90, .iconst 2, 1), (91, .if_icmp .ne 20, 3), (94, .aload_n 0, 1), (95, .iconst 1, 1), (96, .putfield 39, 3), (99, .aload_n 0, 1), (100, .getfield 15, 3), (103, .aload_n 1, 1), (104, .getfield 61, 3), (107, .iload_n 3, 1), (108, .iaload, 1), (109, .laload, 1), (110, .lreturn, 1), (111, .iload_n 3, 1), (112, .istore_n 2, 1), (113, .aload_n 0, 1), (114, .aload_n 1, 1), (115, .iload_n 3, 1), (116, .invokevirtual 64, 3), (119, .istore_n 3, 1), (120, .iinc 4 1, 3), (123, .goto (-72), 3), (126, .ldc2_w 37, 3), (129, .lreturn, 1)]
def ab_c29 : List (Nat × Instr × Nat) := [(0, .aload_n 1, 1), (1, .getfield 58, 3), (4, .iload_n 2, 1), (5, .iaload, 1), (6, .ifCond .ne 10, 3), (9, .aload_n 1, 1), (10, .getfield 68, 3), (13, .iload_n 2, 1), (14, .iaload, 1), (15, .ireturn, 1), (16, .aload_n 0, 1), (17, .getfield 15, 3), (20, .aload_n 1, 1), (21, .getfield 61, 3), (24, .iload_n 2, 1), (25, .iaload, 1), (26, .laload, 1), (27, .lstore_n 3, 1), (28, .lload_n 3, 1), (29, .lconst 0, 1), (30, .lcmp, 1), (31, .ifCond .le 20, 3), (34, .lload_n 3, 1), (35, .ldc2_w 71, 3), (38, .lcmp, 1), (39, .ifCond .eq 12, 3), (42, .aload_n 1, 1), (43, .getfield 68, 3), (46, .iload_n 2, 1), (47, .iaload, 1), (48, .goto 9, 3), (51, .aload_n 1, 1), (52, .getfield 73, 3), (55, .iload_n 2, 1), (56, .iaload, 1), (57, .ireturn, 1)]
def ab_c30 : List (Nat × Instr × Nat) := [(0, .aload_n 1, 1), (1, .getfield 76, 3), (4, .iload_n 3, 1), (5, .iaload, 1), (6, .aload_n 1, 1), (7, .getfield 79, 3), (10, .iload_n 3, 1), (11, .iaload, 1), (12, .iadd, 1), (13, .istore 4, 2), (15, .aload_n 0, 1), (16, .aload_n 1, 1), (17, .aload_n 1, 1), (18, .iload_n 2, 1), (19, .iload_n 3, 1), (20, .invokevirtual 82, 3), (23, .aload_n 1, 1), (24, .getfield 76, 3), (27, .iload_n 3, 1), (28, .iaload, 1), (29, .iload 4, 2), (31, .invokevirtual 86, 3), (34, .aload_n 1, 1), (35, .getfield 76, 3), (38, .iload_n 3, 1), (39, .iaload, 1), (40, .istore 5, 2), (42, .iload 5, 2), (44, .iload 4, 2), (46, .if_icmp .ge 73, 3), (49, .aload_n 1, 1), (50, .getfield 90, 3), (53, .iload 5, 2), (55, .iaload, 1), (56, .bipush 7, 2), (58, .if_icmp .eq 55, 3), (61, .aload_n 1, 1), (62, .getfield 90, 3), (65, .iload 5, 2), (67, .iaload, 1), (68, .bipush 8, 2), (70, .if_icmp .ne 6, 3), (73, .goto 40, 3), (76, .aload_n 0, 1), (77, .getfield 15, 3), (80, .iload 5, 2), (82, .aload_n 0, 1), (83, .aload_n 1, 1), (84, .iload 5, 2), (86, .invokevirtual 93, 3), (89, .lastore, 1), (90, .aload_n 0, 1), (91, .dup, 1), (92, .getfield 42, 3), (95, .iconst 1, 1), (96, .iadd, 1), (97, .putfield 42, 3), (100, .iload 5, 2), (102, .aload_n 0, 1), (103, .getfield 22, 3), (106, .if_icmp .ne 7, 3), (109, .aload_n 0, 1), (110, .invokevirtual 97, 3), (113, .iinc 5 1, 3), (116, .goto (-74), 3), (119, .return_, 1)]
def ab_c31 : List (Nat × Instr × Nat) := [(0, .iload_n 2, 1), (1, .ifCond .ge 4, 3), (4, .return_, 1), (5, .iconst 0, 1), (6, .istore 5, 2), (8, .iload_n 3, 1), (9, .istore 6, 2), (11, .iload 6, 2), (13, .iload 4, 2), (15, .if_icmp .ge 42, 3), (18, .aload_n 1, 1), (19, .getfield 90, 3), (22, .iload 6, 2), (24, .iaload, 1), (25, .bipush 7, 2), (27, .if_icmp .ne 24, 3), (30, .aload_n 0, 1), (31, .getfield 19, 3), (34, .iload 6, 2), (36, .aload_n 0, 1), (37, .getfield 15, 3), (40, .aload_n 1, 1), (41, .getfield 100, 3), (44, .iload 6, 2), (46, .aaload, 1), (47, .iload_n 2, 1), (48, .iaload, 1), (49, .laload, 1), (50, .lastore, 1), (51, .iinc 6 1, 3), (54, .goto (-43), 3), (57, .iload_n 3, 1), (58, .istore 6, 2), (60, .iload 6, 2), (62, .iload 4, 2), (64, .if_icmp .ge 60, 3), (67, .aload_n 1, 1), (68, .getfield 90, 3), (71, .iload 6, 2), (73, .iaload, 1), (74, .bipush 7, 2), (76, .if_icmp .eq 6, 3), (79, .goto 39, 3), (82, .aload_n 0, 1), (83, .getfield 15, 3), (86, .iload 6, 2), (88, .aload_n 0, 1), (89, .getfield 19, 3), (92, .iload 6, 2), (94, .laload, 1), (95, .lastore, 1), (96, .aload_n 0, 1), (97, .dup, 1), (98, .getfield 42, 3), (101, .iconst 1, 1), (102, .iadd, 1), (103, .putfield 42, 3), (106, .iload 6, 2), (108, .aload_n 0, 1), (109, .getfield 22, 3), (112, .if_icmp .ne 6, 3), (115, .iconst 1, 1), (116, .istore 5, 2), (118, .iinc 6 1, 3), (121, .goto (-61), 3), (124, .iload 5, 2), (126, .ifCond .eq 7, 3), (129, .aload_n 0, 1), (130, .invokevirtual 97, 3), (133, .return_, 1)]
def ab_c32 : List (Nat × Instr × Nat) := [(0, .aload_n 1, 1), (1, .getfield 90, 3), (4, .iload_n 2, 1), (5, .iaload, 1), (6, .ifCond .ne 28, 3), (9, .aload_n 1, 1), (10, .getfield 104, 3), (13, .iload_n 2, 1), (14, .iaload, 1), (15, .bipush 99, 2), (17, .if_icmp .ne 9, 3), (20, .ldc2_w 71, 3), (23, .goto 10, 3), (26, .aload_n 1, 1), (27, .getfield 104, 3), (30, .iload_n 2, 1), (31, .iaload, 1), (32, .i2l, 1), (33, .lreturn, 1), (34, .aload_n 1, 1), (35, .getfield 90, 3), (38, .iload_n 2, 1), (39, .iaload, 1), (40, .iconst 1, 1), (41, .if_icmp .ne 16, 3), (44, .aload_n 0, 1), (45, .getfield 9, 3), (48, .aload_n 1, 1), (49, .getfield 104, 3), (52, .iload_n 2, 1), (53, .iaload, 1), (54, .iaload, 1), (55, .i2l, 1), (56, .lreturn, 1), (57, .aload_n 0, 1), (58, .getfield 15, 3), (61, .aload_n 1, 1), (62, .getfield 100, 3), (65, .iload_n 2, 1), (66, .aaload, 1), (67, .iconst 0, 1), (68, .iaload, 1), (69, .laload, 1), (70, .lstore_n 3, 1), (71, .aload_n 1, 1), (72, .getfield 90, 3), (75, .iload_n 2, 1), (76, .iaload, 1), (77, .iconst 4, 1), (78, .if_icmp .ne 12, 3), (81, .iconst 4, 1), (82, .lload_n 3, 1), (83, .lconst 0, 1), (84, .invokestatic 107, 3), (87, .goto 26, 3), (90, .aload_n 1, 1), (91, .getfield 90, 3), (94, .iload_n 2, 1), (95, .iaload, 1), (96, .lload_n 3, 1), (97, .aload_n 0, 1), (98, .getfield 15, 3), (101, .aload_n 1, 1), (102, .getfield 100, 3), (105, .iload_n 2, 1), (106, .aaload, 1), (107, .iconst 1, 1), (108, .iaload, 1), (109, .laload, 1), (110, .invokestatic 107, 3), (113, .lreturn, 1)]
def ab_c33 : List (Nat × Instr × Nat) := [(0, .aload_n 0, 1), (1, .getfield 15, 3), (4, .aload_n 0, 1), (5, .getfield 26, 3), (8, .laload, 1), (9, .ldc2_w 37, 3), (12, .lcmp, 1), (13, .ifCond .eq 35, 3), (16, .aload_n 0, 1), (17, .getfield 15, 3), (20, .aload_n 0, 1), (21, .getfield 26, 3), (24, .laload, 1), (25, .aload_n 0, 1), (26, .getfield 15, 3), (29, .aload_n 0, 1), (30, .getfield 22, 3), (33, .laload, 1), (34, .lcmp, 1), (35, .ifCond .eq 13, 3), (38, .aload_n 0, 1), (39, .dup, 1), (40, .getfield 34, 3), (43, .iconst 1, 1), (44, .iadd, 1), (45, .putfield 34, 3), (48, .return_, 1)]
def ab_c34 : List (Nat × Instr × Nat) := [(0, .aload_n 0, 1), (1, .invokespecial 3, 3), (4, .aload_n 0, 1), (5, .bipush 6, 2), (7, .newarray .int, 2), (9, .putfield 9, 3), (12, .aload_n 0, 1), (13, .bipush 6, 2), (15, .newarray .int, 2), (17, .putfield 15, 3), (20, .aload_n 0, 1), (21, .bipush 6, 2), (23, .newarray .int, 2), (25, .putfield 18, 3), (28, .aload_n 0, 1), (29, .bipush 6, 2), (31, .newarray .int, 2), (33, .putfield 21, 3), (36, .aload_n 0, 1), (37, .bipush 6, 2), (39, .newarray .int, 2), (41, .putfield 24, 3), (44, .aload_n 0, 1), (45, .bipush 6, 2), (47, .newarray .int, 2), (49, .putfield 27, 3), (52, .aload_n 0, 1), (53, .bipush 6, 2), (55, .newarray .int, 2), (57, .putfield 30, 3), (60, .aload_n 0, 1), (61, .bipush 6, 2), (63, .bipush 6, 2), (65, .multianewarray 33 2, 4), (69, .putfield 35, 3), (72, .aload_n 0, 1), (73, .bipush 6, 2), (75, .newarray .int, 2), (77, .putfield 38, 3), (80, .aload_n 0, 1), (81, .bipush 20, 2), (83, .newarray .int, 2), (85, .putfield 41, 3), (88, .aload_n 0, 1), (89, .bipush 20, 2), (91, .newarray .int, 2), (93, .putfield 44, 3), (96, .aload_n 0, 1), (97, .bipush 20, 2), (99, .newarray .int, 2), (101, .putfield 47, 3), (104, .aload_n 0, 1), (105, .bipush 20, 2), (107, .newarray .int, 2), (109, .putfield 50, 3), (112, .aload_n 0, 1), (113, .bipush 20, 2), (115, .bipush 6, 2), (117, .multianewarray 33 2, 4), (121, .putfield 53, 3), (124, .aload_n 0, 1), (125, .bipush 20, 2), (127, .newarray .boolean, 2), (129, .putfield 56, 3), (132, .return_, 1)]
def ab_c35 : List (Nat × Instr × Nat) := [(0, .aload_n 0, 1), (1, .iconst 0, 1), (2, .putfield 60, 3), (5, .aload_n 0, 1), (6, .iconst 0, 1), (7, .putfield 64, 3), (10, .return_, 1)]
def ab_c36 : List (Nat × Instr × Nat) := [(0, .aload_n 0, 1), (1, .getfield 60, 3), (4, .bipush 6, 2), (6, .if_icmp .lt 5, 3), (9, .iconst 0, 1), (10, .ireturn, 1), (11, .aload_n 0, 1), (12, .getfield 9, 3), (15, .aload_n 0, 1), (16, .getfield 60, 3), (19, .aload_n 0, 1), (20, .getfield 64, 3), (23, .iastore, 1), (24, .aload_n 0, 1), (25, .getfield 15, 3), (28, .aload_n 0, 1), (29, .getfield 60, 3), (32, .iconst 0, 1), (33, .iastore, 1), (34, .aload_n 0, 1), (35, .dup, 1), (36, .getfield 60, 3), (39, .iconst 1, 1), (40, .iadd, 1), (41, .putfield 60, 3), (44, .iconst 1, 1), (45, .ireturn, 1)]
def ab_c37 : List (Nat × Instr × Nat) := [(0, .aload_n 0, 1), (1, .getfield 60, 3), (4, .iconst 1, 1), (5, .if_icmp .lt 12, 3), (8, .aload_n 0, 1), (9, .getfield 64, 3), (12, .bipush 20, 2), (14, .if_icmp .lt 5, 3), (17, .iconst 0, 1), (18, .ireturn, 1), (19, .aload_n 0, 1), (20, .getfield 41, 3), (23, .aload_n 0, 1), (24, .getfield 64, 3), (27, .iload_n 1, 1), (28, .iastore, 1), (29, .aload_n 0, 1), (30, .getfield 44, 3), (33, .aload_n 0, 1), (34, .getfield 64, 3), (37, .aload_n 0, 1), (38, .getfield 60, 3), (41, .iconst 1, 1), (42, .isub, 1), (43, .iastore, 1), (44, .aload_n 0, 1), (45, .getfield 47, 3), (48, .aload_n 0, 1), (49, .getfield 64, 3), (52, .iconst 0, 1), (53, .iastore, 1), (54, .aload_n 0, 1), (55, .getfield 15, 3), (58, .aload_n 0, 1), (59, .getfield 60, 3), (62, .iconst 1, 1), (63, .isub, 1), (64, .dup2, 1), (65, .iaload, 1), (66, .iconst 1, 1), (67, .iadd, 1), (68, .iastore, 1), (69, .aload_n 0, 1), (70, .dup, 1), (71, .getfield 64, 3), (74, .iconst 1, 1), (75, .iadd, 1), (76, .putfield 64, 3), (79, .iconst 1, 1), (80, .ireturn, 1)]
def ab_c38 : List (Nat × Instr × Nat) := [(0, .aload_n 0, 1), (1, .getfield 64, 3), (4, .ifCond .le 15, 3), (7, .aload_n 0, 1), (8, .getfield 50, 3), (11, .aload_n 0, 1), (12, .getfield 64, 3), (15, .iconst 1, 1), (16, .isub, 1), (17, .iload_n 1, 1), (18, .iastore, 1), (19, .return_, 1)]
def ab_c39 : List (Nat × Instr × Nat) := [(0, .aload_n 0, 1), (1, .getfield 64, 3), (4, .iconst 1, 1), (5, .if_icmp .ge 4, 3), (8, .return_, 1), (9, .aload_n 0, 1), (10, .getfield 64, 3), (13, .iconst 1, 1), (14, .isub, 1), (15, .istore_n 2, 1), (16, .aload_n 0, 1), (17, .getfield 47, 3), (20, .iload_n 2, 1), (21, .iaload, 1), (22, .ifCond .lt 28, 3), (25, .aload_n 0, 1), (26, .getfield 47, 3), (29, .iload_n 2, 1), (30, .iaload, 1), (31, .bipush 6, 2), (33, .if_icmp .ge 17, 3), (36, .aload_n 0, 1), (37, .getfield 53, 3), (40, .iload_n 2, 1), (41, .aaload, 1), (42, .aload_n 0, 1), (43, .getfield 47, 3), (46, .iload_n 2, 1), (47, .iaload, 1), (48, .iload_n 1, 1), (49, .iastore, 1), (50, .aload_n 0, 1), (51, .getfield 47, 3), (54, .iload_n 2, 1), (55, .dup2, 1), (56, .iaload, 1), (57, .iconst 1, 1), (58, .iadd, 1), (59, .iastore, 1), (60, .return_, 1)]
def ab_c40 : List (Nat × Instr × Nat) := [(0, .aload_n 0, 1), (1, .getfield 60, 3), (4, .ifCond .le 15, 3), (7, .aload_n 0, 1), (8, .getfield 18, 3), (11, .aload_n 0, 1), (12, .getfield 60, 3), (15, .iconst 1, 1), (16, .isub, 1), (17, .iload_n 1, 1), (18, .iastore, 1), (19, .return_, 1)]
def ab_c41 : List (Nat × Instr × Nat) := [(0, .aload_n 0, 1), (1, .getfield 60, 3), (4, .ifCond .le 15, 3), (7, .aload_n 0, 1), (8, .getfield 27, 3), (11, .aload_n 0, 1), (12, .getfield 60, 3), (15, .iconst 1, 1), (16, .isub, 1), (17, .iload_n 1, 1), (18, .iastore, 1), (19, .return_, 1)]
def ab_c42 : List (Nat × Instr × Nat) := [(0, .aload_n 0, 1), (1, .getfield 60, 3), (4, .ifCond .le 15, 3), (7, .aload_n 0, 1), (8, .getfield 21, 3), (11, .aload_n 0, 1), (12, .getfield 60, 3), (15, .iconst 1, 1), (16, .isub, 1), (17, .iload_n 1, 1), (18, .iastore, 1), (19, .return_, 1)]
def ab_c43 : List (Nat × Instr × Nat) := [(0, .aload_n 0, 1), (1, .getfield 60, 3), (4, .ifCond .le 15, 3), (7, .aload_n 0, 1), (8, .getfield 24, 3), (11, .aload_n 0, 1), (12, .getfield 60, 3), (15, .iconst 1, 1), (16, .isub, 1), (17, .iload_n 1, 1), (18, .iastore, 1), (19, .return_, 1)]
def ab_c44 : List (Nat × Instr × Nat) := [(0, .aload_n 0, 1), (1, .aload_n 1, 1), (2, .getfield 60, 3), (5, .putfield 60, 3), (8, .aload_n 0, 1), (9, .aload_n 1, 1), (10, .getfield 64, 3), (13, .putfield 64, 3), (16, .aload_n 1, 1), (17, .getfield 9, 3), (20, .iconst 0, 1), (21, .aload_n 0, 1), (22, .getfield 9, 3), (25, .iconst 0, 1), (26, .bipush 6, 2), (28, .invokestatic 67, 3), (31, .aload_n 1, 1), (32, .getfield 15, 3), (35, .iconst 0, 1), (36, .aload_n 0, 1), (37, .getfield 15, 3), (40, .iconst 0, 1), (41, .bipush 6, 2), (43, .invokestatic 67, 3), (46, .aload_n 1, 1), (47, .getfield 18, 3), (50, .iconst 0, 1), (51, .aload_n 0, 1), (52, .getfield 18, 3), (55, .iconst 0, 1), (56, .bipush 6, 2), (58, .invokestatic 67, 3), (61, .aload_n 1, 1), (62, .getfield 21, 3), (65, .iconst 0, 1), (66, .aload_n 0, 1), (67, .getfield 21, 3), (70, .iconst 0, 1), (71, .bipush 6, 2), (73, .invokestatic 67, 3), (76, .aload_n 1, 1), (77, .getfield 24, 3), (80, .iconst 0, 1), (81, .aload_n 0, 1), (82, .getfield 24, 3), (85, .iconst 0, 1), (86, .bipush 6, 2), (88, .invokestatic 67, 3), (91, .aload_n 1, 1), (92, .getfield 27, 3), (95, .iconst 0, 1), (96, .aload_n 0, 1), (97, .getfield 27, 3), (100, .iconst 0, 1), (101, .bipush 6, 2), (103, .invokestatic 67, 3), (106, .aload_n 1, 1), (107, .getfield 30, 3), (110, .iconst 0, 1), (111, .aload_n 0, 1), (112, .getfield 30, 3), (115, .iconst 0, 1), (116, .bipush 6, 2), (118, .invokestatic 67, 3), (121, .aload_n 1, 1), (122, .getfield 38, 3), (125, .iconst 0, 1), (126, .aload_n 0, 1), (127, .getfield 38, 3), (130, .iconst 0, 1), (131, .bipush 6, 2), (133, .invokestatic 67, 3), (136, .aload_n 1, 1), (137, .getfield 41, 3), (140, .iconst 0, 1), (141, .aload_n 0, 1), (142, .getfield 41, 3), (145, .iconst 0, 1), (146, .bipush 20, 2), (148, .invokestatic 67, 3), (151, .aload_n 1, 1), (152, .getfield 44, 3), (155, .iconst 0, 1), (156, .aload_n 0, 1), (157, .getfield 44, 3), (160, .iconst 0, 1), (161, .bipush 20, 2), (163, .invokestatic 67, 3), (166, .aload_n 1, 1), (167, .getfield 47, 3), (170, .iconst 0, 1), (171, .aload_n 0, 1), (172, .getfield 47, 3), (175, .iconst 0, 1), (176, .bipush 20, 2), (178, .invokestatic 67, 3), (181, .aload_n 1, 1), (182, .getfield 50, 3), (185, .iconst 0, 1), (186, .aload_n 0, 1), (187, .getfield 50, 3), (190, .iconst 0, 1), (191, .bipush 20, 2), (193, .invokestatic 67, 3), (196, .iconst 0, 1), (197, .istore_n 2, 1), (198, .iload_n 2, 1), (199, .bipush 6, 2), (201, .if_icmp .ge 28, 3), (204, .aload_n 1, 1), (205, .getfield 35, 3), (208, .iload_n 2, 1), (209, .aaload, 1), (210, .iconst 0, 1), (211, .aload_n 0, 1), (212, .getfield 35, 3), (215, .iload_n 2, 1), (216, .aaload, 1), (217, .iconst 0, 1), (218, .bipush 6, 2), (220, .invokestatic 67, 3), (223, .iinc 2 1, 3), (226, .goto (-28), 3), (229, .iconst 0, 1), (230, .istore_n 2, 1), (231, .iload_n 2, 1), (232, .bipush 20, 2), (234, .if_icmp .ge 28, 3), (237, .aload_n 1, 1), (238, .getfield 53, 3), (241, .iload_n 2, 1), (242, .aaload, 1), (243, .iconst 0, 1), (244, .aload_n 0, 1), (245, .getfield 53, 3), (248, .iload_n 2, 1), (249, .aaload, 1), (250, .iconst 0, 1), (251, .bipush 6, 2), (253, .invokestatic 67, 3), (256, .iinc 2 1, 3), (259, .goto (-28), 3), (262, .return_, 1)]
def ab_c45 : List (Nat × Instr × Nat) := [(0, .iload_n 1, 1), (1, .ifCond .lt 15, 3), (4, .iload_n 1, 1), (5, .aload_n 0, 1), (6, .getfield 60, 3), (9, .if_icmp .ge 7, 3), (12, .iconst 1, 1), (13, .goto 4, 3), (16, .iconst 0, 1), (17, .ireturn, 1)]
def ab_c46 : List (Nat × Instr × Nat) := [(0, .iload_n 1, 1), (1, .ifCond .lt 15, 3), (4, .iload_n 1, 1), (5, .aload_n 0, 1), (6, .getfield 64, 3), (9, .if_icmp .ge 7, 3), (12, .iconst 1, 1), (13, .goto 4, 3), (16, .iconst 0, 1), (17, .ireturn, 1)]
def ab_c47 : List (Nat × Instr × Nat) := [(0, .aload_n 0, 1), (1, .iload_n 1, 1), (2, .invokevirtual 73, 3), (5, .ifCond .eq 27, 3), (8, .iload_n 2, 1), (9, .ifCond .lt 23, 3), (12, .iload_n 2, 1), (13, .aload_n 0, 1), (14, .getfield 47, 3), (17, .iload_n 1, 1), (18, .iaload, 1), (19, .if_icmp .ge 13, 3), (22, .iload_n 2, 1), (23, .bipush 6, 2), (25, .if_icmp .ge 7, 3), (28, .iconst 1, 1), (29, .goto 4, 3), (32, .iconst 0, 1), (33, .ireturn, 1)]
def ab_c48 : List (Nat × Instr × Nat) := [(0, .aload_n 0, 1), (1, .getfield 41, 3), (4, .iload_n 1, 1), (5, .iaload, 1), (6, .ifCond .eq 13, 3), (9, .aload_n 0, 1), (10, .getfield 41, 3), (13, .iload_n 1, 1), (14, .iaload, 1), (15, .iconst 1, 1), (16, .if_icmp .ne 7, 3), (19, .iconst 1, 1), (20, .goto 4, 3), (23, .iconst 0, 1), (24, .ireturn, 1)]
def ab_c49 : List (Nat × Instr × Nat) := [(0, .aload_n 0, 1), (1, .getfield 18, 3), (4, .iload_n 1, 1), (5, .iaload, 1), (6, .iconst 2, 1), (7, .if_icmp .ne 5, 3), (10, .iconst 0, 1), (11, .ireturn, 1), (12, .aload_n 0, 1), (13, .getfield 18, 3), (16, .iload_n 1, 1), (17, .iaload, 1), (18, .ifCond .ne 14, 3), (21, .iconst 1, 1), (22, .aload_n 0, 1), (23, .getfield 21, 3), (26, .iload_n 1, 1), (27, .iaload, 1), (28, .ishl, 1), (29, .goto 20, 3), (32, .iconst 1, 1), (33, .aload_n 0, 1), (34, .getfield 21, 3), (37, .iload_n 1, 1), (38, .iaload, 1), (39, .ishl, 1), (40, .iconst 1, 1), (41, .aload_n 0, 1), (42, .getfield 24, 3), (45, .iload_n 1, 1), (46, .iaload, 1), (47, .ishl, 1), (48, .ior, 1), (49, .ireturn, 1)]
def ab_c50 : List (Nat × Instr × Nat) := [(0, .aload_n 0, 1), (1, .getfield 60, 3), (4, .ifCond .eq 11, 3), (7, .iload_n 1, 1), (8, .iconst 0, 1), (9, .invokestatic 77, 3), (12, .ifCond .eq 5, 3), (15, .iconst 0, 1), (16, .ireturn, 1), (17, .iconst 1, 1), (18, .istore_n 2, 1), (19, .iconst 0, 1), (20, .istore_n 3, 1), (21, .iload_n 3, 1), (22, .aload_n 0, 1), (23, .getfield 60, 3), (26, .if_icmp .ge 49, 3), (29, .iconst 0, 1), (30, .istore 4, 2), (32, .iload 4, 2), (34, .aload_n 0, 1), (35, .getfield 60, 3), (38, .if_icmp .ge 31, 3), (41, .iload_n 2, 1), (42, .iload 4, 2), (44, .invokestatic 77, 3), (47, .ifCond .eq 16, 3), (50, .iload_n 2, 1), (51, .aload_n 0, 1), (52, .iload 4, 2), (54, .invokevirtual 81, 3), (57, .iload_n 1, 1), (58, .iconst (-1), 1), (59, .ixor, 1), (60, .iand, 1), (61, .ior, 1), (62, .istore_n 2, 1), (63, .iinc 4 1, 3), (66, .goto (-34), 3), (69, .iinc 3 1, 3), (72, .goto (-51), 3), (75, .iload_n 2, 1), (76, .ireturn, 1)]
def ab_c51 : List (Nat × Instr × Nat) := [(0, .iconst 0, 1), (1, .istore_n 1, 1), (2, .iload_n 1, 1), (3, .aload_n 0, 1), (4, .getfield 60, 3), (7, .if_icmp .ge 16, 3), (10, .aload_n 0, 1), (11, .getfield 38, 3), (14, .iload_n 1, 1), (15, .iconst 0, 1), (16, .iastore, 1), (17, .iinc 1 1, 3), (20, .goto (-18), 3), (23, .iconst 0, 1), (24, .istore_n 1, 1), (25, .iload_n 1, 1), (26, .aload_n 0, 1), (27, .getfield 60, 3), (30, .if_icmp .ge 53, 3), (33, .aload_n 0, 1), (34, .iconst 1, 1), (35, .iload_n 1, 1), (36, .ishl, 1), (37, .invokevirtual 85, 3), (40, .istore_n 2, 1), (41, .iconst 0, 1), (42, .istore_n 3, 1), (43, .iload_n 3, 1), (44, .aload_n 0, 1), (45, .getfield 60, 3), (48, .if_icmp .ge 29, 3), (51, .iload_n 2, 1), (52, .iload_n 3, 1), (53, .invokestatic 77, 3), (56, .ifCond .ne 15, 3), (59, .aload_n 0, 1), (60, .getfield 38, 3), (63, .iload_n 3, 1), (64, .dup2, 1), (65, .iaload, 1), (66, .iconst 1, 1), (67, .iload_n 1, 1), (68, .ishl, 1), (69, .ior, 1), (70, .iastore, 1), (71, .iinc 3 1, 3), (74, .goto (-31), 3), (77, .iinc 1 1, 3), (80, .goto (-55), 3), (83, .return_, 1)]
def ab_c52 : List (Nat × Instr × Nat) := [(0, .iconst 0, 1), (1, .istore_n 1, 1), (2, .iload_n 1, 1), (3, .aload_n 0, 1), (4, .getfield 60, 3), (7, .if_icmp .ge 68, 3), (10, .aload_n 0, 1), (11, .getfield 30, 3), (14, .iload_n 1, 1), (15, .iconst 0, 1), (16, .iastore, 1), (17, .iconst 0, 1), (18, .istore_n 2, 1), (19, .iload_n 2, 1), (20, .aload_n 0, 1), (21, .getfield 60, 3), (24, .if_icmp .ge 45, 3), (27, .aload_n 0, 1), (28, .iload_n 2, 1), (29, .invokevirtual 81, 3), (32, .iload_n 1, 1), (33, .invokestatic 77, 3), (36, .ifCond .eq 27, 3), (39, .aload_n 0, 1), (40, .getfield 35, 3), (43, .iload_n 1, 1), (44, .aaload, 1), (45, .aload_n 0, 1), (46, .getfield 30, 3), (49, .iload_n 1, 1), (50, .iaload, 1), (51, .iload_n 2, 1), (52, .iastore, 1), (53, .aload_n 0, 1), (54, .getfield 30, 3), (57, .iload_n 1, 1), (58, .dup2, 1), (59, .iaload, 1), (60, .iconst 1, 1), (61, .iadd, 1), (62, .iastore, 1), (63, .iinc 2 1, 3), (66, .goto (-47), 3), (69, .iinc 1 1, 3), (72, .goto (-70), 3), (75, .return_, 1)]
def ab_c53 : List (Nat × Instr × Nat) := [(0, .aload_n 0, 1), (1, .getfield 10, 3), (4, .getfield 100, 3), (7, .ireturn, 1)]
def ab_c54 : List (Nat × Instr × Nat) := [(0, .iconst 0, 1), (1, .istore_n 3, 1), (2, .iload_n 3, 1), (3, .aload_n 0, 1), (4, .getfield 30, 3), (7, .iload_n 2, 1), (8, .iaload, 1), (9, .if_icmp .ge 23, 3), (12, .aload_n 0, 1), (13, .getfield 35, 3), (16, .iload_n 2, 1), (17, .aaload, 1), (18, .iload_n 3, 1), (19, .iaload, 1), (20, .iload_n 1, 1), (21, .if_icmp .ne 5, 3), (24, .iload_n 3, 1), (25, .ireturn, 1), (26, .iinc 3 1, 3), (29, .goto (-27), 3), (32, .bipush (-4), 2), (34, .ireturn, 1)]
def ab_c55 : List (Nat × Instr × Nat) := [(0, .aload_n 0, 1), (1, .getfield 44, 3), (4, .iload_n 1, 1), (5, .iaload, 1), (6, .aload_n 0, 1), (7, .getfield 44, 3), (10, .iload_n 2, 1), (11, .iaload, 1), (12, .if_icmp .ne 16, 3), (15, .iload_n 1, 1), (16, .iload_n 2, 1), (17, .if_icmp .ge 7, 3), (20, .iconst 1, 1), (21, .goto 27, 3), (24, .iconst 0, 1), (25, .goto 23, 3), (28, .aload_n 0, 1), (29, .getfield 38, 3), (32, .aload_n 0, 1), (33, .getfield 44, 3), (36, .iload_n 2, 1), (37, .iaload, 1), (38, .iaload, 1), (39, .aload_n 0, 1), (40, .getfield 44, 3), (43, .iload_n 1, 1), (44, .iaload, 1), (45, .invokestatic 77, 3), (48, .ireturn, 1)]
def ab_c56 : List (Nat × Instr × Nat) := [(0, .aload_n 0, 1), (1, .getfield 38, 3), (4, .iload_n 2, 1), (5, .iaload, 1), (6, .aload_n 0, 1), (7, .getfield 44, 3), (10, .iload_n 1, 1), (11, .iaload, 1), (12, .invokestatic 77, 3), (15, .ireturn, 1)]
def ab_c57 : List (Nat × Instr × Nat) := [(0, .aload_n 0, 1), (1, .getfield 41, 3), (4, .iload_n 2, 1), (5, .iaload, 1), (6, .bipush 7, 2), (8, .if_icmp .eq 10, 3), (11, .aload_n 0, 1), (12, .iload_n 1, 1), (13, .iload_n 2, 1), (14, .invokevirtual 93, 3), (17, .ireturn, 1), (18, .aload_n 0, 1), (19, .getfield 44, 3), (22, .iload_n 2, 1), (23, .iaload, 1), (24, .istore 4, 2), (26, .iload_n 3, 1), (27, .aload_n 0, 1), (28, .getfield 30, 3), (31, .iload 4, 2), (33, .iaload, 1), (34, .if_icmp .ge 24, 3), (37, .aload_n 0, 1), (38, .iload_n 1, 1), (39, .aload_n 0, 1), (40, .getfield 35, 3), (43, .iload 4, 2), (45, .aaload, 1), (46, .iload_n 3, 1), (47, .iaload, 1), (48, .invokevirtual 96, 3), (51, .ifCond .eq 7, 3), (54, .iconst 1, 1), (55, .goto 4, 3), (58, .iconst 0, 1), (59, .ireturn, 1)]
def ab_c58 : List (Nat × Instr × Nat) := [(0, .iconst 1, 1), (1, .aload_n 0, 1), (2, .getfield 60, 3), (5, .ishl, 1), (6, .iconst 1, 1), (7, .isub, 1), (8, .istore_n 1, 1), (9, .iconst 0, 1), (10, .istore_n 2, 1), (11, .iload_n 2, 1), (12, .aload_n 0, 1), (13, .getfield 60, 3), (16, .if_icmp .ge 23, 3), (19, .aload_n 0, 1), (20, .iload_n 2, 1), (21, .invokevirtual 81, 3), (24, .iload_n 1, 1), (25, .iconst (-1), 1), (26, .ixor, 1), (27, .iand, 1), (28, .ifCond .eq 5, 3), (31, .iconst 0, 1), (32, .ireturn, 1), (33, .iinc 2 1, 3), (36, .goto (-25), 3), (39, .aload_n 0, 1), (40, .iconst 0, 1), (41, .invokevirtual 85, 3), (44, .iload_n 1, 1), (45, .if_icmp .eq 5, 3), (48, .iconst 0, 1), (49, .ireturn, 1), (50, .aload_n 0, 1), (51, .invokevirtual 99, 3), (54, .aload_n 0, 1), (55, .invokevirtual 102, 3), (58, .iconst 0, 1), (59, .istore_n 2, 1), (60, .iload_n 2, 1), (61, .aload_n 0, 1), (62, .getfield 64, 3), (65, .if_icmp .ge 19, 3), (68, .aload_n 0, 1), (69, .iload_n 2, 1), (70, .invokevirtual 105, 3), (73, .ifCond .ne 5, 3), (76, .iconst 0, 1), (77, .ireturn, 1), (78, .iinc 2 1, 3), (81, .goto (-21), 3), (84, .iconst 0, 1), (85, .istore_n 2, 1), (86, .iload_n 2, 1), (87, .aload_n 0, 1), (88, .getfield 60, 3), (91, .if_icmp .ge 50, 3), (94, .aload_n 0, 1), (95, .getfield 18, 3), (98, .iload_n 2, 1), (99, .iaload, 1), (100, .ifCond .ne 6, 3), (103, .goto 32, 3), (106, .aload_n 0, 1), (107, .aload_n 0, 1), (108, .getfield 27, 3), (111, .iload_n 2, 1), (112, .iaload, 1), (113, .invokevirtual 73, 3), (116, .ifCond .eq 17, 3), (119, .aload_n 0, 1), (120, .aload_n 0, 1), (121, .getfield 27, 3), (124, .iload_n 2, 1), (125, .iaload, 1), (126, .iload_n 2, 1), (127, .invokevirtual 96, 3), (130, .ifCond .ne 5, 3), (133, .iconst 0, 1), (134, .ireturn, 1), (135, .iinc 2 1, 3), (138, .goto (-52), 3), (141, .iconst 1, 1), (142, .ireturn, 1)]
def ab_c59 : List (Nat × Instr × Nat) := [(0, .aload_n 0, 1), (1, .getfield 41, 3), (4, .iload_n 1, 1), (5, .iaload, 1), (6, .bipush 7, 2), (8, .if_icmp .ne 25, 3), (11, .aload_n 0, 1), (12, .getfield 47, 3), (15, .iload_n 1, 1), (16, .iaload, 1), (17, .aload_n 0, 1), (18, .getfield 30, 3), (21, .aload_n 0, 1), (22, .getfield 44, 3), (25, .iload_n 1, 1), (26, .iaload, 1), (27, .iaload, 1), (28, .if_icmp .eq 5, 3), (31, .iconst 0, 1), (32, .ireturn, 1), (33, .iconst 0, 1), (34, .istore_n 2, 1), (35, .iload_n 2, 1), (36, .aload_n 0, 1), (37, .getfield 47, 3), (40, .iload_n 1, 1), (41, .iaload, 1), (42, .if_icmp .ge 38, 3), (45, .aload_n 0, 1), (46, .getfield 53, 3), (49, .iload_n 1, 1), (50, .aaload, 1), (51, .iload_n 2, 1), (52, .iaload, 1), (53, .istore_n 3, 1), (54, .aload_n 0, 1), (55, .iload_n 3, 1), (56, .invokevirtual 73, 3), (59, .ifCond .eq 13, 3), (62, .aload_n 0, 1), (63, .iload_n 3, 1), (64, .iload_n 1, 1), (65, .iload_n 2, 1), (66, .invokevirtual 108, 3), (69, .ifCond .ne 5, 3), (72, .iconst 0, 1), (73, .ireturn, 1), (74, .iinc 2 1, 3), (77, .goto (-42), 3), (80, .iconst 1, 1), (81, .ireturn, 1)]
def ab_c60 : List (Nat × Instr × Nat) := [(0, .iconst 0, 1), (1, .istore_n 2, 1), (2, .iload_n 2, 1), (3, .aload_n 0, 1), (4, .getfield 47, 3), (7, .iload_n 1, 1), (8, .iaload, 1), (9, .if_icmp .ge 23, 3), (12, .aload_n 0, 1), (13, .getfield 53, 3), (16, .iload_n 1, 1), (17, .aaload, 1), (18, .iload_n 2, 1), (19, .iaload, 1), (20, .iload_n 1, 1), (21, .if_icmp .lt 5, 3), (24, .iconst 1, 1), (25, .ireturn, 1), (26, .iinc 2 1, 3), (29, .goto (-27), 3), (32, .iconst 0, 1), (33, .ireturn, 1)]
def ab_c61 : List (Nat × Instr × Nat) := [(0, .iconst 0, 1), (1, .istore_n 2, 1), (2, .iconst 0, 1), (3, .istore_n 3, 1), (4, .iload_n 3, 1), (5, .aload_n 0, 1), (6, .getfield 64, 3), (9, .if_icmp .ge 22, 3), (12, .aload_n 0, 1), (13, .getfield 41, 3), (16, .iload_n 3, 1), (17, .iaload, 1), (18, .iload_n 1, 1), (19, .if_icmp .ne 6, 3), (22, .iinc 2 1, 3), (25, .iinc 3 1, 3), (28, .goto (-24), 3), (31, .iload_n 2, 1), (32, .ireturn, 1)]
def ab_c62 : List (Nat × Instr × Nat) := [(0, .iconst 0, 1), (1, .istore_n 1, 1), (2, .iconst 0, 1), (3, .istore_n 2, 1), (4, .iload_n 2, 1), (5, .aload_n 0, 1), (6, .getfield 64, 3), (9, .if_icmp .ge 18, 3), (12, .iload_n 1, 1), (13, .aload_n 0, 1), (14, .getfield 47, 3), (17, .iload_n 2, 1), (18, .iaload, 1), (19, .iadd, 1), (20, .istore_n 1, 1), (21, .iinc 2 1, 3), (24, .goto (-20), 3), (27, .iconst 0, 1), (28, .istore_n 2, 1), (29, .iload_n 2, 1), (30, .aload_n 0, 1), (31, .getfield 60, 3), (34, .if_icmp .ge 21, 3), (37, .aload_n 0, 1), (38, .getfield 18, 3), (41, .iload_n 2, 1), (42, .iaload, 1), (43, .ifCond .eq 6, 3), (46, .iinc 1 1, 3), (49, .iinc 2 1, 3), (52, .goto (-23), 3), (55, .iload_n 1, 1), (56, .ireturn, 1)]
def ab_c63 : List (Nat × Instr × Nat) := [(0, .iconst 0, 1), (1, .istore_n 2, 1), (2, .iconst 0, 1), (3, .istore_n 3, 1), (4, .iload_n 3, 1), (5, .aload_n 0, 1), (6, .getfield 64, 3), (9, .if_icmp .ge 45, 3), (12, .iconst 0, 1), (13, .istore 4, 2), (15, .iload 4, 2), (17, .aload_n 0, 1), (18, .getfield 47, 3), (21, .iload_n 3, 1), (22, .iaload, 1), (23, .if_icmp .ge 25, 3), (26, .aload_n 0, 1), (27, .getfield 53, 3), (30, .iload_n 3, 1), (31, .aaload, 1), (32, .iload 4, 2), (34, .iaload, 1), (35, .iload_n 1, 1), (36, .if_icmp .ne 6, 3), (39, .iinc 2 1, 3), (42, .iinc 4 1, 3), (45, .goto (-30), 3), (48, .iinc 3 1, 3), (51, .goto (-47), 3), (54, .iconst 0, 1), (55, .istore_n 3, 1), (56, .iload_n 3, 1), (57, .aload_n 0, 1), (58, .getfield 60, 3), (61, .if_icmp .ge 31, 3), (64, .aload_n 0, 1), (65, .getfield 18, 3), (68, .iload_n 3, 1), (69, .iaload, 1), (70, .ifCond .eq 16, 3), (73, .aload_n 0, 1), (74, .getfield 27, 3), (77, .iload_n 3, 1), (78, .iaload, 1), (79, .iload_n 1, 1), (80, .if_icmp .ne 6, 3), (83, .iinc 2 1, 3), (86, .iinc 3 1, 3), (89, .goto (-33), 3), (92, .iload_n 2, 1), (93, .ireturn, 1)]
def ab_c64 : List (Nat × Instr × Nat) := [(0, .aload_n 0, 1), (1, .getfield 10, 3), (4, .getfield 100, 3), (7, .ireturn, 1)]
def ab_c65 : List (Nat × Instr × Nat) := [(0, .iconst 0, 1), (1, .istore_n 2, 1), (2, .iconst 0, 1), (3, .istore_n 3, 1), (4, .iload_n 3, 1), (5, .aload_n 0, 1), (6, .getfield 64, 3), (9, .if_icmp .ge 65, 3), (12, .iconst 0, 1), (13, .istore 4, 2), (15, .iload 4, 2), (17, .aload_n 0, 1), (18, .getfield 47, 3), (21, .iload_n 3, 1), (22, .iaload, 1), (23, .if_icmp .ge 45, 3), (26, .aload_n 0, 1), (27, .getfield 53, 3), (30, .iload_n 3, 1), (31, .aaload, 1), (32, .iload 4, 2), (34, .iaload, 1), (35, .istore 5, 2), (37, .aload_n 0, 1), (38, .getfield 53, 3), (41, .iload_n 3, 1), (42, .aaload, 1), (43, .iload 4, 2), (45, .aload_n 1, 1), (46, .iload 5, 2), (48, .iaload, 1), (49, .iastore, 1), (50, .aload_n 1, 1), (51, .iload 5, 2), (53, .iaload, 1), (54, .iload 5, 2), (56, .if_icmp .eq 6, 3), (59, .iinc 2 1, 3), (62, .iinc 4 1, 3), (65, .goto (-50), 3), (68, .iinc 3 1, 3), (71, .goto (-67), 3), (74, .iconst 0, 1), (75, .istore_n 3, 1), (76, .iload_n 3, 1), (77, .aload_n 0, 1), (78, .getfield 60, 3), (81, .if_icmp .ge 51, 3), (84, .aload_n 0, 1), (85, .getfield 18, 3), (88, .iload_n 3, 1), (89, .iaload, 1), (90, .ifCond .ne 6, 3), (93, .goto 33, 3), (96, .aload_n 0, 1), (97, .getfield 27, 3), (100, .iload_n 3, 1), (101, .iaload, 1), (102, .istore 4, 2), (104, .aload_n 0, 1), (105, .getfield 27, 3), (108, .iload_n 3, 1), (109, .aload_n 1, 1), (110, .iload 4, 2), (112, .iaload, 1), (113, .iastore, 1), (114, .aload_n 1, 1), (115, .iload 4, 2), (117, .iaload, 1), (118, .iload 4, 2), (120, .if_icmp .eq 6, 3), (123, .iinc 2 1, 3), (126, .iinc 3 1, 3), (129, .goto (-53), 3), (132, .iload_n 2, 1), (133, .ireturn, 1)]
def ab_c66 : List (Nat × Instr × Nat) := [(0, .aload_n 0, 1), (1, .invokevirtual 112, 3), (4, .iconst 0, 1), (5, .istore_n 1, 1), (6, .iconst 0, 1), (7, .istore_n 2, 1), (8, .iload_n 2, 1), (9, .aload_n 0, 1), (10, .getfield 64, 3), (13, .if_icmp .ge 50, 3), (16, .aload_n 0, 1), (17, .getfield 56, 3), (20, .iload_n 2, 1), (21, .baload, 1), (22, .ifCond .ne 35, 3), (25, .aload_n 0, 1), (26, .getfield 41, 3), (29, .iload_n 2, 1), (30, .iaload, 1), (31, .bipush 8, 2), (33, .if_icmp .ne 6, 3), (36, .goto 21, 3), (39, .aload_n 0, 1), (40, .getfield 41, 3), (43, .iload_n 2, 1), (44, .bipush 8, 2), (46, .iastore, 1), (47, .aload_n 0, 1), (48, .getfield 47, 3), (51, .iload_n 2, 1), (52, .iconst 0, 1), (53, .iastore, 1), (54, .iinc 1 1, 3), (57, .iinc 2 1, 3), (60, .goto (-52), 3), (63, .iload_n 1, 1), (64, .ireturn, 1)]
def ab_c67 : List (Nat × Instr × Nat) := [(0, .iconst 0, 1), (1, .istore_n 1, 1), (2, .iload_n 1, 1), (3, .aload_n 0, 1), (4, .getfield 64, 3), (7, .if_icmp .ge 16, 3), (10, .aload_n 0, 1), (11, .getfield 56, 3), (14, .iload_n 1, 1), (15, .iconst 0, 1), (16, .bastore, 1), (17, .iinc 1 1, 3), (20, .goto (-18), 3), (23, .iconst 0, 1), (24, .istore_n 1, 1), (25, .iload_n 1, 1), (26, .aload_n 0, 1), (27, .getfield 60, 3), (30, .if_icmp .ge 30, 3), (33, .aload_n 0, 1), (34, .getfield 18, 3), (37, .iload_n 1, 1), (38, .iaload, 1), (39, .ifCond .eq 15, 3), (42, .aload_n 0, 1), (43, .getfield 56, 3), (46, .aload_n 0, 1), (47, .getfield 27, 3), (50, .iload_n 1, 1), (51, .iaload, 1), (52, .iconst 1, 1), (53, .bastore, 1), (54, .iinc 1 1, 3), (57, .goto (-32), 3), (60, .iconst 0, 1), (61, .istore_n 1, 1), (62, .iload_n 1, 1), (63, .aload_n 0, 1), (64, .getfield 64, 3), (67, .if_icmp .ge 39, 3), (70, .iconst 0, 1), (71, .istore_n 2, 1), (72, .iload_n 2, 1), (73, .aload_n 0, 1), (74, .getfield 64, 3), (77, .if_icmp .ge 23, 3), (80, .aload_n 0, 1), (81, .getfield 56, 3), (84, .iload_n 2, 1), (85, .baload, 1), (86, .ifCond .eq 8, 3), (89, .aload_n 0, 1), (90, .iload_n 2, 1), (91, .invokevirtual 115, 3), (94, .iinc 2 1, 3), (97, .goto (-25), 3), (100, .iinc 1 1, 3), (103, .goto (-41), 3), (106, .return_, 1)]
def ab_c68 : List (Nat × Instr × Nat) := [(0, .iconst 0, 1), (1, .istore_n 2, 1), (2, .iload_n 2, 1), (3, .aload_n 0, 1), (4, .getfield 47, 3), (7, .iload_n 1, 1), (8, .iaload, 1), (9, .if_icmp .ge 23, 3), (12, .aload_n 0, 1), (13, .getfield 56, 3), (16, .aload_n 0, 1), (17, .getfield 53, 3), (20, .iload_n 1, 1), (21, .aaload, 1), (22, .iload_n 2, 1), (23, .iaload, 1), (24, .iconst 1, 1), (25, .bastore, 1), (26, .iinc 2 1, 3), (29, .goto (-27), 3), (32, .return_, 1)]
def ab_c69 : List (Nat × Instr × Nat) := [(0, .aload_n 0, 1), (1, .invokespecial 3, 3), (4, .aload_n 0, 1), (5, .new 9, 3), (8, .dup, 1), (9, .invokespecial 11, 3), (12, .putfield 12, 3), (15, .aload_n 0, 1), (16, .new 18, 3), (19, .dup, 1), (20, .invokespecial 20, 3), (23, .putfield 21, 3), (26, .aload_n 0, 1), (27, .sipush 321, 3), (30, .newarray .int, 2), (32, .putfield 25, 3), (35, .aload_n 0, 1), (36, .sipush 321, 3), (39, .newarray .int, 2), (41, .putfield 29, 3), (44, .aload_n 0, 1), (45, .sipush 321, 3), (48, .newarray .int, 2), (50, .putfield 32, 3), (53, .return_, 1)]
def ab_c70 : List (Nat × Instr × Nat) := [(0, .aload_n 0, 1), (1, .invokevirtual 35, 3), (4, .aload_n 0, 1), (5, .getfield 21, 3), (8, .invokevirtual 38, 3), (11, .aload_n 0, 1), (12, .iconst 0, 1), (13, .putfield 41, 3), (16, .aload_n 0, 1), (17, .iconst 0, 1), (18, .putfield 45, 3), (21, .aload_n 0, 1), (22, .iconst 0, 1), (23, .putfield 48, 3), (26, .iconst 1, 1), (27, .istore_n 1, 1), (28, .iconst 0, 1), (29, .istore_n 2, 1), (30, .iload_n 2, 1), (31, .sipush 320, 3), (34, .if_icmp .gt 39, 3), (37, .iload_n 1, 1), (38, .ifCond .eq 35, 3), (41, .aload_n 0, 1), (42, .getfield 48, 3), (45, .ifCond .ne 17, 3), (48, .aload_n 0, 1), (49, .getfield 25, 3), (52, .aload_n 0, 1), (53, .getfield 45, 3), (56, .iaload, 1), (57, .bipush 24, 2), (59, .if_icmp .eq 14, 3), (62, .aload_n 0, 1), (63, .invokevirtual 52, 3), (66, .istore_n 1, 1), (67, .iinc 2 1, 3), (70, .goto (-40), 3), (73, .iload_n 1, 1), (74, .ifCond .eq 26, 3), (77, .aload_n 0, 1), (78, .getfield 21, 3), (81, .invokevirtual 56, 3), (84, .ifCond .ne 12, 3), (87, .aload_n 0, 1), (88, .bipush 6, 2), (90, .invokevirtual 59, 3), (93, .ifCond .eq 7, 3), (96, .iconst 1, 1), (97, .goto 4, 3), (100, .iconst 0, 1), (101, .ireturn, 1)]
def ab_c71 : List (Nat × Instr × Nat) := [(0, .aload_n 0, 1), (1, .aload_n 0, 1), (2, .getfield 25, 3), (5, .aload_n 0, 1), (6, .getfield 45, 3), (9, .iaload, 1), (10, .bipush 25, 2), (12, .if_icmp .ne 7, 3), (15, .iconst 1, 1), (16, .goto 4, 3), (19, .iload_n 1, 1), (20, .putfield 41, 3), (23, .aload_n 0, 1), (24, .aload_n 0, 1), (25, .getfield 29, 3), (28, .aload_n 0, 1), (29, .getfield 45, 3), (32, .iaload, 1), (33, .putfield 63, 3), (36, .iconst 0, 1), (37, .ireturn, 1)]
def ab_c72 : List (Nat × Instr × Nat) := [(0, .aload_n 0, 1), (1, .getfield 48, 3), (4, .ifCond .ne 8, 3), (7, .aload_n 0, 1), (8, .invokevirtual 66, 3), (11, .ireturn, 1), (12, .aload_n 0, 1), (13, .getfield 25, 3), (16, .aload_n 0, 1), (17, .getfield 45, 3), (20, .iaload, 1), (21, .bipush 7, 2), (23, .if_icmp .gt 10, 3), (26, .aload_n 0, 1), (27, .invokevirtual 69, 3), (30, .goto 7, 3), (33, .aload_n 0, 1), (34, .invokevirtual 72, 3), (37, .ireturn, 1)]
def ab_c73 : List (Nat × Instr × Nat) := [(0, .aload_n 0, 1), (1, .getfield 25, 3), (4, .aload_n 0, 1), (5, .getfield 45, 3), (8, .iaload, 1), (9, .bipush 20, 2), (11, .if_icmp .eq 9, 3), (14, .aload_n 0, 1), (15, .iconst 2, 1), (16, .invokevirtual 59, 3), (19, .ireturn, 1), (20, .aload_n 0, 1), (21, .getfield 21, 3), (24, .invokevirtual 75, 3), (27, .ifCond .ne 9, 3), (30, .aload_n 0, 1), (31, .iconst 5, 1), (32, .invokevirtual 59, 3), (35, .ireturn, 1), (36, .aload_n 0, 1), (37, .dup, 1), (38, .getfield 45, 3), (41, .iconst 1, 1), (42, .iadd, 1), (43, .putfield 45, 3), (46, .aload_n 0, 1), (47, .iconst 1, 1), (48, .putfield 48, 3), (51, .aload_n 0, 1), (52, .iconst 0, 1), (53, .putfield 78, 3), (56, .aload_n 0, 1), (57, .invokevirtual 81, 3), (60, .ireturn, 1)]
def ab_c74 : List (Nat × Instr × Nat) := [(0, .aload_n 0, 1), (1, .getfield 25, 3), (4, .aload_n 0, 1), (5, .getfield 45, 3), (8, .iaload, 1), (9, .istore_n 1, 1), (10, .iload_n 1, 1), (11, .bipush 7, 2), (13, .if_icmp .ne 16, 3), (16, .aload_n 0, 1), (17, .getfield 78, 3), (20, .ifCond .eq 9, 3), (23, .aload_n 0, 1), (24, .iconst 2, 1), (25, .invokevirtual 59, 3), (28, .ireturn, 1), (29, .aload_n 0, 1), (30, .getfield 21, 3), (33, .iload_n 1, 1), (34, .invokevirtual 84, 3), (37, .ifCond .ne 9, 3), (40, .aload_n 0, 1), (41, .iconst 5, 1), (42, .invokevirtual 59, 3), (45, .ireturn, 1), (46, .aload_n 0, 1), (47, .dup, 1), (48, .getfield 45, 3), (51, .iconst 1, 1), (52, .iadd, 1), (53, .putfield 45, 3), (56, .aload_n 0, 1), (57, .iload_n 1, 1), (58, .bipush 7, 2), (60, .if_icmp .eq 7, 3), (63, .iconst 1, 1), (64, .goto 4, 3), (67, .iconst 0, 1), (68, .putfield 78, 3), (71, .iload_n 1, 1), (72, .ifCond .eq 8, 3), (75, .iload_n 1, 1), (76, .iconst 1, 1), (77, .if_icmp .ne 11, 3), (80, .aload_n 0, 1), (81, .iload_n 1, 1), (82, .invokevirtual 87, 3), (85, .goto 8, 3), (88, .aload_n 0, 1), (89, .iload_n 1, 1), (90, .invokevirtual 90, 3), (93, .istore_n 2, 1), (94, .iload_n 2, 1), (95, .ifCond .eq 14, 3), (98, .aload_n 0, 1), (99, .invokevirtual 81, 3), (102, .ifCond .eq 7, 3), (105, .iconst 1, 1), (106, .goto 4, 3), (109, .iconst 0, 1), (110, .ireturn, 1)]
def ab_c75 : List (Nat × Instr × Nat) := [(0, .aload_n 0, 1), (1, .iconst 0, 1), (2, .iload_n 1, 1), (3, .invokestatic 93, 3), (6, .invokevirtual 97, 3), (9, .ifCond .ne 5, 3), (12, .iconst 0, 1), (13, .ireturn, 1), (14, .aload_n 0, 1), (15, .getfield 21, 3), (18, .aload_n 0, 1), (19, .getfield 101, 3), (22, .invokevirtual 104, 3), (25, .iconst 1, 1), (26, .ireturn, 1)]
def ab_c76 : List (Nat × Instr × Nat) := [(0, .iload_n 1, 1), (1, .bipush 7, 2), (3, .if_icmp .eq 8, 3), (6, .iload_n 1, 1), (7, .iconst 4, 1), (8, .if_icmp .ne 7, 3), (11, .iconst 1, 1), (12, .goto 4, 3), (15, .iconst 2, 1), (16, .istore_n 2, 1), (17, .iload_n 1, 1), (18, .bipush 7, 2), (20, .if_icmp .ne 9, 3), (23, .sipush 320, 3), (26, .goto 4, 3), (29, .iload_n 2, 1), (30, .istore_n 3, 1), (31, .iconst 0, 1), (32, .istore 4, 2), (34, .iload 4, 2), (36, .iload_n 3, 1), (37, .if_icmp .ge 52, 3), (40, .iload 4, 2), (42, .iload_n 2, 1), (43, .if_icmp .lt 17, 3), (46, .aload_n 0, 1), (47, .getfield 25, 3), (50, .aload_n 0, 1), (51, .getfield 45, 3), (54, .iaload, 1), (55, .bipush 22, 2), (57, .if_icmp .ne 32, 3), (60, .aload_n 0, 1), (61, .iconst 0, 1), (62, .bipush 19, 2), (64, .invokevirtual 97, 3), (67, .ifCond .ne 5, 3), (70, .iconst 0, 1), (71, .ireturn, 1), (72, .aload_n 0, 1), (73, .getfield 21, 3), (76, .aload_n 0, 1), (77, .getfield 101, 3), (80, .invokevirtual 108, 3), (83, .iinc 4 1, 3), (86, .goto (-52), 3), (89, .iconst 1, 1), (90, .ireturn, 1)]
def ab_c77 : List (Nat × Instr × Nat) := [(0, .aload_n 0, 1), (1, .getfield 25, 3), (4, .aload_n 0, 1), (5, .getfield 45, 3), (8, .iaload, 1), (9, .bipush 10, 2), (11, .isub, 1), (12, .istore_n 1, 1), (13, .iload_n 1, 1), (14, .ifCond .eq 19, 3), (17, .iload_n 1, 1), (18, .iconst 1, 1), (19, .if_icmp .eq 14, 3), (22, .iload_n 1, 1), (23, .iconst 2, 1), (24, .if_icmp .eq 9, 3), (27, .aload_n 0, 1), (28, .iconst 2, 1), (29, .invokevirtual 59, 3), (32, .ireturn, 1), (33, .aload_n 0, 1), (34, .dup, 1), (35, .getfield 45, 3), (38, .iconst 1, 1), (39, .iadd, 1), (40, .putfield 45, 3), (43, .aload_n 0, 1), (44, .getfield 21, 3), (47, .iload_n 1, 1), (48, .invokevirtual 111, 3), (51, .iload_n 1, 1), (52, .ifCond .eq 26, 3), (55, .aload_n 0, 1), (56, .iconst 0, 1), (57, .bipush 19, 2), (59, .invokevirtual 97, 3), (62, .ifCond .ne 5, 3), (65, .iconst 0, 1), (66, .ireturn, 1), (67, .aload_n 0, 1), (68, .getfield 21, 3), (71, .aload_n 0, 1), (72, .getfield 101, 3), (75, .invokevirtual 114, 3), (78, .iload_n 1, 1), (79, .iconst 2, 1), (80, .if_icmp .eq 25, 3), (83, .aload_n 0, 1), (84, .iconst 1, 1), (85, .iconst 5, 1), (86, .invokevirtual 97, 3), (89, .ifCond .ne 5, 3), (92, .iconst 0, 1), (93, .ireturn, 1), (94, .aload_n 0, 1), (95, .getfield 21, 3), (98, .aload_n 0, 1), (99, .getfield 101, 3), (102, .invokevirtual 117, 3), (105, .iload_n 1, 1), (106, .iconst 1, 1), (107, .if_icmp .ne 25, 3), (110, .aload_n 0, 1), (111, .iconst 1, 1), (112, .iconst 5, 1), (113, .invokevirtual 97, 3), (116, .ifCond .ne 5, 3), (119, .iconst 0, 1), (120, .ireturn, 1), (121, .aload_n 0, 1), (122, .getfield 21, 3), (125, .aload_n 0, 1), (126, .getfield 101, 3), (129, .invokevirtual 120, 3), (132, .aload_n 0, 1), (133, .iconst 0, 1), (134, .putfield 48, 3), (137, .aload_n 0, 1), (138, .invokevirtual 81, 3), (141, .ireturn, 1)]
def ab_c78 : List (Nat × Instr × Nat) := [(0, .aload_n 0, 1), (1, .getfield 25, 3), (4, .aload_n 0, 1), (5, .getfield 45, 3), (8, .iaload, 1), (9, .bipush 23, 2), (11, .if_icmp .eq 9, 3), (14, .aload_n 0, 1), (15, .iconst 2, 1), (16, .invokevirtual 59, 3), (19, .ireturn, 1), (20, .aload_n 0, 1), (21, .dup, 1), (22, .getfield 45, 3), (25, .iconst 1, 1), (26, .iadd, 1), (27, .putfield 45, 3), (30, .iconst 1, 1), (31, .ireturn, 1)]
def ab_c79 : List (Nat × Instr × Nat) := [(0, .aload_n 0, 1), (1, .getfield 25, 3), (4, .aload_n 0, 1), (5, .getfield 45, 3), (8, .iaload, 1), (9, .bipush 22, 2), (11, .if_icmp .eq 9, 3), (14, .aload_n 0, 1), (15, .iconst 2, 1), (16, .invokevirtual 59, 3), (19, .ireturn, 1), (20, .aload_n 0, 1), (21, .getfield 32, 3), (24, .aload_n 0, 1), (25, .getfield 45, 3), (28, .iaload, 1), (29, .iload_n 1, 1), (30, .if_icmp .lt 16, 3), (33, .aload_n 0, 1), (34, .getfield 32, 3), (37, .aload_n 0, 1), (38, .getfield 45, 3), (41, .iaload, 1), (42, .iload_n 2, 1), (43, .if_icmp .le 9, 3), (46, .aload_n 0, 1), (47, .iconst 3, 1), (48, .invokevirtual 59, 3), (51, .ireturn, 1), (52, .aload_n 0, 1), (53, .aload_n 0, 1), (54, .getfield 32, 3), (57, .aload_n 0, 1), (58, .getfield 45, 3), (61, .iaload, 1), (62, .putfield 101, 3), (65, .aload_n 0, 1), (66, .dup, 1), (67, .getfield 45, 3), (70, .iconst 1, 1), (71, .iadd, 1), (72, .putfield 45, 3), (75, .iconst 1, 1), (76, .ireturn, 1)]
def ab_c80 : List (Nat × Instr × Nat) := [(0, .aload_n 0, 1), (1, .iconst 0, 1), (2, .putfield 123, 3), (5, .bipush 23, 2), (7, .istore_n 1, 1), (8, .iconst 0, 1), (9, .istore_n 2, 1), (10, .iload_n 2, 1), (11, .sipush 320, 3), (14, .if_icmp .gt 84, 3), (17, .iload_n 1, 1), (18, .bipush 24, 2), (20, .if_icmp .eq 78, 3), (23, .iload_n 1, 1), (24, .bipush 25, 2), (26, .if_icmp .eq 72, 3), (29, .aload_n 0, 1), (30, .bipush 32, 2), (32, .bipush 32, 2), (34, .invokevirtual 126, 3), (37, .aload_n 0, 1), (38, .getfield 29, 3), (41, .iload_n 2, 1), (42, .aload_n 0, 1), (43, .getfield 123, 3), (46, .iastore, 1), (47, .aload_n 0, 1), (48, .getfield 32, 3), (51, .iload_n 2, 1), (52, .iconst 0, 1), (53, .iastore, 1), (54, .aload_n 0, 1), (55, .aload_n 0, 1), (56, .getfield 123, 3), (59, .invokevirtual 130, 3), (62, .istore_n 1, 1), (63, .aload_n 0, 1), (64, .getfield 25, 3), (67, .iload_n 2, 1), (68, .iload_n 1, 1), (69, .iastore, 1), (70, .iload_n 1, 1), (71, .bipush 22, 2), (73, .if_icmp .ne 19, 3), (76, .aload_n 0, 1), (77, .getfield 32, 3), (80, .iload_n 2, 1), (81, .aload_n 0, 1), (82, .aload_n 0, 1), (83, .getfield 29, 3), (86, .iload_n 2, 1), (87, .iaload, 1), (88, .invokevirtual 133, 3), (91, .iastore, 1), (92, .iinc 2 1, 3), (95, .goto (-85), 3), (98, .return_, 1)]
def ab_c81 : List (Nat × Instr × Nat) := [(0, .iload_n 1, 1), (1, .aload_n 0, 1), (2, .getfield 12, 3), (5, .getfield 136, 3), (8, .if_icmp .lt 6, 3), (11, .bipush 24, 2), (13, .ireturn, 1), (14, .aload_n 0, 1), (15, .getfield 12, 3), (18, .iload_n 1, 1), (19, .bipush 97, 2), (21, .bipush 122, 2), (23, .invokevirtual 139, 3), (26, .ifCond .eq 17, 3), (29, .aload_n 0, 1), (30, .bipush 97, 2), (32, .bipush 122, 2), (34, .invokevirtual 126, 3), (37, .aload_n 0, 1), (38, .iload_n 1, 1), (39, .invokevirtual 143, 3), (42, .ireturn, 1), (43, .aload_n 0, 1), (44, .getfield 12, 3), (47, .iload_n 1, 1), (48, .bipush 48, 2), (50, .bipush 57, 2), (52, .invokevirtual 139, 3), (55, .ifCond .eq 29, 3), (58, .aload_n 0, 1), (59, .bipush 48, 2), (61, .bipush 57, 2), (63, .invokevirtual 126, 3), (66, .aload_n 0, 1), (67, .getfield 123, 3), (70, .iload_n 1, 1), (71, .isub, 1), (72, .iconst 2, 1), (73, .if_icmp .le 8, 3), (76, .bipush 25, 2), (78, .goto 5, 3), (81, .bipush 22, 2), (83, .ireturn, 1), (84, .aload_n 0, 1), (85, .getfield 12, 3), (88, .iload_n 1, 1), (89, .bipush 59, 2), (91, .bipush 59, 2), (93, .invokevirtual 139, 3), (96, .ifCond .ne 6, 3), (99, .bipush 25, 2), (101, .ireturn, 1), (102, .aload_n 0, 1), (103, .dup, 1), (104, .getfield 123, 3), (107, .iconst 1, 1), (108, .iadd, 1), (109, .putfield 123, 3), (112, .bipush 23, 2), (114, .ireturn, 1)]
def ab_c82 : List (Nat × Instr × Nat) := [(0, .iconst 0, 1), (1, .istore_n 3, 1), (2, .iload_n 3, 1), (3, .sipush 320, 3), (6, .if_icmp .ge 35, 3), (9, .aload_n 0, 1), (10, .getfield 12, 3), (13, .aload_n 0, 1), (14, .getfield 123, 3), (17, .iload_n 1, 1), (18, .iload_n 2, 1), (19, .invokevirtual 139, 3), (22, .ifCond .eq 19, 3), (25, .aload_n 0, 1), (26, .dup, 1), (27, .getfield 123, 3), (30, .iconst 1, 1), (31, .iadd, 1), (32, .putfield 123, 3), (35, .iinc 3 1, 3), (38, .goto (-36), 3), (41, .return_, 1)]
def ab_c83 : List (Nat × Instr × Nat) := [(0, .iconst 0, 1), (1, .istore_n 2, 1), (2, .iload_n 1, 1), (3, .istore_n 3, 1), (4, .iload_n 3, 1), (5, .aload_n 0, 1), (6, .getfield 123, 3), (9, .if_icmp .ge 34, 3), (12, .iload_n 3, 1), (13, .sipush 320, 3), (16, .if_icmp .ge 27, 3), (19, .iload_n 2, 1), (20, .bipush 10, 2), (22, .imul, 1), (23, .aload_n 0, 1), (24, .getfield 12, 3), (27, .getfield 146, 3), (30, .iload_n 3, 1), (31, .baload, 1), (32, .iadd, 1), (33, .bipush 48, 2), (35, .isub, 1), (36, .istore_n 2, 1), (37, .iinc 3 1, 3), (40, .goto (-36), 3), (43, .iload_n 2, 1), (44, .ireturn, 1)]
def ab_c84 : List (Nat × Instr × Nat) := [(0, .aload_n 0, 1), (1, .iload_n 1, 1), (2, .ldc 150, 2), (4, .invokevirtual 152, 3), (7, .ifCond .eq 5, 3), (10, .iconst 0, 1), (11, .ireturn, 1), (12, .aload_n 0, 1), (13, .iload_n 1, 1), (14, .ldc 156, 2), (16, .invokevirtual 152, 3), (19, .ifCond .eq 5, 3), (22, .iconst 1, 1), (23, .ireturn, 1), (24, .aload_n 0, 1), (25, .iload_n 1, 1), (26, .ldc 158, 2), (28, .invokevirtual 152, 3), (31, .ifCond .eq 5, 3), (34, .iconst 2, 1), (35, .ireturn, 1), (36, .aload_n 0, 1), (37, .iload_n 1, 1), (38, .ldc 160, 2), (40, .invokevirtual 152, 3), (43, .ifCond .eq 5, 3), (46, .iconst 3, 1), (47, .ireturn, 1), (48, .aload_n 0, 1), (49, .iload_n 1, 1), (50, .ldc 162, 2), (52, .invokevirtual 152, 3), (55, .ifCond .eq 5, 3), (58, .iconst 4, 1), (59, .ireturn, 1), (60, .aload_n 0, 1), (61, .iload_n 1, 1), (62, .ldc 164, 2), (64, .invokevirtual 152, 3), (67, .ifCond .eq 5, 3), (70, .iconst 5, 1), (71, .ireturn, 1), (72, .aload_n 0, 1), (73, .iload_n 1, 1), (74, .ldc 166, 2), (76, .invokevirtual 152, 3), (79, .ifCond .eq 6, 3), (82, .bipush 6, 2), (84, .ireturn, 1), (85, .aload_n 0, 1), (86, .iload_n 1, 1), (87, .ldc 168, 2), (89, .invokevirtual 152, 3), (92, .ifCond .eq 6, 3), (95, .bipush 7, 2), (97, .ireturn, 1), (98, .aload_n 0, 1), (99, .iload_n 1, 1), (100, .ldc 170, 2), (102, .invokevirtual 152, 3), (105, .ifCond .eq 6, 3), (108, .bipush 10, 2), (110, .ireturn, 1), (111, .aload_n 0, 1), (112, .iload_n 1, 1), (113, .ldc 172, 2), (115, .invokevirtual 152, 3), (118, .ifCond .eq 6, 3), (121, .bipush 11, 2), (123, .ireturn, 1), (124, .aload_n 0, 1), (125, .iload_n 1, 1), (126, .ldc 174, 2), (128, .invokevirtual 152, 3), (131, .ifCond .eq 6, 3), (134, .bipush 12, 2), (136, .ireturn, 1), (137, .aload_n 0, 1), (138, .iload_n 1, 1), (139, .ldc 176, 2), (141, .invokevirtual 152, 3), (144, .ifCond .eq 8, 3), (147, .bipush 20, 2), (149, .goto 5, 3), (152, .bipush 21, 2), (154, .ireturn, 1)]
def ab_c85 : List (Nat × Instr × Nat) := [(0, .aload_n 0, 1), (1, .getfield 123, 3), (4, .iload_n 1, 1), (5, .isub, 1), (6, .aload_n 2, 1), (7, .invokevirtual 178, 3), (10, .if_icmp .eq 5, 3), (13, .iconst 0, 1), (14, .ireturn, 1), (15, .iconst 0, 1), (16, .istore_n 3, 1), (17, .iload_n 3, 1), (18, .aload_n 2, 1), (19, .invokevirtual 178, 3), (22, .if_icmp .ge 34, 3), (25, .aload_n 0, 1), (26, .getfield 12, 3), (29, .iload_n 1, 1), (30, .iload_n 3, 1), (31, .iadd, 1), (32, .aload_n 2, 1), (33, .iload_n 3, 1), (34, .invokevirtual 183, 3), (37, .aload_n 2, 1), (38, .iload_n 3, 1), (39, .invokevirtual 183, 3), (42, .invokevirtual 139, 3), (45, .ifCond .ne 5, 3), (48, .iconst 0, 1), (49, .ireturn, 1), (50, .iinc 3 1, 3), (53, .goto (-36), 3), (56, .iconst 1, 1), (57, .ireturn, 1)]
def ab_c86 : List (Nat × Instr × Nat) := [(0, .aload_n 0, 1), (1, .invokespecial 3, 3), (4, .aload_n 0, 1), (5, .iconst 4, 1), (6, .newarray .int, 2), (8, .putfield 9, 3), (11, .aload_n 0, 1), (12, .iconst 4, 1), (13, .newarray .int, 2), (15, .putfield 15, 3), (18, .aload_n 0, 1), (19, .iconst 4, 1), (20, .bipush 40, 2), (22, .multianewarray 18 2, 4), (26, .putfield 20, 3), (29, .iconst 0, 1), (30, .istore_n 1, 1), (31, .iload_n 1, 1), (32, .iconst 4, 1), (33, .if_icmp .ge 17, 3), (36, .aload_n 0, 1), (37, .getfield 9, 3), (40, .iload_n 1, 1), (41, .bipush (-4), 2), (43, .iastore, 1), (44, .iinc 1 1, 3), (47, .goto (-16), 3), (50, .return_, 1)]
def ab_c87 : List (Nat × Instr × Nat) := [(0, .aload_n 0, 1), (1, .getfield 10, 3), (4, .getfield 100, 3), (7, .ireturn, 1)]
def ab_c88 : List (Nat × Instr × Nat) := [(0, .aload_n 0, 1), (1, .getfield 10, 3), (4, .getfield 100, 3), (7, .ireturn, 1)]
def ab_c89 : List (Nat × Instr × Nat) := [(0, .aload_n 0, 1), (1, .getfield 10, 3), (4, .getfield 100, 3), (7, .ireturn, 1)]
def ab_c90 : List (Nat × Instr × Nat) := [(0, .aload_n 0, 1), (1, .getfield 10, 3), (4, .getfield 100, 3), (7, .ireturn, 1)]
def ab_c91 : List (Nat × Instr × Nat) := [(0, .aload_n 0, 1), (1, .getfield 10, 3), (4, .getfield 100, 3), (7, .ireturn, 1)]
def ab_c92 : List (Nat × Instr × Nat) := [(0, .aload_n 0, 1), (1, .invokespecial 3, 3), (4, .aload_n 0, 1), (5, .sipush 320, 3), (8, .newarray .byte, 2), (10, .putfield 9, 3), (13, .return_, 1)]
def ab_c93 : List (Nat × Instr × Nat) := [(0, .aload_n 0, 1), (1, .getfield 15, 3), (4, .sipush 320, 3), (7, .if_icmp .lt 5, 3), (10, .iconst 0, 1), (11, .ireturn, 1), (12, .aload_n 0, 1), (13, .getfield 9, 3), (16, .aload_n 0, 1), (17, .getfield 15, 3), (20, .iload_n 1, 1), (21, .i2b, 1), (22, .bastore, 1), (23, .aload_n 0, 1), (24, .dup, 1), (25, .getfield 15, 3), (28, .iconst 1, 1), (29, .iadd, 1), (30, .putfield 15, 3), (33, .iconst 1, 1), (34, .ireturn, 1)]
def ab_c94 : List (Nat × Instr × Nat) := [(0, .iload_n 1, 1), (1, .ifCond .lt 35, 3), (4, .iload_n 1, 1), (5, .aload_n 0, 1), (6, .getfield 15, 3), (9, .if_icmp .ge 27, 3), (12, .aload_n 0, 1), (13, .getfield 9, 3), (16, .iload_n 1, 1), (17, .baload, 1), (18, .iload_n 2, 1), (19, .if_icmp .lt 17, 3), (22, .aload_n 0, 1), (23, .getfield 9, 3), (26, .iload_n 1, 1), (27, .baload, 1), (28, .iload_n 3, 1), (29, .if_icmp .gt 7, 3), (32, .iconst 1, 1), (33, .goto 4, 3), (36, .iconst 0, 1), (37, .ireturn, 1)]
def ab_c95 : List (Nat × Instr × Nat) := [(0, .aload_n 0, 1), (1, .invokespecial 1, 3), (4, .aload_n 0, 1), (5, .new 7, 3), (8, .dup, 1), (9, .invokespecial 9, 3), (12, .putfield 10, 3), (15, .aload_n 0, 1), (16, .new 16, 3), (19, .dup, 1), (20, .invokespecial 18, 3), (23, .putfield 19, 3), (26, .aload_n 0, 1), (27, .new 16, 3), (30, .dup, 1), (31, .invokespecial 18, 3), (34, .putfield 23, 3), (37, .aload_n 0, 1), (38, .new 26, 3), (41, .dup, 1), (42, .invokespecial 28, 3), (45, .putfield 29, 3), (48, .aload_n 0, 1), (49, .new 33, 3), (52, .dup, 1), (53, .invokespecial 35, 3), (56, .putfield 36, 3), (59, .aload_n 0, 1), (60, .new 40, 3), (63, .dup, 1), (64, .invokespecial 42, 3), (67, .putfield 43, 3), (70, .aload_n 0, 1), (71, .iconst 2, 1), (72, .anewarray 47, 3), (75, .putfield 49, 3), (78, .aload_n 0, 1), (79, .iconst 2, 1), (80, .newarray .boolean, 2), (82, .putfield 53, 3), (85, .aload_n 0, 1), (86, .bipush 20, 2), (88, .newarray .int, 2), (90, .putfield 57, 3), (93, .aload_n 0, 1), (94, .new 47, 3), (97, .dup, 1), (98, .invokespecial 61, 3), (101, .putfield 62, 3), (104, .iconst 0, 1), (105, .istore_n 1, 1), (106, .iload_n 1, 1), (107, .iconst 2, 1), (108, .if_icmp .ge 22, 3), (111, .aload_n 0, 1), (112, .getfield 49, 3), (115, .iload_n 1, 1), (116, .new 47, 3), (119, .dup, 1), (120, .invokespecial 61, 3), (123, .aastore, 1), (124, .iinc 1 1, 3), (127, .goto (-21), 3), (130, .return_, 1)]
def ab_c96 : List (Nat × Instr × Nat) := [(0, .iload_n 1, 1), (1, .ifCond .lt 9, 3), (4, .iload_n 1, 1), (5, .bipush 127, 2), (7, .if_icmp .le 5, 3), (10, .iconst (-1), 1), (11, .ireturn, 1), (12, .aload_n 0, 1), (13, .getfield 10, 3), (16, .getfield 66, 3), (19, .iload_n 1, 1), (20, .invokevirtual 70, 3), (23, .ifCond .eq 16, 3), (26, .aload_n 0, 1), (27, .getfield 10, 3), (30, .getfield 66, 3), (33, .getfield 76, 3), (36, .goto 5, 3), (39, .bipush (-3), 2), (41, .ireturn, 1)]
def ab_c97 : List (Nat × Instr × Nat) := [(0, .aload_n 0, 1), (1, .getfield 10, 3), (4, .getfield 100, 3), (7, .ireturn, 1)]
def ab_c98 : List (Nat × Instr × Nat) := [(0, .aload_n 0, 1), (1, .getfield 10, 3), (4, .invokevirtual 80, 3), (7, .istore_n 1, 1), (8, .aload_n 0, 1), (9, .getfield 10, 3), (12, .getfield 66, 3), (15, .iconst 0, 1), (16, .putfield 76, 3), (19, .iload_n 1, 1), (20, .ifCond .ne 14, 3), (23, .bipush (-10), 2), (25, .aload_n 0, 1), (26, .getfield 10, 3), (29, .getfield 84, 3), (32, .isub, 1), (33, .ireturn, 1), (34, .aload_n 0, 1), (35, .getfield 62, 3), (38, .aload_n 0, 1), (39, .getfield 10, 3), (42, .getfield 87, 3), (45, .invokevirtual 90, 3), (48, .iconst 0, 1), (49, .istore_n 2, 1), (50, .iload_n 2, 1), (51, .iconst 2, 1), (52, .if_icmp .ge 16, 3), (55, .aload_n 0, 1), (56, .getfield 53, 3), (59, .iload_n 2, 1), (60, .iconst 0, 1), (61, .bastore, 1), (62, .iinc 2 1, 3), (65, .goto (-15), 3), (68, .aload_n 0, 1), (69, .getfield 19, 3), (72, .invokevirtual 94, 3), (75, .aload_n 0, 1), (76, .getfield 62, 3), (79, .getfield 97, 3), (82, .ireturn, 1)]
def ab_c99 : List (Nat × Instr × Nat) := [(0, .aload_n 0, 1), (1, .getfield 10, 3), (4, .getfield 100, 3), (7, .ireturn, 1)]
def ab_c100 : List (Nat × Instr × Nat) := [(0, .iload_n 1, 1), (1, .tableswitch 79 0 4 #[35, 43, 51, 61, 71], 35), (36, .aload_n 0, 1), (37, .getfield 62, 3), (40, .getfield 103, 3), (43, .ireturn, 1), (44, .aload_n 0, 1), (45, .getfield 62, 3), (48, .getfield 97, 3), (51, .ireturn, 1), (52, .aload_n 0, 1), (53, .getfield 62, 3), (56, .bipush 8, 2), (58, .invokevirtual 106, 3), (61, .ireturn, 1), (62, .aload_n 0, 1), (63, .getfield 62, 3), (66, .bipush 7, 2), (68, .invokevirtual 106, 3), (71, .ireturn, 1), (72, .aload_n 0, 1), (73, .getfield 62, 3), (76, .invokevirtual 110, 3), (79, .ireturn, 1), (80, .iconst (-1), 1), (81, .ireturn, 1)]
def ab_c101 : List (Nat × Instr × Nat) := [(0, .aload_n 0, 1), (1, .getfield 10, 3), (4, .getfield 100, 3), (7, .ireturn, 1)]
def ab_c102 : List (Nat × Instr × Nat) := [(0, .aload_n 0, 1), (1, .getfield 10, 3), (4, .getfield 100, 3), (7, .ireturn, 1)]
def ab_c103 : List (Nat × Instr × Nat) := [(0, .aload_n 0, 1), (1, .getfield 62, 3), (4, .iload_n 1, 1), (5, .invokevirtual 148, 3), (8, .ifCond .ne 5, 3), (11, .iconst (-1), 1), (12, .ireturn, 1), (13, .iload_n 2, 1), (14, .tableswitch 99 0 4 #[34, 44, 54, 64, 90], 34), (48, .aload_n 0, 1), (49, .getfield 62, 3), (52, .getfield 151, 3), (55, .iload_n 1, 1), (56, .iaload, 1), (57, .ireturn, 1), (58, .aload_n 0, 1), (59, .getfield 62, 3), (62, .getfield 154, 3), (65, .iload_n 1, 1), (66, .iaload, 1), (67, .ireturn, 1), (68, .aload_n 0, 1), (69, .getfield 62, 3), (72, .getfield 157, 3), (75, .iload_n 1, 1), (76, .iaload, 1), (77, .ireturn, 1), (78, .aload_n 0, 1), (79, .getfield 62, 3), (82, .iload_n 1, 1), (83, .invokevirtual 160, 3), (86, .ifCond .eq 15, 3), (89, .aload_n 0, 1), (90, .getfield 62, 3), (93, .getfield 163, 3), (96, .iload_n 1, 1), (97, .iaload, 1), (98, .goto 5, 3), (101, .bipush (-4), 2), (103, .ireturn, 1), (104, .aload_n 0, 1), (105, .getfield 62, 3), (108, .iload_n 1, 1), (109, .invokevirtual 166, 3), (112, .ireturn, 1), (113, .iconst (-1), 1), (114, .ireturn, 1)]
def ab_c104 : List (Nat × Instr × Nat) := [(0, .aload_n 0, 1), (1, .getfield 62, 3), (4, .iload_n 1, 1), (5, .iload_n 2, 1), (6, .invokevirtual 169, 3), (9, .ifCond .eq 17, 3), (12, .aload_n 0, 1), (13, .getfield 62, 3), (16, .getfield 173, 3), (19, .iload_n 1, 1), (20, .aaload, 1), (21, .iload_n 2, 1), (22, .iaload, 1), (23, .goto 4, 3), (26, .iconst (-1), 1), (27, .ireturn, 1)]
def ab_c105 : List (Nat × Instr × Nat) := [(0, .aload_n 0, 1), (1, .getfield 62, 3), (4, .iload_n 1, 1), (5, .invokevirtual 148, 3), (8, .ifCond .eq 14, 3), (11, .aload_n 0, 1), (12, .getfield 62, 3), (15, .iload_n 2, 1), (16, .invokevirtual 148, 3), (19, .ifCond .ne 5, 3), (22, .iconst (-1), 1), (23, .ireturn, 1), (24, .aload_n 0, 1), (25, .getfield 62, 3), (28, .iload_n 1, 1), (29, .iload_n 2, 1), (30, .invokevirtual 176, 3), (33, .ifCond .eq 7, 3), (36, .iconst 1, 1), (37, .goto 4, 3), (40, .iconst 0, 1), (41, .ireturn, 1)]
def ab_c106 : List (Nat × Instr × Nat) := [(0, .aload_n 0, 1), (1, .getfield 19, 3), (4, .iload_n 1, 1), (5, .iload_n 2, 1), (6, .iload_n 3, 1), (7, .iload 4, 2), (9, .invokevirtual 179, 3), (12, .aload_n 0, 1), (13, .getfield 19, 3), (16, .aload_n 0, 1), (17, .getfield 62, 3), (20, .invokevirtual 183, 3), (23, .lreturn, 1)]
def ab_c107 : List (Nat × Instr × Nat) := [(0, .aload_n 0, 1), (1, .getfield 62, 3), (4, .iload_n 1, 1), (5, .invokevirtual 148, 3), (8, .ifCond .ne 7, 3), (11, .ldc2_w 187, 3), (14, .lreturn, 1), (15, .aload_n 0, 1), (16, .getfield 19, 3), (19, .getfield 189, 3), (22, .ifCond .eq 15, 3), (25, .aload_n 0, 1), (26, .getfield 19, 3), (29, .getfield 193, 3), (32, .iload_n 1, 1), (33, .laload, 1), (34, .goto 6, 3), (37, .ldc2_w 197, 3), (40, .lreturn, 1)]
def ab_c108 : List (Nat × Instr × Nat) := [(0, .iload_n 1, 1), (1, .ifCond .lt 8, 3), (4, .iload_n 1, 1), (5, .iconst 2, 1), (6, .if_icmp .le 5, 3), (9, .iconst (-1), 1), (10, .ireturn, 1), (11, .aload_n 0, 1), (12, .getfield 19, 3), (15, .getfield 189, 3), (18, .ifCond .ne 6, 3), (21, .bipush (-4), 2), (23, .ireturn, 1), (24, .iload_n 1, 1), (25, .ifCond .ne 11, 3), (28, .aload_n 0, 1), (29, .getfield 19, 3), (32, .getfield 199, 3), (35, .ireturn, 1), (36, .iload_n 1, 1), (37, .iconst 1, 1), (38, .if_icmp .ne 11, 3), (41, .aload_n 0, 1), (42, .getfield 19, 3), (45, .getfield 202, 3), (48, .ireturn, 1), (49, .aload_n 0, 1), (50, .getfield 19, 3), (53, .getfield 205, 3), (56, .ifCond .eq 7, 3), (59, .iconst 1, 1), (60, .goto 4, 3), (63, .iconst 0, 1), (64, .ireturn, 1)]
def ab_c109 : List (Nat × Instr × Nat) := [(0, .iload_n 1, 1), (1, .ifCond .lt 8, 3), (4, .iload_n 1, 1), (5, .iconst 2, 1), (6, .if_icmp .le 5, 3), (9, .iconst (-1), 1), (10, .ireturn, 1), (11, .aload_n 0, 1), (12, .getfield 29, 3), (15, .aload_n 0, 1), (16, .getfield 62, 3), (19, .bipush 100, 2), (21, .invokevirtual 208, 3), (24, .iload_n 1, 1), (25, .ifCond .ne 15, 3), (28, .aload_n 0, 1), (29, .getfield 29, 3), (32, .aload_n 0, 1), (33, .getfield 62, 3), (36, .invokevirtual 212, 3), (39, .ireturn, 1), (40, .iload_n 1, 1), (41, .iconst 1, 1), (42, .if_icmp .ne 13, 3), (45, .aload_n 0, 1), (46, .getfield 29, 3), (49, .getfield 216, 3), (52, .goto 14, 3), (55, .aload_n 0, 1), (56, .getfield 29, 3), (59, .aload_n 0, 1), (60, .getfield 62, 3), (63, .invokevirtual 219, 3), (66, .ireturn, 1)]
def ab_c110 : List (Nat × Instr × Nat) := [(0, .aload_n 0, 1), (1, .iload_n 1, 1), (2, .bipush 100, 2), (4, .invokevirtual 222, 3), (7, .ireturn, 1)]
def ab_c111 : List (Nat × Instr × Nat) := [(0, .aload_n 0, 1), (1, .getfield 62, 3), (4, .iload_n 1, 1), (5, .invokevirtual 148, 3), (8, .ifCond .eq 13, 3), (11, .iload_n 2, 1), (12, .ifCond .lt 9, 3), (15, .iload_n 2, 1), (16, .bipush 100, 2), (18, .if_icmp .le 5, 3), (21, .iconst (-1), 1), (22, .ireturn, 1), (23, .aload_n 0, 1), (24, .getfield 29, 3), (27, .aload_n 0, 1), (28, .getfield 62, 3), (31, .iload_n 2, 1), (32, .invokevirtual 208, 3), (35, .aload_n 0, 1), (36, .getfield 29, 3), (39, .getfield 226, 3), (42, .iload_n 1, 1), (43, .iaload, 1), (44, .ireturn, 1)]
def ab_c112 : List (Nat × Instr × Nat) := [(0, .aload_n 0, 1), (1, .getfield 62, 3), (4, .iload_n 1, 1), (5, .invokevirtual 148, 3), (8, .ifCond .ne 5, 3), (11, .iconst (-1), 1), (12, .ireturn, 1), (13, .aload_n 0, 1), (14, .getfield 29, 3), (17, .aload_n 0, 1), (18, .getfield 62, 3), (21, .bipush 100, 2), (23, .invokevirtual 208, 3), (26, .aload_n 0, 1), (27, .getfield 29, 3), (30, .aload_n 0, 1), (31, .getfield 62, 3), (34, .iload_n 1, 1), (35, .invokevirtual 227, 3), (38, .ireturn, 1)]
def ab_c113 : List (Nat × Instr × Nat) := [(0, .aload_n 0, 1), (1, .getfield 62, 3), (4, .iload_n 1, 1), (5, .invokevirtual 148, 3), (8, .ifCond .ne 5, 3), (11, .iconst (-1), 1), (12, .ireturn, 1), (13, .aload_n 0, 1), (14, .getfield 36, 3), (17, .aload_n 0, 1), (18, .getfield 62, 3), (21, .invokevirtual 231, 3), (24, .aload_n 0, 1), (25, .getfield 36, 3), (28, .iload_n 1, 1), (29, .invokevirtual 234, 3), (32, .ireturn, 1)]
def ab_c114 : List (Nat × Instr × Nat) := [(0, .aload_n 0, 1), (1, .getfield 62, 3), (4, .iload_n 1, 1), (5, .invokevirtual 148, 3), (8, .ifCond .ne 7, 3), (11, .ldc2_w 187, 3), (14, .lreturn, 1), (15, .aload_n 0, 1), (16, .getfield 36, 3), (19, .aload_n 0, 1), (20, .getfield 62, 3), (23, .invokevirtual 231, 3), (26, .aload_n 0, 1), (27, .getfield 36, 3), (30, .iload_n 1, 1), (31, .invokevirtual 237, 3), (34, .lreturn, 1)]
def ab_c115 : List (Nat × Instr × Nat) := [(0, .aload_n 0, 1), (1, .getfield 29, 3), (4, .aload_n 0, 1), (5, .getfield 62, 3), (8, .bipush 100, 2), (10, .invokevirtual 208, 3), (13, .iconst 0, 1), (14, .istore_n 1, 1), (15, .iload_n 1, 1), (16, .aload_n 0, 1), (17, .getfield 62, 3), (20, .getfield 97, 3), (23, .if_icmp .ge 27, 3), (26, .aload_n 0, 1), (27, .getfield 57, 3), (30, .iload_n 1, 1), (31, .aload_n 0, 1), (32, .getfield 29, 3), (35, .aload_n 0, 1), (36, .getfield 62, 3), (39, .iload_n 1, 1), (40, .invokevirtual 227, 3), (43, .iastore, 1), (44, .iinc 1 1, 3), (47, .goto (-32), 3), (50, .aload_n 0, 1), (51, .getfield 62, 3), (54, .aload_n 0, 1), (55, .getfield 57, 3), (58, .invokevirtual 241, 3), (61, .ireturn, 1)]
def ab_c116 : List (Nat × Instr × Nat) := [(0, .aload_n 0, 1), (1, .getfield 62, 3), (4, .invokevirtual 245, 3), (7, .ireturn, 1)]
def ab_c117 : List (Nat × Instr × Nat) := [(0, .aload_n 0, 1), (1, .getfield 62, 3), (4, .iload_n 1, 1), (5, .iload_n 2, 1), (6, .invokevirtual 169, 3), (9, .ifCond .eq 14, 3), (12, .aload_n 0, 1), (13, .getfield 62, 3), (16, .iload_n 3, 1), (17, .invokevirtual 148, 3), (20, .ifCond .ne 5, 3), (23, .iconst (-1), 1), (24, .ireturn, 1), (25, .aload_n 0, 1), (26, .getfield 62, 3), (29, .getfield 151, 3), (32, .iload_n 3, 1), (33, .iaload, 1), (34, .bipush 8, 2), (36, .if_icmp .eq 16, 3), (39, .aload_n 0, 1), (40, .getfield 62, 3), (43, .iload_n 3, 1), (44, .iload_n 1, 1), (45, .iload_n 2, 1), (46, .invokevirtual 248, 3), (49, .ifCond .ne 6, 3), (52, .bipush (-2), 2), (54, .ireturn, 1), (55, .aload_n 0, 1), (56, .getfield 62, 3), (59, .getfield 173, 3), (62, .iload_n 1, 1), (63, .aaload, 1), (64, .iload_n 2, 1), (65, .iaload, 1), (66, .istore 4, 2), (68, .aload_n 0, 1), (69, .getfield 62, 3), (72, .getfield 173, 3), (75, .iload_n 1, 1), (76, .aaload, 1), (77, .iload_n 2, 1), (78, .iload_n 3, 1), (79, .iastore, 1), (80, .iload 4, 2), (82, .ireturn, 1)]
def ab_c118 : List (Nat × Instr × Nat) := [(0, .aload_n 0, 1), (1, .getfield 62, 3), (4, .iload_n 1, 1), (5, .invokevirtual 148, 3), (8, .ifCond .eq 14, 3), (11, .aload_n 0, 1), (12, .getfield 62, 3), (15, .iload_n 1, 1), (16, .invokevirtual 160, 3), (19, .ifCond .ne 5, 3), (22, .iconst (-1), 1), (23, .ireturn, 1), (24, .iload_n 2, 1), (25, .ifCond .lt 19, 3), (28, .iload_n 2, 1), (29, .aload_n 0, 1), (30, .getfield 62, 3), (33, .getfield 151, 3), (36, .iload_n 1, 1), (37, .iaload, 1), (38, .invokestatic 252, 3), (41, .if_icmp .le 5, 3), (44, .iconst (-1), 1), (45, .ireturn, 1), (46, .aload_n 0, 1), (47, .getfield 62, 3), (50, .getfield 163, 3), (53, .iload_n 1, 1), (54, .iaload, 1), (55, .istore_n 3, 1), (56, .aload_n 0, 1), (57, .getfield 62, 3), (60, .getfield 163, 3), (63, .iload_n 1, 1), (64, .iload_n 2, 1), (65, .iastore, 1), (66, .iload_n 3, 1), (67, .ireturn, 1)]
def ab_c119 : List (Nat × Instr × Nat) := [(0, .iload_n 2, 1), (1, .iconst 1, 1), (2, .if_icmp .lt 20, 3), (5, .iload_n 2, 1), (6, .bipush 50, 2), (8, .if_icmp .gt 14, 3), (11, .iload 5, 2), (13, .ifCond .lt 9, 3), (16, .iload 5, 2), (18, .iconst 1, 1), (19, .if_icmp .le 5, 3), (22, .iconst (-1), 1), (23, .ireturn, 1), (24, .aload_n 0, 1), (25, .getfield 62, 3), (28, .iload_n 3, 1), (29, .invokevirtual 148, 3), (32, .ifCond .eq 15, 3), (35, .aload_n 0, 1), (36, .getfield 62, 3), (39, .iload 4, 2), (41, .invokevirtual 148, 3), (44, .ifCond .ne 5, 3), (47, .iconst (-1), 1), (48, .ireturn, 1), (49, .iload_n 1, 1), (50, .istore 6, 2), (52, .iconst 0, 1), (53, .istore 7, 2), (55, .aload_n 0, 1), (56, .getfield 23, 3), (59, .iload_n 3, 1), (60, .iload 4, 2), (62, .invokevirtual 255, 3), (65, .iconst 0, 1), (66, .istore 8, 2), (68, .iload 8, 2), (70, .iload_n 2, 1), (71, .if_icmp .ge 45, 3), (74, .aload_n 0, 1), (75, .getfield 23, 3), (78, .iload 6, 2), (80, .invokevirtual 259, 3), (83, .istore 6, 2), (85, .aload_n 0, 1), (86, .getfield 23, 3), (89, .aload_n 0, 1), (90, .getfield 62, 3), (93, .invokevirtual 183, 3), (96, .pop2, 1), (97, .aload_n 0, 1), (98, .getfield 23, 3), (101, .getfield 205, 3), (104, .ifCond .eq 6, 3), (107, .iinc 7 1, 3), (110, .iinc 8 1, 3), (113, .goto (-45), 3), (116, .iload 5, 2), (118, .ifCond .ne 13, 3), (121, .aload_n 0, 1), (122, .getfield 23, 3), (125, .getfield 262, 3), (128, .goto 5, 3), (131, .iload 7, 2), (133, .ireturn, 1)]
def ab_c120 : List (Nat × Instr × Nat) := [(0, .iload_n 1, 1), (1, .ifCond .lt 8, 3), (4, .iload_n 1, 1), (5, .iconst 2, 1), (6, .if_icmp .lt 5, 3), (9, .iconst (-1), 1), (10, .ireturn, 1), (11, .aload_n 0, 1), (12, .getfield 53, 3), (15, .iload_n 1, 1), (16, .baload, 1), (17, .ifCond .eq 7, 3), (20, .iconst 1, 1), (21, .goto 4, 3), (24, .iconst 0, 1), (25, .istore_n 2, 1), (26, .aload_n 0, 1), (27, .getfield 49, 3), (30, .iload_n 1, 1), (31, .aaload, 1), (32, .aload_n 0, 1), (33, .getfield 62, 3), (36, .invokevirtual 90, 3), (39, .aload_n 0, 1), (40, .getfield 53, 3), (43, .iload_n 1, 1), (44, .iconst 1, 1), (45, .bastore, 1), (46, .iload_n 2, 1), (47, .ireturn, 1)]
def ab_c121 : List (Nat × Instr × Nat) := [(0, .iload_n 1, 1), (1, .ifCond .lt 8, 3), (4, .iload_n 1, 1), (5, .iconst 2, 1), (6, .if_icmp .lt 5, 3), (9, .iconst (-1), 1), (10, .ireturn, 1), (11, .aload_n 0, 1), (12, .getfield 53, 3), (15, .iload_n 1, 1), (16, .baload, 1), (17, .ifCond .ne 6, 3), (20, .bipush (-2), 2), (22, .ireturn, 1), (23, .aload_n 0, 1), (24, .getfield 62, 3), (27, .aload_n 0, 1), (28, .getfield 49, 3), (31, .iload_n 1, 1), (32, .aaload, 1), (33, .invokevirtual 90, 3), (36, .aload_n 0, 1), (37, .getfield 19, 3), (40, .invokevirtual 94, 3), (43, .aload_n 0, 1), (44, .getfield 62, 3), (47, .getfield 97, 3), (50, .ireturn, 1)]
def ab_c122 : List (Nat × Instr × Nat) := [(0, .aload_n 0, 1), (1, .getfield 10, 3), (4, .getfield 100, 3), (7, .ireturn, 1)]
def ab_c123 : List (Nat × Instr × Nat) := [(0, .aload_n 0, 1), (1, .getfield 10, 3), (4, .getfield 100, 3), (7, .ireturn, 1)]
def ab_c124 : List (Nat × Instr × Nat) := [(0, .aload_n 0, 1), (1, .getfield 10, 3), (4, .getfield 100, 3), (7, .ireturn, 1)]
def ab_c125 : List (Nat × Instr × Nat) := [(0, .aload_n 0, 1), (1, .getfield 10, 3), (4, .getfield 100, 3), (7, .ireturn, 1)]
def ab_c126 : List (Nat × Instr × Nat) := [(0, .aload_n 0, 1), (1, .getfield 10, 3), (4, .getfield 100, 3), (7, .ireturn, 1)]
def ab_c127 : List (Nat × Instr × Nat) := [(0, .aload_n 0, 1), (1, .getfield 10, 3), (4, .getfield 100, 3), (7, .ireturn, 1)]
def ab_c128 : List (Nat × Instr × Nat) := [(0, .aload_n 0, 1), (1, .getfield 10, 3), (4, .getfield 100, 3), (7, .ireturn, 1)]
def ab_c129 : List (Nat × Instr × Nat) := [(0, .iload_n 0, 1), (1, .iconst 1, 1), (2, .if_icmp .ne 7, 3), (5, .iconst 3, 1), (6, .goto 5, 3), (9, .bipush 99, 2), (11, .ireturn, 1)]
def ab_c130 : List (Nat × Instr × Nat) := [(0, .iload_n 0, 1), (1, .iload_n 1, 1), (2, .ishr, 1), (3, .iconst 1, 1), (4, .iand, 1), (5, .ifCond .eq 7, 3), (8, .iconst 1, 1), (9, .goto 4, 3), (12, .iconst 0, 1), (13, .ireturn, 1)]
def ab_c131 : List (Nat × Instr × Nat) := [(0, .lload_n 1, 1), (1, .ldc2_w 299, 3), (4, .lcmp, 1), (5, .ifCond .eq 16, 3), (8, .iload_n 0, 1), (9, .iconst 4, 1), (10, .if_icmp .eq 15, 3), (13, .lload_n 3, 1), (14, .ldc2_w 299, 3), (17, .lcmp, 1), (18, .ifCond .ne 7, 3), (21, .iconst 1, 1), (22, .goto 4, 3), (25, .iconst 0, 1), (26, .istore 5, 2), (28, .iload 5, 2), (30, .ifCond .eq 16, 3), (33, .iload_n 0, 1), (34, .iconst 5, 1), (35, .if_icmp .ne 7, 3), (38, .lconst 0, 1), (39, .goto 6, 3), (42, .ldc2_w 299, 3), (45, .lreturn, 1), (46, .iload_n 0, 1), (47, .tableswitch 80 2 6 #[33, 39, 45, 50, 62], 33), (80, .lload_n 1, 1), (81, .lload_n 3, 1), (82, .ladd, 1), (83, .l2i, 1), (84, .i2l, 1), (85, .lreturn, 1), (86, .lload_n 1, 1), (87, .lload_n 3, 1), (88, .lmul, 1), (89, .l2i, 1), (90, .i2l, 1), (91, .lreturn, 1), (92, .lload_n 1, 1), (93, .lneg, 1), (94, .l2i, 1), (95, .i2l, 1), (96, .lreturn, 1), (97, .lload_n 1, 1), (98, .lload_n 3, 1), (99, .lcmp, 1), (100, .ifCond .ge 7, 3), (103, .lconst 1, 1), (104, .goto 4, 3), (107, .lconst 0, 1), (108, .lreturn, 1), (109, .lload_n 3, 1), (110, .lconst 0, 1), (111, .lcmp, 1), (112, .ifCond .ne 9, 3), (115, .ldc2_w 299, 3), (118, .goto 8, 3), (121, .lload_n 1, 1), (122, .lload_n 3, 1), (123, .ldiv, 1), (124, .l2i, 1), (125, .i2l, 1), (126, .lreturn, 1), (127, .ldc2_w 299, 3), (130, .lreturn, 1)]
def ab_c132 : List (Nat × Instr × Nat) := [(0, .iload_n 0, 1), (1, .ldc 7, 2), (3, .iand, 1), (4, .iload_n 1, 1), (5, .irem, 1), (6, .ireturn, 1)]
def ab_c133 : List (Nat × Instr × Nat) := [(0, .aload_n 0, 1), (1, .arraylength, 1), (2, .ifCond .ne 13, 3), (5, .sipush 7919, 3), (8, .iload_n 1, 1), (9, .imul, 1), (10, .iconst 3, 1), (11, .iadd, 1), (12, .goto 27, 3), (15, .aload_n 0, 1), (16, .iload_n 1, 1), (17, .aload_n 0, 1), (18, .arraylength, 1), (19, .irem, 1), (20, .iaload, 1), (21, .iload_n 1, 1), (22, .bipush 7, 2), (24, .irem, 1), (25, .ishr, 1), (26, .iload_n 1, 1), (27, .aload_n 0, 1), (28, .arraylength, 1), (29, .idiv, 1), (30, .bipush 31, 2), (32, .imul, 1), (33, .ixor, 1), (34, .iload_n 1, 1), (35, .ldc 8, 2), (37, .imul, 1), (38, .ixor, 1), (39, .ireturn, 1)]
def ab_c134 : List (Nat × Instr × Nat) := [(0, .aload_n 0, 1), (1, .iload_n 2, 1), (2, .invokevirtual 9, 3), (5, .pop, 1), (6, .aload_n 1, 1), (7, .iconst 0, 1), (8, .dup2, 1), (9, .iaload, 1), (10, .iconst 1, 1), (11, .iadd, 1), (12, .iastore, 1), (13, .return_, 1)]
def ab_c135 : List (Nat × Instr × Nat) := [(0, .bipush 56, 2), (2, .istore 4, 2), (4, .iload 4, 2), (6, .ifCond .lt 32, 3), (9, .lload_n 2, 1), (10, .iload 4, 2), (12, .lshr, 1), (13, .l2i, 1), (14, .sipush 255, 3), (17, .iand, 1), (18, .istore 5, 2), (20, .iload 5, 2), (22, .ifCond .le 10, 3), (25, .aload_n 0, 1), (26, .aload_n 1, 1), (27, .iload 5, 2), (29, .invokestatic 15, 3), (32, .iinc 4 (-8), 3), (35, .goto (-31), 3), (38, .return_, 1)]
def ab_c136 : List (Nat × Instr × Nat) := [(0, .aload_n 0, 1), (1, .aload_n 1, 1), (2, .bipush 32, 2), (4, .invokestatic 15, 3), (7, .iload_n 2, 1), (8, .sipush 999, 3), (11, .if_icmp .le 19, 3), (14, .aload_n 0, 1), (15, .aload_n 1, 1), (16, .bipush 48, 2), (18, .iload_n 2, 1), (19, .sipush 1000, 3), (22, .idiv, 1), (23, .bipush 10, 2), (25, .irem, 1), (26, .iadd, 1), (27, .invokestatic 15, 3), (30, .iload_n 2, 1), (31, .bipush 99, 2), (33, .if_icmp .le 18, 3), (36, .aload_n 0, 1), (37, .aload_n 1, 1), (38, .bipush 48, 2), (40, .iload_n 2, 1), (41, .bipush 100, 2), (43, .idiv, 1), (44, .bipush 10, 2), (46, .irem, 1), (47, .iadd, 1), (48, .invokestatic 15, 3), (51, .iload_n 2, 1), (52, .bipush 9, 2), (54, .if_icmp .le 18, 3), (57, .aload_n 0, 1), (58, .aload_n 1, 1), (59, .bipush 48, 2), (61, .iload_n 2, 1), (62, .bipush 10, 2), (64, .idiv, 1), (65, .bipush 10, 2), (67, .irem, 1), (68, .iadd, 1), (69, .invokestatic 15, 3), (72, .aload_n 0, 1), (73, .aload_n 1, 1), (74, .bipush 48, 2), (76, .iload_n 2, 1), (77, .bipush 10, 2), (79, .irem, 1), (80, .iadd, 1), (81, .invokestatic 15, 3), (84, .return_, 1)]
def ab_c137 : List (Nat × Instr × Nat) := [(0, .aload_n 1, 1), (1, .iconst 0, 1), (2, .iconst 0, 1), (3, .iastore, 1), (4, .aload_n 0, 1), (5, .invokevirtual 21, 3), (8, .ireturn, 1)]
def ab_c138 : List (Nat × Instr × Nat) := [(0, .aload_n 0, 1), (1, .aload_n 1, 1), (2, .iload_n 2, 1), (3, .ifCond .ne 9, 3), (6, .ldc2_w 25, 3), (9, .goto 121, 3), (12, .iload_n 2, 1), (13, .iconst 1, 1), (14, .if_icmp .ne 9, 3), (17, .ldc2_w 27, 3), (20, .goto 110, 3), (23, .iload_n 2, 1), (24, .iconst 2, 1), (25, .if_icmp .ne 9, 3), (28, .ldc2_w 29, 3), (31, .goto 99, 3), (34, .iload_n 2, 1), (35, .iconst 3, 1), (36, .if_icmp .ne 9, 3), (39, .ldc2_w 31, 3), (42, .goto 88, 3), (45, .iload_n 2, 1), (46, .iconst 4, 1), (47, .if_icmp .ne 9, 3), (50, .ldc2_w 33, 3), (53, .goto 77, 3), (56, .iload_n 2, 1), (57, .iconst 5, 1), (58, .if_icmp .ne 9, 3), (61, .ldc2_w 35, 3), (64, .goto 66, 3), (67, .iload_n 2, 1), (68, .bipush 6, 2), (70, .if_icmp .ne 9, 3), (73, .ldc2_w 37, 3), (76, .goto 54, 3), (79, .iload_n 2, 1), (80, .bipush 7, 2), (82, .if_icmp .ne 9, 3), (85, .ldc2_w 39, 3), (88, .goto 42, 3), (91, .iload_n 2, 1), (92, .bipush 8, 2), (94, .if_icmp .ne 9, 3), (97, .ldc2_w 41, 3), (100, .goto 30, 3), (103, .iload_n 2, 1), (104, .bipush 9, 2), (106, .if_icmp .ne 9, 3), (109, .ldc2_w 43, 3), (112, .goto 18, 3), (115, .iload_n 2, 1), (116, .bipush 10, 2), (118, .if_icmp .ne 9, 3), (121, .ldc2_w 45, 3), (124, .goto 6, 3), (127, .ldc2_w 47, 3), (130, .invokestatic 49, 3), (133, .return_, 1)]
def ab_c139 : List (Nat × Instr × Nat) := [(0, .iload_n 2, 1), (1, .ifCond .ne 23, 3), (4, .iload_n 0, 1), (5, .ifCond .ne 7, 3), (8, .iconst 1, 1), (9, .goto 14, 3), (12, .iload_n 0, 1), (13, .iconst 3, 1), (14, .if_icmp .ne 8, 3), (17, .bipush 6, 2), (19, .goto 4, 3), (22, .iconst 4, 1), (23, .ireturn, 1), (24, .iload_n 0, 1), (25, .ifCond .ne 23, 3), (28, .iload_n 2, 1), (29, .iconst 1, 1), (30, .if_icmp .ne 7, 3), (33, .iconst 2, 1), (34, .goto 13, 3), (37, .iload_n 2, 1), (38, .iconst 4, 1), (39, .if_icmp .ne 7, 3), (42, .iconst 1, 1), (43, .goto 4, 3), (46, .iconst 0, 1), (47, .ireturn, 1), (48, .iload_n 0, 1), (49, .iconst 1, 1), (50, .if_icmp .ne 123, 3), (53, .iload_n 2, 1), (54, .iconst 1, 1), (55, .if_icmp .ne 24, 3), (58, .iload_n 1, 1), (59, .ifCond .ne 7, 3), (62, .iconst 1, 1), (63, .goto 109, 3), (66, .iload_n 1, 1), (67, .iconst 3, 1), (68, .if_icmp .ne 7, 3), (71, .iconst 2, 1), (72, .goto 100, 3), (75, .iconst 0, 1), (76, .goto 96, 3), (79, .iload_n 2, 1), (80, .iconst 2, 1), (81, .if_icmp .ne 15, 3), (84, .iload_n 1, 1), (85, .ifCond .ne 7, 3), (88, .iconst 1, 1), (89, .goto 83, 3), (92, .iconst 3, 1), (93, .goto 79, 3), (96, .iload_n 2, 1), (97, .iconst 3, 1), (98, .if_icmp .ne 7, 3), (101, .iconst 2, 1), (102, .goto 70, 3), (105, .iload_n 2, 1), (106, .iconst 4, 1), (107, .if_icmp .ne 19, 3), (110, .iload_n 1, 1), (111, .ifCond .ne 7, 3), (114, .iconst 1, 1), (115, .goto 57, 3), (118, .iconst 1, 1), (119, .iconst 1, 1), (120, .iload_n 1, 1), (121, .ishl, 1), (122, .ior, 1), (123, .goto 49, 3), (126, .iload_n 2, 1), (127, .iconst 5, 1), (128, .if_icmp .ne 24, 3), (131, .iload_n 1, 1), (132, .ifCond .ne 7, 3), (135, .iconst 0, 1), (136, .goto 36, 3), (139, .iload_n 1, 1), (140, .iconst 3, 1), (141, .if_icmp .ne 7, 3), (144, .iconst 2, 1), (145, .goto 27, 3), (148, .iconst 1, 1), (149, .goto 23, 3), (152, .iload_n 2, 1), (153, .bipush 6, 2), (155, .if_icmp .ne 16, 3), (158, .iload_n 1, 1), (159, .iconst 3, 1), (160, .if_icmp .ne 7, 3), (163, .iconst 1, 1), (164, .goto 8, 3), (167, .iconst 0, 1), (168, .goto 4, 3), (171, .iconst 2, 1), (172, .ireturn, 1), (173, .iload_n 0, 1), (174, .iconst 2, 1), (175, .if_icmp .ne 134, 3), (178, .iload_n 2, 1), (179, .iconst 1, 1), (180, .if_icmp .ne 25, 3), (183, .iload_n 1, 1), (184, .iconst 1, 1), (185, .if_icmp .ne 7, 3), (188, .iconst 1, 1), (189, .goto 119, 3), (192, .iload_n 1, 1), (193, .iconst 3, 1), (194, .if_icmp .ne 7, 3), (197, .iconst 2, 1), (198, .goto 110, 3), (201, .iconst 0, 1), (202, .goto 106, 3), (205, .iload_n 2, 1), (206, .iconst 2, 1), (207, .if_icmp .ne 16, 3), (210, .iload_n 1, 1), (211, .iconst 1, 1), (212, .if_icmp .ne 7, 3), (215, .iconst 2, 1), (216, .goto 92, 3), (219, .iconst 1, 1), (220, .goto 88, 3), (223, .iload_n 2, 1), (224, .iconst 3, 1), (225, .if_icmp .ne 7, 3), (228, .iconst 3, 1), (229, .goto 79, 3), (232, .iload_n 2, 1), (233, .iconst 4, 1), (234, .if_icmp .ne 28, 3), (237, .iload_n 1, 1), (238, .ifCond .ne 7, 3), (241, .iconst 1, 1), (242, .goto 66, 3), (245, .iload_n 1, 1), (246, .iconst 1, 1), (247, .if_icmp .ne 7, 3), (250, .iconst 3, 1), (251, .goto 57, 3), (254, .iconst 3, 1), (255, .iconst 1, 1), (256, .iload_n 1, 1), (257, .ishl, 1), (258, .ior, 1), (259, .goto 49, 3), (262, .iload_n 2, 1), (263, .iconst 5, 1), (264, .if_icmp .ne 24, 3), (267, .iload_n 1, 1), (268, .ifCond .ne 7, 3), (271, .iconst 0, 1), (272, .goto 36, 3), (275, .iload_n 1, 1), (276, .iconst 1, 1), (277, .if_icmp .ne 7, 3), (280, .iconst 2, 1), (281, .goto 27, 3), (284, .iconst 1, 1), (285, .goto 23, 3), (288, .iload_n 2, 1), (289, .bipush 6, 2), (291, .if_icmp .ne 16, 3), (294, .iload_n 1, 1), (295, .iconst 1, 1), (296, .if_icmp .ne 7, 3), (299, .iconst 0, 1), (300, .goto 8, 3), (303, .iconst 1, 1), (304, .goto 4, 3), (307, .iconst 2, 1), (308, .ireturn, 1), (309, .iload_n 2, 1), (310, .iconst 1, 1), (311, .if_icmp .ne 28, 3), (314, .iload_n 1, 1), (315, .iconst 1, 1), (316, .if_icmp .eq 8, 3), (319, .iload_n 1, 1), (320, .iconst 2, 1), (321, .if_icmp .ne 7, 3), (324, .iconst 1, 1), (325, .goto 13, 3), (328, .iload_n 1, 1), (329, .iconst 5, 1), (330, .if_icmp .ne 7, 3), (333, .iconst 2, 1), (334, .goto 4, 3), (337, .iconst 0, 1), (338, .ireturn, 1), (339, .iload_n 2, 1), (340, .iconst 2, 1), (341, .if_icmp .ne 36, 3), (344, .iload_n 1, 1), (345, .ifCond .eq 8, 3), (348, .iload_n 1, 1), (349, .iconst 4, 1), (350, .if_icmp .ne 7, 3), (353, .iconst 1, 1), (354, .goto 22, 3), (357, .iload_n 1, 1), (358, .iconst 1, 1), (359, .if_icmp .ne 7, 3), (362, .iconst 2, 1), (363, .goto 13, 3), (366, .iload_n 1, 1), (367, .iconst 2, 1), (368, .if_icmp .ne 7, 3), (371, .iconst 3, 1), (372, .goto 4, 3), (375, .iconst 4, 1), (376, .ireturn, 1), (377, .iload_n 2, 1), (378, .iconst 3, 1), (379, .if_icmp .ne 14, 3), (382, .iload_n 1, 1), (383, .iconst 1, 1), (384, .if_icmp .ne 7, 3), (387, .iconst 5, 1), (388, .goto 4, 3), (391, .iconst 4, 1), (392, .ireturn, 1), (393, .iload_n 2, 1), (394, .iconst 4, 1), (395, .if_icmp .ne 47, 3), (398, .iload_n 1, 1), (399, .ifCond .ne 7, 3), (402, .iconst 1, 1), (403, .goto 38, 3), (406, .iload_n 1, 1), (407, .iconst 1, 1), (408, .if_icmp .ne 7, 3), (411, .iconst 3, 1), (412, .goto 29, 3), (415, .iload_n 1, 1), (416, .iconst 2, 1), (417, .if_icmp .ne 8, 3), (420, .bipush 7, 2), (422, .goto 19, 3), (425, .iload_n 1, 1), (426, .iconst 5, 1), (427, .if_icmp .ne 8, 3), (430, .bipush 35, 2), (432, .goto 9, 3), (435, .bipush 7, 2), (437, .iconst 1, 1), (438, .iload_n 1, 1), (439, .ishl, 1), (440, .ior, 1), (441, .ireturn, 1), (442, .iload_n 2, 1), (443, .iconst 5, 1), (444, .if_icmp .ne 27, 3), (447, .iload_n 1, 1), (448, .ifCond .ne 7, 3), (451, .iconst 0, 1), (452, .goto 18, 3), (455, .iload_n 1, 1), (456, .iconst 1, 1), (457, .if_icmp .eq 8, 3), (460, .iload_n 1, 1), (461, .iconst 4, 1), (462, .if_icmp .ne 7, 3), (465, .iconst 2, 1), (466, .goto 4, 3), (469, .iconst 1, 1), (470, .ireturn, 1), (471, .iload_n 2, 1), (472, .bipush 6, 2), (474, .if_icmp .ne 34, 3), (477, .iload_n 1, 1), (478, .iconst 1, 1), (479, .if_icmp .ne 7, 3), (482, .iconst 0, 1), (483, .goto 35, 3), (486, .iload_n 1, 1), (487, .iconst 4, 1), (488, .if_icmp .ne 7, 3), (491, .iconst 2, 1), (492, .goto 26, 3), (495, .iload_n 1, 1), (496, .iconst 3, 1), (497, .if_icmp .ne 7, 3), (500, .iconst 2, 1), (501, .goto 17, 3), (504, .iconst 1, 1), (505, .goto 13, 3), (508, .iload_n 1, 1), (509, .iconst 1, 1), (510, .if_icmp .ne 7, 3), (513, .iconst 4, 1), (514, .goto 4, 3), (517, .iconst 3, 1), (518, .ireturn, 1)]
def ab_c140 : List (Nat × Instr × Nat) := [(0, .iload_n 0, 1), (1, .iload_n 2, 1), (2, .iconst 4, 1), (3, .invokestatic 53, 3), (6, .iload_n 1, 1), (7, .ishr, 1), (8, .iconst 1, 1), (9, .iand, 1), (10, .iconst 1, 1), (11, .if_icmp .ne 7, 3), (14, .iconst 1, 1), (15, .goto 4, 3), (18, .iconst 0, 1), (19, .ireturn, 1)]
def ab_c141 : List (Nat × Instr × Nat) := [(0, .aload_n 1, 1), (1, .iload_n 2, 1), (2, .iaload, 1), (3, .aload_n 1, 1), (4, .iload_n 3, 1), (5, .iaload, 1), (6, .if_icmp .ne 16, 3), (9, .iload_n 2, 1), (10, .iload_n 3, 1), (11, .if_icmp .ge 7, 3), (14, .iconst 1, 1), (15, .goto 19, 3), (18, .iconst 0, 1), (19, .goto 15, 3), (22, .aload_n 0, 1), (23, .iconst 0, 1), (24, .iaload, 1), (25, .aload_n 1, 1), (26, .iload_n 2, 1), (27, .iaload, 1), (28, .aload_n 1, 1), (29, .iload_n 3, 1), (30, .iaload, 1), (31, .invokestatic 57, 3), (34, .ireturn, 1)]
def ab_c142 : List (Nat × Instr × Nat) := [(0, .aload_n 1, 1), (1, .iload 4, 2), (3, .iaload, 1), (4, .bipush 7, 2), (6, .if_icmp .ne 30, 3), (9, .aload_n 0, 1), (10, .iconst 0, 1), (11, .iaload, 1), (12, .aload_n 2, 1), (13, .iload_n 3, 1), (14, .iaload, 1), (15, .aload_n 0, 1), (16, .iconst 0, 1), (17, .iaload, 1), (18, .aload_n 2, 1), (19, .iload 4, 2), (21, .iaload, 1), (22, .bipush 6, 2), (24, .iload 5, 2), (26, .iadd, 1), (27, .invokestatic 53, 3), (30, .invokestatic 57, 3), (33, .goto 11, 3), (36, .aload_n 0, 1), (37, .aload_n 2, 1), (38, .iload_n 3, 1), (39, .iload 4, 2), (41, .invokestatic 61, 3), (44, .ireturn, 1)]
def ab_c143 : List (Nat × Instr × Nat) := [(0, .iconst 0, 1), (1, .istore 6, 2), (3, .iconst 0, 1), (4, .istore 7, 2), (6, .iload 7, 2), (8, .aload_n 0, 1), (9, .iconst 1, 1), (10, .iaload, 1), (11, .if_icmp .ge 33, 3), (14, .iload 6, 2), (16, .aload_n 0, 1), (17, .aload_n 1, 1), (18, .aload_n 2, 1), (19, .iload 7, 2), (21, .iload_n 3, 1), (22, .iload 4, 2), (24, .invokestatic 65, 3), (27, .ifCond .eq 7, 3), (30, .iconst 1, 1), (31, .goto 4, 3), (34, .iconst 0, 1), (35, .iadd, 1), (36, .istore 6, 2), (38, .iinc 7 1, 3), (41, .goto (-35), 3), (44, .iload 6, 2), (46, .ifCond .ne 5, 3), (49, .iconst (-1), 1), (50, .ireturn, 1), (51, .iload 5, 2), (53, .iload 6, 2), (55, .invokestatic 69, 3), (58, .istore 7, 2), (60, .iconst 0, 1), (61, .istore 8, 2), (63, .iload 8, 2), (65, .aload_n 0, 1), (66, .iconst 1, 1), (67, .iaload, 1), (68, .if_icmp .ge 34, 3), (71, .aload_n 0, 1), (72, .aload_n 1, 1), (73, .aload_n 2, 1), (74, .iload 8, 2), (76, .iload_n 3, 1), (77, .iload 4, 2), (79, .invokestatic 65, 3), (82, .ifCond .eq 14, 3), (85, .iload 7, 2), (87, .iinc 7 (-1), 3), (90, .ifCond .ne 6, 3), (93, .iload 8, 2), (95, .ireturn, 1), (96, .iinc 8 1, 3), (99, .goto (-36), 3), (102, .iconst (-1), 1), (103, .ireturn, 1)]
def ab_c144 : List (Nat × Instr × Nat) := [(0, .iconst 0, 1), (1, .istore 4, 2), (3, .iconst 0, 1), (4, .istore 5, 2), (6, .iload 5, 2), (8, .aload_n 0, 1), (9, .iconst 1, 1), (10, .iaload, 1), (11, .if_icmp .ge 33, 3), (14, .iload 4, 2), (16, .aload_n 0, 1), (17, .iconst 0, 1), (18, .iaload, 1), (19, .aload_n 1, 1), (20, .iload 5, 2), (22, .iaload, 1), (23, .iload_n 2, 1), (24, .invokestatic 57, 3), (27, .ifCond .eq 7, 3), (30, .iconst 1, 1), (31, .goto 4, 3), (34, .iconst 0, 1), (35, .iadd, 1), (36, .istore 4, 2), (38, .iinc 5 1, 3), (41, .goto (-35), 3), (44, .iload_n 3, 1), (45, .iload 4, 2), (47, .invokestatic 69, 3), (50, .istore 5, 2), (52, .iconst 0, 1), (53, .istore 6, 2), (55, .iload 6, 2), (57, .aload_n 0, 1), (58, .iconst 1, 1), (59, .iaload, 1), (60, .if_icmp .ge 34, 3), (63, .aload_n 0, 1), (64, .iconst 0, 1), (65, .iaload, 1), (66, .aload_n 1, 1), (67, .iload 6, 2), (69, .iaload, 1), (70, .iload_n 2, 1), (71, .invokestatic 57, 3), (74, .ifCond .eq 14, 3), (77, .iload 5, 2), (79, .iinc 5 (-1), 3), (82, .ifCond .ne 6, 3), (85, .iload 6, 2), (87, .ireturn, 1), (88, .iinc 6 1, 3), (91, .goto (-36), 3), (94, .iconst (-1), 1), (95, .ireturn, 1)]
def ab_c145 : List (Nat × Instr × Nat) := [(0, .iconst 1, 1), (1, .newarray .int, 2), (3, .astore 9, 2), (5, .aload_n 3, 1), (6, .iconst 0, 1), (7, .aload_n 1, 1), (8, .iload_n 2, 1), (9, .invokestatic 73, 3), (12, .iconst 4, 1), (13, .invokestatic 69, 3), (16, .iastore, 1), (17, .aload_n 3, 1), (18, .iconst 1, 1), (19, .iconst 0, 1), (20, .iastore, 1), (21, .aload_n 3, 1), (22, .iconst 0, 1), (23, .iaload, 1), (24, .iconst 0, 1), (25, .iconst 0, 1), (26, .invokestatic 53, 3), (29, .istore 10, 2), (31, .iconst 0, 1), (32, .istore 11, 2), (34, .iload 11, 2), (36, .iload 10, 2), (38, .if_icmp .ge 133, 3), (41, .aload_n 1, 1), (42, .iload_n 2, 1), (43, .iconst 1, 1), (44, .iadd, 1), (45, .iload 11, 2), (47, .iadd, 1), (48, .invokestatic 73, 3), (51, .istore 12, 2), (53, .aload_n 3, 1), (54, .iconst 0, 1), (55, .iaload, 1), (56, .iload 11, 2), (58, .iconst 5, 1), (59, .invokestatic 53, 3), (62, .iconst 2, 1), (63, .if_icmp .ne 12, 3), (66, .iload 12, 2), (68, .iconst 3, 1), (69, .invokestatic 69, 3), (72, .goto 4, 3), (75, .iconst 0, 1), (76, .istore 13, 2), (78, .iconst 1, 1), (79, .iload 12, 2), (81, .iconst 3, 1), (82, .ishr, 1), (83, .aload_n 3, 1), (84, .iconst 0, 1), (85, .iaload, 1), (86, .ifCond .ne 8, 3), (89, .bipush 20, 2), (91, .goto 15, 3), (94, .aload_n 3, 1), (95, .iconst 0, 1), (96, .iaload, 1), (97, .iconst 3, 1), (98, .if_icmp .ne 7, 3), (101, .iconst 2, 1), (102, .goto 4, 3), (105, .iconst 4, 1), (106, .invokestatic 69, 3), (109, .iadd, 1), (110, .istore 14, 2), (112, .iconst 0, 1), (113, .istore 15, 2), (115, .iload 15, 2), (117, .iload 13, 2), (119, .iload 14, 2), (121, .iadd, 1), (122, .if_icmp .ge 43, 3), (125, .aload 4, 2), (127, .aload_n 3, 1), (128, .iconst 1, 1), (129, .iaload, 1), (130, .iload 15, 2), (132, .iload 13, 2), (134, .if_icmp .ge 8, 3), (137, .bipush 7, 2), (139, .goto 4, 3), (142, .iconst 0, 1), (143, .iastore, 1), (144, .aload 5, 2), (146, .aload_n 3, 1), (147, .iconst 1, 1), (148, .iaload, 1), (149, .iload 11, 2), (151, .iastore, 1), (152, .aload_n 3, 1), (153, .iconst 1, 1), (154, .dup2, 1), (155, .iaload, 1), (156, .iconst 1, 1), (157, .iadd, 1), (158, .iastore, 1), (159, .iinc 15 1, 3), (162, .goto (-47), 3), (165, .iinc 11 1, 3), (168, .goto (-134), 3), (171, .iconst 0, 1), (172, .istore 11, 2), (174, .iload 11, 2), (176, .aload_n 3, 1), (177, .iconst 1, 1), (178, .iaload, 1), (179, .if_icmp .ge 235, 3), (182, .aload_n 1, 1), (183, .iload_n 2, 1), (184, .bipush 7, 2), (186, .iadd, 1), (187, .iload 11, 2), (189, .iadd, 1), (190, .invokestatic 73, 3), (193, .istore 12, 2), (195, .aload 4, 2), (197, .iload 11, 2), (199, .iaload, 1), (200, .ifCond .ne 155, 3), (203, .aload_n 3, 1), (204, .aload 4, 2), (206, .aload 5, 2), (208, .iload 11, 2), (210, .iconst 0, 1), (211, .iconst 0, 1), (212, .invokestatic 77, 3), (215, .ifCond .lt 7, 3), (218, .iconst 1, 1), (219, .goto 4, 3), (222, .iconst 0, 1), (223, .istore 13, 2), (225, .aload 4, 2), (227, .iload 11, 2), (229, .iload 13, 2), (231, .ifCond .eq 51, 3), (234, .iload 12, 2), (236, .bipush 7, 2), (238, .ishr, 1), (239, .iconst 3, 1), (240, .invokestatic 69, 3), (243, .ifCond .ne 12, 3), (246, .iload 12, 2), (248, .iconst 2, 1), (249, .invokestatic 69, 3), (252, .goto 36, 3), (255, .iload 12, 2), (257, .bipush 9, 2), (259, .ishr, 1), (260, .iconst 2, 1), (261, .invokestatic 69, 3), (264, .ifCond .ne 7, 3), (267, .iconst 2, 1), (268, .goto 20, 3), (271, .iconst 2, 1), (272, .iload 12, 2), (274, .iconst 5, 1), (275, .invokestatic 69, 3), (278, .iadd, 1), (279, .goto 9, 3), (282, .iload 12, 2), (284, .iconst 2, 1), (285, .invokestatic 69, 3), (288, .iastore, 1), (289, .aload 6, 2), (291, .iload 11, 2), (293, .aload 4, 2), (295, .iload 11, 2), (297, .iaload, 1), (298, .iconst 1, 1), (299, .if_icmp .ne 14, 3), (302, .iload 12, 2), (304, .iconst 2, 1), (305, .ishr, 1), (306, .iconst 4, 1), (307, .invokestatic 69, 3), (310, .goto 44, 3), (313, .iload 12, 2), (315, .iconst 2, 1), (316, .ishr, 1), (317, .iconst 5, 1), (318, .invokestatic 69, 3), (321, .ifCond .ne 8, 3), (324, .bipush 99, 2), (326, .goto 28, 3), (329, .iload 12, 2), (331, .iconst 4, 1), (332, .ishr, 1), (333, .iload 12, 2), (335, .bipush 8, 2), (337, .ishr, 1), (338, .iconst 2, 1), (339, .invokestatic 69, 3), (342, .ifCond .ne 7, 3), (345, .iconst 3, 1), (346, .goto 5, 3), (349, .bipush 99, 2), (351, .invokestatic 69, 3), (354, .iastore, 1), (355, .aload 4, 2), (357, .iload 11, 2), (359, .iaload, 1), (360, .iconst 1, 1), (361, .if_icmp .le 47, 3), (364, .iconst 0, 1), (365, .istore 13, 2), (367, .iload 13, 2), (369, .iconst 2, 1), (370, .if_icmp .ge 38, 3), (373, .aload 7, 2), (375, .iconst 2, 1), (376, .iload 11, 2), (378, .imul, 1), (379, .iload 13, 2), (381, .iadd, 1), (382, .aload_n 3, 1), (383, .aload 4, 2), (385, .aload 5, 2), (387, .iload 11, 2), (389, .iload 13, 2), (391, .iload 12, 2), (393, .iconst 3, 1), (394, .iload 13, 2), (396, .imul, 1), (397, .ishr, 1), (398, .invokestatic 77, 3), (401, .iastore, 1), (402, .iinc 13 1, 3), (405, .goto (-38), 3), (408, .iinc 11 1, 3), (411, .goto (-237), 3), (414, .iconst 0, 1), (415, .istore 11, 2), (417, .iload 11, 2), (419, .iload 10, 2), (421, .if_icmp .ge 33, 3), (424, .aload 8, 2), (426, .iload 11, 2), (428, .aload_n 3, 1), (429, .aload 5, 2), (431, .iload 11, 2), (433, .aload_n 1, 1), (434, .iload_n 2, 1), (435, .bipush 27, 2), (437, .iadd, 1), (438, .iload 11, 2), (440, .iadd, 1), (441, .invokestatic 73, 3), (444, .invokestatic 81, 3), (447, .iastore, 1), (448, .iinc 11 1, 3), (451, .goto (-34), 3), (454, .iconst 0, 1), (455, .istore 11, 2), (457, .iconst 0, 1), (458, .istore 12, 2), (460, .iload 12, 2), (462, .iload 10, 2), (464, .if_icmp .ge 219, 3), (467, .aload_n 0, 1), (468, .aload 9, 2), (470, .bipush 8, 2), (472, .invokestatic 85, 3), (475, .aload_n 0, 1), (476, .aload 9, 2), (478, .bipush 59, 2), (480, .invokestatic 15, 3), (483, .iload 11, 2), (485, .aload_n 3, 1), (486, .iconst 1, 1), (487, .iaload, 1), (488, .if_icmp .ge 101, 3), (491, .aload 5, 2), (493, .iload 11, 2), (495, .iaload, 1), (496, .iload 12, 2), (498, .if_icmp .ne 91, 3), (501, .aload_n 0, 1), (502, .aload 9, 2), (504, .aload 4, 2), (506, .iload 11, 2), (508, .iaload, 1), (509, .invokestatic 85, 3), (512, .aload_n 0, 1), (513, .aload 9, 2), (515, .aload 4, 2), (517, .iload 11, 2), (519, .iaload, 1), (520, .iconst 2, 1), (521, .if_icmp .ge 11, 3), (524, .aload 6, 2), (526, .iload 11, 2), (528, .iaload, 1), (529, .goto 10, 3), (532, .aload 7, 2), (534, .iconst 2, 1), (535, .iload 11, 2), (537, .imul, 1), (538, .iaload, 1), (539, .invokestatic 88, 3), (542, .aload 4, 2), (544, .iload 11, 2), (546, .iaload, 1), (547, .iconst 1, 1), (548, .if_icmp .le 27, 3), (551, .aload 4, 2), (553, .iload 11, 2), (555, .iaload, 1), (556, .iconst 4, 1), (557, .if_icmp .eq 18, 3), (560, .aload_n 0, 1), (561, .aload 9, 2), (563, .aload 7, 2), (565, .iconst 2, 1), (566, .iload 11, 2), (568, .imul, 1), (569, .iconst 1, 1), (570, .iadd, 1), (571, .iaload, 1), (572, .invokestatic 88, 3), (575, .aload_n 0, 1), (576, .aload 9, 2), (578, .bipush 59, 2), (580, .invokestatic 15, 3), (583, .iinc 11 1, 3), (586, .goto (-103), 3), (589, .aload_n 3, 1), (590, .iconst 0, 1), (591, .iaload, 1), (592, .iload 12, 2), (594, .iconst 1, 1), (595, .invokestatic 53, 3), (598, .istore 13, 2), (600, .aload_n 0, 1), (601, .aload 9, 2), (603, .bipush 9, 2), (605, .iload 13, 2), (607, .iadd, 1), (608, .invokestatic 85, 3), (611, .iload 13, 2), (613, .ifCond .le 14, 3), (616, .aload_n 0, 1), (617, .aload 9, 2), (619, .aload 8, 2), (621, .iload 12, 2), (623, .iaload, 1), (624, .invokestatic 88, 3), (627, .iload 13, 2), (629, .iconst 2, 1), (630, .if_icmp .ge 18, 3), (633, .aload_n 0, 1), (634, .aload 9, 2), (636, .aload_n 3, 1), (637, .iconst 0, 1), (638, .iaload, 1), (639, .iload 12, 2), (641, .iconst 2, 1), (642, .invokestatic 53, 3), (645, .invokestatic 88, 3), (648, .iload 13, 2), (650, .iconst 1, 1), (651, .if_icmp .ne 18, 3), (654, .aload_n 0, 1), (655, .aload 9, 2), (657, .aload_n 3, 1), (658, .iconst 0, 1), (659, .iaload, 1), (660, .iload 12, 2), (662, .iconst 3, 1), (663, .invokestatic 53, 3), (666, .invokestatic 88, 3), (669, .aload_n 0, 1), (670, .aload 9, 2), (672, .bipush 59, 2), (674, .invokestatic 15, 3), (677, .iinc 12 1, 3), (680, .goto (-220), 3), (683, .aload_n 0, 1), (684, .aload 9, 2), (686, .invokestatic 91, 3), (689, .aload_n 3, 1), (690, .iconst 1, 1), (691, .iaload, 1), (692, .if_icmp .ne 14, 3), (695, .aload_n 0, 1), (696, .invokevirtual 95, 3), (699, .ifCond .ne 7, 3), (702, .iconst 1, 1), (703, .goto 4, 3), (706, .iconst 0, 1), (707, .ireturn, 1)]
def lw_k0 : List (Nat × Instr × Nat) := [(0, .new 10, 3), (3, .dup, 1), (4, .invokespecial 133, 3), (7, .astore_n 1, 1), (8, .iconst 2, 1), (9, .newarray .int, 2), (11, .astore_n 2, 1), (12, .bipush 40, 2), (14, .newarray .int, 2), (16, .astore_n 3, 1), (17, .bipush 40, 2), (19, .newarray .int, 2), (21, .astore 4, 2), (23, .bipush 40, 2), (25, .newarray .int, 2), (27, .astore 5, 2), (29, .bipush 64, 2), (31, .newarray .int, 2), (33, .astore 6, 2), (35, .bipush 6, 2), (37, .newarray .int, 2), (39, .astore 7, 2), (41, .bipush 6, 2), (43, .newarray .int, 2), (45, .astore 8, 2), (47, .iconst 4, 1), (48, .newarray .int, 2), (50, .astore 9, 2), (52, .bipush 20, 2), (54, .newarray .long, 2), (56, .astore 10, 2), (58, .aload_n 1, 1), (59, .aload_n 0, 1), (60, .iconst 0, 1), (61, .aload_n 2, 1), (62, .aload_n 3, 1), (63, .aload 4, 2), (65, .aload 5, 2), (67, .aload 6, 2), (69, .aload 7, 2), (71, .invokestatic 134, 3), (74, .ifCond .ne 5, 3), (77, .iconst 0, 1), (78, .ireturn, 1), (79, .aload_n 1, 1), (80, .iconst 1, 1), (81, .invokevirtual 127, 3), (84, .istore 11, 2), (86, .iconst 0, 1), (87, .istore 12, 2), (89, .iload 12, 2), (91, .iconst 2, 1), (92, .if_icmp .ge 1519, 3), (95, .aload_n 1, 1), (96, .iconst 0, 1), (97, .invokevirtual 138, 3), (100, .ifCond .ge 5, 3), (103, .iconst 0, 1), (104, .ireturn, 1), (105, .aload_n 1, 1)]
def lw_k1 : List (Nat × Instr × Nat) := [(106, .iconst 1, 1), (107, .invokevirtual 141, 3), (110, .istore 13, 2), (112, .iconst 0, 1), (113, .istore 14, 2), (115, .iconst 0, 1), (116, .istore 15, 2), (118, .iload 15, 2), (120, .iload 11, 2), (122, .if_icmp .ge 586, 3), (125, .aload_n 1, 1), (126, .iload 15, 2), (128, .invokevirtual 144, 3), (131, .istore 16, 2), (133, .aload_n 1, 1), (134, .iload 15, 2), (136, .iconst 0, 1), (137, .invokevirtual 119, 3), (140, .istore 17, 2), (142, .iload 14, 2), (144, .iload 16, 2), (146, .iload 15, 2), (148, .if_icmp .ne 14, 3), (151, .iload 17, 2), (153, .bipush 8, 2), (155, .if_icmp .eq 7, 3), (158, .iconst 1, 1), (159, .goto 4, 3), (162, .iconst 0, 1), (163, .iadd, 1), (164, .istore 14, 2), (166, .iload 16, 2), (168, .iload 15, 2), (170, .if_icmp .gt 123, 3), (173, .aload_n 1, 1), (174, .iload 16, 2), (176, .invokevirtual 144, 3), (179, .iload 16, 2), (181, .if_icmp .ne 112, 3), (184, .aload_n 1, 1), (185, .iload 16, 2), (187, .iconst 0, 1), (188, .invokevirtual 119, 3), (191, .iload 17, 2), (193, .if_icmp .ne 100, 3), (196, .iload 17, 2), (198, .ifCond .ne 20, 3), (201, .aload_n 1, 1), (202, .iload 16, 2), (204, .iconst 3, 1), (205, .invokevirtual 119, 3), (208, .aload_n 1, 1), (209, .iload 15, 2), (211, .iconst 3, 1), (212, .invokevirtual 119, 3), (215, .if_icmp .ne 78, 3), (218, .iload 17, 2), (220, .iconst 1, 1), (221, .if_icmp .ne 20, 3), (224, .aload_n 1, 1)]
def lw_k2 : List (Nat × Instr × Nat) := [(225, .iload 16, 2), (227, .iconst 3, 1), (228, .invokevirtual 119, 3), (231, .aload_n 1, 1), (232, .iload 15, 2), (234, .iconst 3, 1), (235, .invokevirtual 119, 3), (238, .if_icmp .ne 55, 3), (241, .iload 17, 2), (243, .bipush 7, 2), (245, .if_icmp .ne 20, 3), (248, .aload_n 1, 1), (249, .iload 16, 2), (251, .iconst 1, 1), (252, .invokevirtual 119, 3), (255, .aload_n 1, 1), (256, .iload 15, 2), (258, .iconst 1, 1), (259, .invokevirtual 119, 3), (262, .if_icmp .ne 31, 3), (265, .aload_n 1, 1), (266, .iload 15, 2), (268, .iload 13, 2), (270, .invokevirtual 146, 3), (273, .iload 16, 2), (275, .if_icmp .ne 18, 3), (278, .aload_n 1, 1), (279, .iload 15, 2), (281, .iload 13, 2), (283, .iconst 1, 1), (284, .iadd, 1), (285, .invokevirtual 146, 3), (288, .iload 16, 2), (290, .if_icmp .eq 5, 3), (293, .iconst 0, 1), (294, .ireturn, 1), (295, .aload_n 1, 1), (296, .iload 15, 2), (298, .iconst 2, 1), (299, .invokevirtual 119, 3), (302, .ifCond .le 17, 3), (305, .aload_n 1, 1), (306, .aload_n 1, 1), (307, .iload 15, 2), (309, .iconst 0, 1), (310, .invokevirtual 121, 3), (313, .invokevirtual 144, 3), (316, .goto 5, 3), (319, .bipush (-9), 2), (321, .istore 18, 2), (323, .aload_n 1, 1), (324, .iload 15, 2), (326, .iconst 2, 1), (327, .invokevirtual 119, 3), (330, .iconst 1, 1), (331, .if_icmp .le 17, 3), (334, .aload_n 1, 1), (335, .aload_n 1, 1), (336, .iload 15, 2), (338, .iconst 1, 1)]
def lw_k3 : List (Nat × Instr × Nat) := [(339, .invokevirtual 121, 3), (342, .invokevirtual 144, 3), (345, .goto 5, 3), (348, .bipush (-9), 2), (350, .istore 19, 2), (352, .aload_n 1, 1), (353, .iload 16, 2), (355, .iconst 2, 1), (356, .invokevirtual 119, 3), (359, .ifCond .le 17, 3), (362, .aload_n 1, 1), (363, .aload_n 1, 1), (364, .iload 16, 2), (366, .iconst 0, 1), (367, .invokevirtual 121, 3), (370, .invokevirtual 144, 3), (373, .goto 5, 3), (376, .bipush (-9), 2), (378, .istore 20, 2), (380, .aload_n 1, 1), (381, .iload 16, 2), (383, .iconst 2, 1), (384, .invokevirtual 119, 3), (387, .iconst 1, 1), (388, .if_icmp .le 17, 3), (391, .aload_n 1, 1), (392, .aload_n 1, 1), (393, .iload 16, 2), (395, .iconst 1, 1), (396, .invokevirtual 121, 3), (399, .invokevirtual 144, 3), (402, .goto 5, 3), (405, .bipush (-9), 2), (407, .istore 21, 2), (409, .iload 18, 2), (411, .iload 20, 2), (413, .if_icmp .ne 10, 3), (416, .iload 19, 2), (418, .iload 21, 2), (420, .if_icmp .eq 31, 3), (423, .iload 17, 2), (425, .iconst 2, 1), (426, .if_icmp .eq 9, 3), (429, .iload 17, 2), (431, .iconst 3, 1), (432, .if_icmp .ne 17, 3), (435, .iload 18, 2), (437, .iload 21, 2), (439, .if_icmp .ne 10, 3), (442, .iload 19, 2), (444, .iload 20, 2), (446, .if_icmp .eq 5, 3), (449, .iconst 0, 1), (450, .ireturn, 1), (451, .iconst 0, 1), (452, .istore 22, 2), (454, .iload 22, 2), (456, .iload 13, 2), (458, .if_icmp .ge 69, 3), (461, .iconst 0, 1)]
def lw_k4 : List (Nat × Instr × Nat) := [(462, .istore 23, 2), (464, .iload 23, 2), (466, .iload 15, 2), (468, .if_icmp .ge 53, 3), (471, .aload_n 1, 1), (472, .iload 15, 2), (474, .iload 22, 2), (476, .iconst 1, 1), (477, .iadd, 1), (478, .invokevirtual 146, 3), (481, .aload_n 1, 1), (482, .iload 23, 2), (484, .iload 22, 2), (486, .iconst 1, 1), (487, .iadd, 1), (488, .invokevirtual 146, 3), (491, .if_icmp .ne 24, 3), (494, .aload_n 1, 1), (495, .iload 15, 2), (497, .iload 22, 2), (499, .invokevirtual 146, 3), (502, .aload_n 1, 1), (503, .iload 23, 2), (505, .iload 22, 2), (507, .invokevirtual 146, 3), (510, .if_icmp .eq 5, 3), (513, .iconst 0, 1), (514, .ireturn, 1), (515, .iinc 23 1, 3), (518, .goto (-54), 3), (521, .iinc 22 1, 3), (524, .goto (-70), 3), (527, .aload_n 1, 1), (528, .iload 15, 2), (530, .invokevirtual 149, 3), (533, .istore 22, 2), (535, .aload_n 1, 1), (536, .iload 22, 2), (538, .invokevirtual 144, 3), (541, .iload 16, 2), (543, .if_icmp .ne 33, 3), (546, .iload 22, 2), (548, .iload 15, 2), (550, .if_icmp .eq 15, 3), (553, .aload_n 1, 1), (554, .iload 22, 2), (556, .iload 15, 2), (558, .invokevirtual 152, 3), (561, .iconst 1, 1), (562, .if_icmp .ne 14, 3), (565, .aload_n 1, 1), (566, .iload 22, 2), (568, .invokevirtual 149, 3), (571, .iload 22, 2), (573, .if_icmp .eq 5, 3), (576, .iconst 0, 1), (577, .ireturn, 1), (578, .iconst 0, 1), (579, .istore 23, 2), (581, .iload 23, 2)]
def lw_k5 : List (Nat × Instr × Nat) := [(583, .iload 11, 2), (585, .if_icmp .ge 53, 3), (588, .aload_n 1, 1), (589, .iload 23, 2), (591, .invokevirtual 144, 3), (594, .iload 16, 2), (596, .if_icmp .ne 36, 3), (599, .aload_n 1, 1), (600, .iload 23, 2), (602, .iload 15, 2), (604, .invokevirtual 152, 3), (607, .iconst 1, 1), (608, .if_icmp .ne 24, 3), (611, .iload 23, 2), (613, .iload 22, 2), (615, .if_icmp .eq 17, 3), (618, .aload_n 1, 1), (619, .iload 22, 2), (621, .iload 23, 2), (623, .invokevirtual 152, 3), (626, .iconst 1, 1), (627, .if_icmp .eq 5, 3), (630, .iconst 0, 1), (631, .ireturn, 1), (632, .iinc 23 1, 3), (635, .goto (-54), 3), (638, .aload_n 1, 1), (639, .iload 15, 2), (641, .invokevirtual 154, 3), (644, .istore 23, 2), (646, .iload 23, 2), (648, .ifCond .ge 7, 3), (651, .iconst 1, 1), (652, .goto 4, 3), (655, .iconst 0, 1), (656, .aload_n 1, 1), (657, .iload 15, 2), (659, .invokevirtual 157, 3), (662, .ldc2_w 100, 3), (665, .lcmp, 1), (666, .ifCond .ne 7, 3), (669, .iconst 1, 1), (670, .goto 4, 3), (673, .iconst 0, 1), (674, .if_icmp .eq 26, 3), (677, .iload 23, 2), (679, .iload 15, 2), (681, .if_icmp .gt 19, 3), (684, .iload 23, 2), (686, .ifCond .lt 16, 3), (689, .aload_n 1, 1), (690, .iload 23, 2), (692, .invokevirtual 154, 3), (695, .iload 23, 2), (697, .if_icmp .eq 5, 3), (700, .iconst 0, 1), (701, .ireturn, 1), (702, .iinc 15 1, 3), (705, .goto (-587), 3), (708, .aload_n 1, 1)]
def lw_k6 : List (Nat × Instr × Nat) := [(709, .iconst 0, 1), (710, .invokevirtual 141, 3), (713, .iload 14, 2), (715, .if_icmp .ne 13, 3), (718, .iload 13, 2), (720, .ifCond .le 10, 3), (723, .iload 14, 2), (725, .ifCond .gt 5, 3), (728, .iconst 0, 1), (729, .ireturn, 1), (730, .aload_n 0, 1), (731, .bipush 33, 2), (733, .iload 12, 2), (735, .iadd, 1), (736, .invokestatic 73, 3), (739, .sipush 7919, 3), (742, .imul, 1), (743, .istore 15, 2), (745, .iconst 0, 1), (746, .istore 16, 2), (748, .iload 16, 2), (750, .iload 11, 2), (752, .if_icmp .ge 115, 3), (755, .aload_n 1, 1), (756, .iload 16, 2), (758, .invokevirtual 154, 3), (761, .istore 17, 2), (763, .iload 17, 2), (765, .ifCond .lt 33, 3), (768, .aload_n 1, 1), (769, .iload 17, 2), (771, .iload 16, 2), (773, .invokevirtual 152, 3), (776, .iconst 1, 1), (777, .if_icmp .ne 21, 3), (780, .aload_n 1, 1), (781, .iload 15, 2), (783, .bipush 9, 2), (785, .iload 17, 2), (787, .iload 16, 2), (789, .iconst 0, 1), (790, .invokevirtual 160, 3), (793, .ifCond .eq 5, 3), (796, .iconst 0, 1), (797, .ireturn, 1), (798, .iconst 0, 1), (799, .istore 18, 2), (801, .iload 18, 2), (803, .iload 11, 2), (805, .if_icmp .ge 56, 3), (808, .aload_n 1, 1), (809, .iload 18, 2), (811, .invokevirtual 144, 3), (814, .aload_n 1, 1), (815, .iload 16, 2), (817, .invokevirtual 144, 3), (820, .if_icmp .ne 35, 3), (823, .aload_n 1, 1), (824, .iload 18, 2), (826, .iload 16, 2)]
def lw_k7 : List (Nat × Instr × Nat) := [(828, .invokevirtual 152, 3), (831, .iconst 1, 1), (832, .if_icmp .ne 23, 3), (835, .aload_n 1, 1), (836, .iload 15, 2), (838, .iload 18, 2), (840, .iadd, 1), (841, .iconst 5, 1), (842, .iload 18, 2), (844, .iload 16, 2), (846, .iconst 0, 1), (847, .invokevirtual 160, 3), (850, .ifCond .eq 5, 3), (853, .iconst 0, 1), (854, .ireturn, 1), (855, .iinc 18 1, 3), (858, .goto (-57), 3), (861, .iinc 16 1, 3), (864, .goto (-116), 3), (867, .bipush 6, 2), (869, .newarray .long, 2), (871, .astore 16, 2), (873, .bipush 60, 2), (875, .newarray .long, 2), (877, .astore 17, 2), (879, .iconst 0, 1), (880, .istore 18, 2), (882, .iload 18, 2), (884, .iconst 3, 1), (885, .if_icmp .ge 176, 3), (888, .aload_n 0, 1), (889, .bipush 35, 2), (891, .iconst 3, 1), (892, .iload 12, 2), (894, .imul, 1), (895, .iadd, 1), (896, .iload 18, 2), (898, .iadd, 1), (899, .invokestatic 73, 3), (902, .istore 19, 2), (904, .aload 16, 2), (906, .iload 18, 2), (908, .aload_n 1, 1), (909, .iload 19, 2), (911, .bipush 9, 2), (913, .invokestatic 69, 3), (916, .iconst 4, 1), (917, .isub, 1), (918, .iload 19, 2), (920, .iconst 2, 1), (921, .ishr, 1), (922, .bipush 9, 2), (924, .invokestatic 69, 3), (927, .iconst 4, 1), (928, .isub, 1), (929, .iload 19, 2), (931, .iconst 4, 1), (932, .ishr, 1), (933, .bipush 9, 2), (935, .invokestatic 69, 3)]
def lw_k8 : List (Nat × Instr × Nat) := [(938, .iconst 4, 1), (939, .isub, 1), (940, .iload 19, 2), (942, .bipush 6, 2), (944, .ishr, 1), (945, .bipush 9, 2), (947, .invokestatic 69, 3), (950, .iconst 4, 1), (951, .isub, 1), (952, .invokevirtual 164, 3), (955, .lastore, 1), (956, .aload 16, 2), (958, .iconst 3, 1), (959, .iload 18, 2), (961, .iadd, 1), (962, .aload_n 1, 1), (963, .iconst 0, 1), (964, .invokevirtual 168, 3), (967, .bipush 10, 2), (969, .imul, 1), (970, .aload_n 1, 1), (971, .iconst 2, 1), (972, .invokevirtual 168, 3), (975, .iadd, 1), (976, .i2l, 1), (977, .lastore, 1), (978, .iconst 0, 1), (979, .istore 20, 2), (981, .iload 20, 2), (983, .iload 11, 2), (985, .if_icmp .ge 70, 3), (988, .aload 17, 2), (990, .bipush 20, 2), (992, .iload 18, 2), (994, .imul, 1), (995, .iload 20, 2), (997, .iadd, 1), (998, .aload_n 1, 1), (999, .iload 20, 2), (1001, .invokevirtual 171, 3), (1004, .lastore, 1), (1005, .aload_n 1, 1), (1006, .iload 20, 2), (1008, .invokevirtual 171, 3), (1011, .ldc2_w 100, 3), (1014, .lcmp, 1), (1015, .ifCond .eq 34, 3), (1018, .aload_n 1, 1), (1019, .iload 20, 2), (1021, .invokevirtual 157, 3), (1024, .ldc2_w 100, 3), (1027, .lcmp, 1), (1028, .ifCond .eq 21, 3), (1031, .aload_n 1, 1), (1032, .iload 20, 2), (1034, .invokevirtual 171, 3), (1037, .aload_n 1, 1), (1038, .iload 20, 2), (1040, .invokevirtual 157, 3), (1043, .lcmp, 1)]
def lw_k9 : List (Nat × Instr × Nat) := [(1044, .ifCond .eq 5, 3), (1047, .iconst 0, 1), (1048, .ireturn, 1), (1049, .iinc 20 1, 3), (1052, .goto (-71), 3), (1055, .iinc 18 1, 3), (1058, .goto (-176), 3), (1061, .iconst 0, 1), (1062, .istore 18, 2), (1064, .iload 18, 2), (1066, .iconst 3, 1), (1067, .if_icmp .ge 339, 3), (1070, .iload 18, 2), (1072, .ifCond .ne 12, 3), (1075, .aload_n 1, 1), (1076, .invokevirtual 174, 3), (1079, .ifCond .ge 5, 3), (1082, .iconst 0, 1), (1083, .ireturn, 1), (1084, .iload 18, 2), (1086, .iconst 1, 1), (1087, .if_icmp .ne 119, 3), (1090, .aload_n 1, 1), (1091, .iconst 2, 1), (1092, .invokevirtual 127, 3), (1095, .istore 19, 2), (1097, .aload_n 1, 1), (1098, .invokevirtual 177, 3), (1101, .istore 20, 2), (1103, .aload_n 1, 1), (1104, .iconst 2, 1), (1105, .invokevirtual 127, 3), (1108, .iload 19, 2), (1110, .iload 20, 2), (1112, .iadd, 1), (1113, .if_icmp .ne 10, 3), (1116, .aload_n 1, 1), (1117, .invokevirtual 177, 3), (1120, .ifCond .eq 5, 3), (1123, .iconst 0, 1), (1124, .ireturn, 1), (1125, .iconst 0, 1), (1126, .istore 21, 2), (1128, .iload 21, 2), (1130, .iload 11, 2), (1132, .if_icmp .ge 74, 3), (1135, .aload_n 1, 1), (1136, .iload 21, 2), (1138, .iconst 0, 1), (1139, .invokevirtual 119, 3), (1142, .bipush 8, 2), (1144, .if_icmp .ne 15, 3), (1147, .aload_n 1, 1), (1148, .iload 21, 2), (1150, .iconst 4, 1), (1151, .invokevirtual 119, 3), (1154, .ifCond .eq 5, 3), (1157, .iconst 0, 1), (1158, .ireturn, 1), (1159, .iconst 0, 1)]
def lw_k10 : List (Nat × Instr × Nat) := [(1160, .istore 22, 2), (1162, .iload 22, 2), (1164, .aload_n 1, 1), (1165, .iload 21, 2), (1167, .iconst 2, 1), (1168, .invokevirtual 119, 3), (1171, .if_icmp .ge 29, 3), (1174, .aload_n 1, 1), (1175, .aload_n 1, 1), (1176, .iload 21, 2), (1178, .iload 22, 2), (1180, .invokevirtual 121, 3), (1183, .iconst 0, 1), (1184, .invokevirtual 119, 3), (1187, .bipush 8, 2), (1189, .if_icmp .ne 5, 3), (1192, .iconst 0, 1), (1193, .ireturn, 1), (1194, .iinc 22 1, 3), (1197, .goto (-35), 3), (1200, .iinc 21 1, 3), (1203, .goto (-75), 3), (1206, .iload 18, 2), (1208, .iconst 2, 1), (1209, .if_icmp .ne 19, 3), (1212, .aload_n 1, 1), (1213, .invokevirtual 174, 3), (1216, .ifCond .lt 10, 3), (1219, .aload_n 1, 1), (1220, .invokevirtual 177, 3), (1223, .ifCond .ge 5, 3), (1226, .iconst 0, 1), (1227, .ireturn, 1), (1228, .iconst 0, 1), (1229, .istore 19, 2), (1231, .iload 19, 2), (1233, .iconst 3, 1), (1234, .if_icmp .ge 166, 3), (1237, .aload_n 0, 1), (1238, .bipush 35, 2), (1240, .iconst 3, 1), (1241, .iload 12, 2), (1243, .imul, 1), (1244, .iadd, 1), (1245, .iload 19, 2), (1247, .iadd, 1), (1248, .invokestatic 73, 3), (1251, .istore 20, 2), (1253, .aload_n 1, 1), (1254, .iload 20, 2), (1256, .bipush 9, 2), (1258, .invokestatic 69, 3), (1261, .iconst 4, 1), (1262, .isub, 1), (1263, .iload 20, 2), (1265, .iconst 2, 1), (1266, .ishr, 1), (1267, .bipush 9, 2), (1269, .invokestatic 69, 3), (1272, .iconst 4, 1)]
def lw_k11 : List (Nat × Instr × Nat) := [(1273, .isub, 1), (1274, .iload 20, 2), (1276, .iconst 4, 1), (1277, .ishr, 1), (1278, .bipush 9, 2), (1280, .invokestatic 69, 3), (1283, .iconst 4, 1), (1284, .isub, 1), (1285, .iload 20, 2), (1287, .bipush 6, 2), (1289, .ishr, 1), (1290, .bipush 9, 2), (1292, .invokestatic 69, 3), (1295, .iconst 4, 1), (1296, .isub, 1), (1297, .invokevirtual 164, 3), (1300, .aload 16, 2), (1302, .iload 19, 2), (1304, .laload, 1), (1305, .lcmp, 1), (1306, .ifCond .ne 29, 3), (1309, .aload_n 1, 1), (1310, .iconst 0, 1), (1311, .invokevirtual 168, 3), (1314, .bipush 10, 2), (1316, .imul, 1), (1317, .aload_n 1, 1), (1318, .iconst 2, 1), (1319, .invokevirtual 168, 3), (1322, .iadd, 1), (1323, .i2l, 1), (1324, .aload 16, 2), (1326, .iconst 3, 1), (1327, .iload 19, 2), (1329, .iadd, 1), (1330, .laload, 1), (1331, .lcmp, 1), (1332, .ifCond .eq 5, 3), (1335, .iconst 0, 1), (1336, .ireturn, 1), (1337, .iconst 0, 1), (1338, .istore 21, 2), (1340, .iload 21, 2), (1342, .iload 11, 2), (1344, .if_icmp .ge 50, 3), (1347, .aload_n 1, 1), (1348, .iload 21, 2), (1350, .invokevirtual 171, 3), (1353, .aload_n 1, 1), (1354, .iload 21, 2), (1356, .iconst 0, 1), (1357, .invokevirtual 119, 3), (1360, .bipush 8, 2), (1362, .if_icmp .ne 9, 3), (1365, .ldc2_w 100, 3), (1368, .goto 14, 3), (1371, .aload 17, 2), (1373, .bipush 20, 2), (1375, .iload 19, 2), (1377, .imul, 1)]
def lw_k12 : List (Nat × Instr × Nat) := [(1378, .iload 21, 2), (1380, .iadd, 1), (1381, .laload, 1), (1382, .lcmp, 1), (1383, .ifCond .eq 5, 3), (1386, .iconst 0, 1), (1387, .ireturn, 1), (1388, .iinc 21 1, 3), (1391, .goto (-51), 3), (1394, .iinc 19 1, 3), (1397, .goto (-166), 3), (1400, .iinc 18 1, 3), (1403, .goto (-339), 3), (1406, .aload_n 1, 1), (1407, .iconst 0, 1), (1408, .invokevirtual 180, 3), (1411, .iload 11, 2), (1413, .if_icmp .eq 5, 3), (1416, .iconst 0, 1), (1417, .ireturn, 1), (1418, .iconst 0, 1), (1419, .istore 18, 2), (1421, .iload 18, 2), (1423, .bipush 6, 2), (1425, .if_icmp .ge 143, 3), (1428, .aload_n 0, 1), (1429, .bipush 41, 2), (1431, .bipush 6, 2), (1433, .iload 12, 2), (1435, .imul, 1), (1436, .iadd, 1), (1437, .iload 18, 2), (1439, .iadd, 1), (1440, .invokestatic 73, 3), (1443, .istore 19, 2), (1445, .iload 19, 2), (1447, .iload 11, 2), (1449, .invokestatic 69, 3), (1452, .istore 20, 2), (1454, .iload 19, 2), (1456, .iconst 5, 1), (1457, .ishr, 1), (1458, .iconst 2, 1), (1459, .invokestatic 69, 3), (1462, .istore 21, 2), (1464, .iload 19, 2), (1466, .iconst 3, 1), (1467, .ishr, 1), (1468, .iload 11, 2), (1470, .invokestatic 69, 3), (1473, .istore 22, 2), (1475, .aload_n 1, 1), (1476, .iload 20, 2), (1478, .iload 21, 2), (1480, .iload 22, 2), (1482, .invokevirtual 183, 3), (1485, .istore 23, 2), (1487, .iload 23, 2), (1489, .ifCond .lt 40, 3), (1492, .aload_n 1, 1)]
def lw_k13 : List (Nat × Instr × Nat) := [(1493, .iload 20, 2), (1495, .iload 21, 2), (1497, .invokevirtual 121, 3), (1500, .iload 22, 2), (1502, .if_icmp .ne 58, 3), (1505, .aload_n 1, 1), (1506, .iload 20, 2), (1508, .iconst 0, 1), (1509, .invokevirtual 119, 3), (1512, .bipush 7, 2), (1514, .if_icmp .eq 15, 3), (1517, .aload_n 1, 1), (1518, .iload 22, 2), (1520, .iload 20, 2), (1522, .invokevirtual 152, 3), (1525, .iconst 1, 1), (1526, .if_icmp .ne 34, 3), (1529, .iload 23, 2), (1531, .bipush (-2), 2), (1533, .if_icmp .ne 29, 3), (1536, .aload_n 1, 1), (1537, .iload 20, 2), (1539, .iconst 0, 1), (1540, .invokevirtual 119, 3), (1543, .bipush 7, 2), (1545, .if_icmp .eq 17, 3), (1548, .aload_n 1, 1), (1549, .iload 22, 2), (1551, .iload 20, 2), (1553, .invokevirtual 152, 3), (1556, .iconst 1, 1), (1557, .if_icmp .ne 5, 3), (1560, .iconst 0, 1), (1561, .ireturn, 1), (1562, .iinc 18 1, 3), (1565, .goto (-144), 3), (1568, .aload_n 0, 1), (1569, .bipush 53, 2), (1571, .iload 12, 2), (1573, .iadd, 1), (1574, .invokestatic 73, 3), (1577, .istore 18, 2), (1579, .aload_n 1, 1), (1580, .iload 18, 2), (1582, .iload 11, 2), (1584, .invokestatic 69, 3), (1587, .iload 18, 2), (1589, .iconst 4, 1), (1590, .ishr, 1), (1591, .iconst 3, 1), (1592, .invokestatic 69, 3), (1595, .invokevirtual 186, 3), (1598, .bipush (-2), 2), (1600, .if_icmp .ne 5, 3), (1603, .iconst 0, 1), (1604, .ireturn, 1), (1605, .iinc 12 1, 3), (1608, .goto (-1519), 3), (1611, .aload 8, 2), (1613, .iconst 0, 1)]
def lw_k14 : List (Nat × Instr × Nat) := [(1614, .iaload, 1), (1615, .ifCond .ne 23, 3), (1618, .aload 9, 2), (1620, .iconst 0, 1), (1621, .iaload, 1), (1622, .ifCond .ne 16, 3), (1625, .aload 10, 2), (1627, .iconst 0, 1), (1628, .laload, 1), (1629, .lconst 0, 1), (1630, .lcmp, 1), (1631, .ifCond .ne 7, 3), (1634, .iconst 1, 1), (1635, .goto 4, 3), (1638, .iconst 0, 1), (1639, .ireturn, 1)]
def ab_c146 : List (Nat × Instr × Nat) := lw_k0 ++ (lw_k1 ++ (lw_k2 ++ (lw_k3 ++ (lw_k4 ++ (lw_k5 ++ (lw_k6 ++ (lw_k7 ++ (lw_k8 ++ (lw_k9 ++ (lw_k10 ++ (lw_k11 ++ (lw_k12 ++ (lw_k13 ++ (lw_k14))))))))))))))
def ab_CD : List (List (Nat × Instr × Nat)) := [ab_c0, ab_c1, ab_c2, ab_c3, ab_c4, ab_c5, ab_c6, ab_c7, ab_c8, ab_c9, ab_c10, ab_c11, ab_c12, ab_c13, ab_c14, ab_c15, ab_c16, ab_c17, ab_c18, ab_c19, ab_c20, ab_c21, ab_c22, ab_c23, ab_c24, ab_c25, ab_c26, ab_c27, ab_c28, ab_c29, ab_c30, ab_c31, ab_c32, ab_c33, ab_c34, ab_c35, ab_c36, ab_c37, ab_c38, ab_c39, ab_c40, ab_c41, ab_c42, ab_c43, ab_c44, ab_c45, ab_c46, ab_c47, ab_c48, ab_c49, ab_c50, ab_c51, ab_c52, ab_c53, ab_c54, ab_c55, ab_c56, ab_c57, ab_c58, ab_c59, ab_c60, ab_c61, ab_c62, ab_c63, ab_c64, ab_c65, ab_c66, ab_c67, ab_c68, ab_c69, ab_c70, ab_c71, ab_c72, ab_c73, ab_c74, ab_c75, ab_c76, ab_c77, ab_c78, ab_c79, ab_c80, ab_c81, ab_c82, ab_c83, ab_c84, ab_c85, ab_c86, ab_c87, ab_c88, ab_c89, ab_c90, ab_c91, ab_c92, ab_c93, ab_c94, ab_c95, ab_c96, ab_c97, ab_c98, ab_c99, ab_c100, ab_c101, ab_c102, ab_c103, ab_c104, ab_c105, ab_c106, ab_c107, ab_c108, ab_c109, ab_c110, ab_c111, ab_c112, ab_c113, ab_c114, ab_c115, ab_c116, ab_c117, ab_c118, ab_c119, ab_c120, ab_c121, ab_c122, ab_c123, ab_c124, ab_c125, ab_c126, ab_c127, ab_c128, ab_c129, ab_c130, ab_c131, ab_c132, ab_c133, ab_c134, ab_c135, ab_c136, ab_c137, ab_c138, ab_c139, ab_c140, ab_c141, ab_c142, ab_c143, ab_c144, ab_c145, ab_c146]
def ab_at (mi pc : Nat) : Option (Instr × Nat) := ((ab_CD.getD mi []).find? (fun e => e.1 == pc)).map (fun e => e.2)
end
section
/-! the bytes decode to the codes -/
set_option maxRecDepth 100000 in
theorem ab_c0_ok : ab_ct 0 cX0_init ab_c0 = true := by decide +kernel
set_option maxRecDepth 100000 in
theorem ab_c1_ok : ab_ct 1 cX0_split ab_c1 = true := by decide +kernel
set_option maxRecDepth 100000 in
theorem ab_c2_ok : ab_ct 2 cX0_firstAtStart ab_c2 = true := by decide +kernel
set_option maxRecDepth 100000 in
theorem ab_c3_ok : ab_ct 3 cX0_isHopeful ab_c3 = true := by decide +kernel
set_option maxRecDepth 100000 in
theorem ab_c4_ok : ab_ct 4 cX0_splitOnce ab_c4 = true := by decide +kernel
set_option maxRecDepth 100000 in
theorem ab_c5_ok : ab_ct 5 cX0_areOperandsAlike ab_c5 = true := by decide +kernel
set_option maxRecDepth 100000 in
theorem ab_c6_ok : ab_ct 6 cX0_isAlike ab_c6 = true := by decide +kernel
set_option maxRecDepth 100000 in
theorem ab_c7_ok : ab_ct 7 cX0_countClasses ab_c7 = true := by decide +kernel
set_option maxRecDepth 100000 in
theorem ab_c8_ok : ab_ct 8 cX0_greatestClass ab_c8 = true := by decide +kernel
set_option maxRecDepth 100000 in
theorem ab_c9_ok : ab_ct 9 cX0_sizeOf ab_c9 = true := by decide +kernel
set_option maxRecDepth 100000 in
theorem ab_c10_ok : ab_ct 10 cX0_leaderOf ab_c10 = true := by decide +kernel
set_option maxRecDepth 100000 in
theorem ab_c11_ok : ab_ct 11 cX1_init ab_c11 = true := by decide +kernel
set_option maxRecDepth 100000 in
theorem ab_c12_ok : ab_ct 12 cX1_find ab_c12 = true := by decide +kernel
set_option maxRecDepth 100000 in
theorem ab_c13_ok : ab_ct 13 cX1_nameOf ab_c13 = true := by decide +kernel
set_option maxRecDepth 100000 in
theorem ab_c14_ok : ab_ct 14 cX1_numberOf ab_c14 = true := by decide +kernel
set_option maxRecDepth 100000 in
theorem ab_c15_ok : ab_ct 15 cX1_isName ab_c15 = true := by decide +kernel
set_option maxRecDepth 100000 in
theorem ab_c16_ok : ab_ct 16 cX1_codeOf ab_c16 = true := by decide +kernel
set_option maxRecDepth 100000 in
theorem ab_c17_ok : ab_ct 17 cX1_codeOfNeg ab_c17 = true := by decide +kernel
set_option maxRecDepth 100000 in
theorem ab_c18_ok : ab_ct 18 cX1_codeOfPair ab_c18 = true := by decide +kernel
set_option maxRecDepth 100000 in
theorem ab_c19_ok : ab_ct 19 cX1_codeOfPhi ab_c19 = true := by decide +kernel
set_option maxRecDepth 100000 in
theorem ab_c20_ok : ab_ct 20 cX1_earlier ab_c20 = true := by decide +kernel
set_option maxRecDepth 100000 in
theorem ab_c21_ok : ab_ct 21 cX1_isSame ab_c21 = true := by decide +kernel
set_option maxRecDepth 100000 in
theorem ab_c22_ok : ab_ct 22 cX1_isSameOperand ab_c22 = true := by decide +kernel
set_option maxRecDepth 100000 in
theorem ab_c23_ok : ab_ct 23 cX2_init ab_c23 = true := by decide +kernel
set_option maxRecDepth 100000 in
theorem ab_c24_ok : ab_ct 24 cX2_forget ab_c24 = true := by decide +kernel
set_option maxRecDepth 100000 in
theorem ab_c25_ok : ab_ct 25 cX2_give ab_c25 = true := by decide +kernel
set_option maxRecDepth 100000 in
theorem ab_c26_ok : ab_ct 26 cX2_giveBySeed ab_c26 = true := by decide +kernel
set_option maxRecDepth 100000 in
theorem ab_c27_ok : ab_ct 27 cX2_watch ab_c27 = true := by decide +kernel
set_option maxRecDepth 100000 in
theorem ab_c28_ok : ab_ct 28 cX2_go ab_c28 = true := by decide +kernel
set_option maxRecDepth 100000 in
theorem ab_c29_ok : ab_ct 29 cX2_nextBlock ab_c29 = true := by decide +kernel
set_option maxRecDepth 100000 in
theorem ab_c30_ok : ab_ct 30 cX2_pass ab_c30 = true := by decide +kernel
set_option maxRecDepth 100000 in
theorem ab_c31_ok : ab_ct 31 cX2_passPhis ab_c31 = true := by decide +kernel
set_option maxRecDepth 100000 in
theorem ab_c32_ok : ab_ct 32 cX2_bringOf ab_c32 = true := by decide +kernel
set_option maxRecDepth 100000 in
theorem ab_c33_ok : ab_ct 33 cX2_compare ab_c33 = true := by decide +kernel
set_option maxRecDepth 100000 in
theorem ab_c34_ok : ab_ct 34 cX3_init ab_c34 = true := by decide +kernel
set_option maxRecDepth 100000 in
theorem ab_c35_ok : ab_ct 35 cX3_clear ab_c35 = true := by decide +kernel
set_option maxRecDepth 100000 in
theorem ab_c36_ok : ab_ct 36 cX3_openBlock ab_c36 = true := by decide +kernel
end
section
/-! the bytes decode to the codes -/
set_option maxRecDepth 100000 in
theorem ab_c37_ok : ab_ct 37 cX3_openName ab_c37 = true := by decide +kernel
set_option maxRecDepth 100000 in
theorem ab_c38_ok : ab_ct 38 cX3_putFigure ab_c38 = true := by decide +kernel
set_option maxRecDepth 100000 in
theorem ab_c39_ok : ab_ct 39 cX3_putOperand ab_c39 = true := by decide +kernel
set_option maxRecDepth 100000 in
theorem ab_c40_ok : ab_ct 40 cX3_putEnd ab_c40 = true := by decide +kernel
set_option maxRecDepth 100000 in
theorem ab_c41_ok : ab_ct 41 cX3_putAsked ab_c41 = true := by decide +kernel
set_option maxRecDepth 100000 in
theorem ab_c42_ok : ab_ct 42 cX3_putGoal ab_c42 = true := by decide +kernel
set_option maxRecDepth 100000 in
theorem ab_c43_ok : ab_ct 43 cX3_putOther ab_c43 = true := by decide +kernel
set_option maxRecDepth 100000 in
theorem ab_c44_ok : ab_ct 44 cX3_copyFrom ab_c44 = true := by decide +kernel
set_option maxRecDepth 100000 in
theorem ab_c45_ok : ab_ct 45 cX3_hasBlock ab_c45 = true := by decide +kernel
set_option maxRecDepth 100000 in
theorem ab_c46_ok : ab_ct 46 cX3_hasName ab_c46 = true := by decide +kernel
set_option maxRecDepth 100000 in
theorem ab_c47_ok : ab_ct 47 cX3_hasOperand ab_c47 = true := by decide +kernel
set_option maxRecDepth 100000 in
theorem ab_c48_ok : ab_ct 48 cX3_hasFigure ab_c48 = true := by decide +kernel
set_option maxRecDepth 100000 in
theorem ab_c49_ok : ab_ct 49 cX3_successors ab_c49 = true := by decide +kernel
set_option maxRecDepth 100000 in
theorem ab_c50_ok : ab_ct 50 cX3_reachOutside ab_c50 = true := by decide +kernel
set_option maxRecDepth 100000 in
theorem ab_c51_ok : ab_ct 51 cX3_findDominators ab_c51 = true := by decide +kernel
set_option maxRecDepth 100000 in
theorem ab_c52_ok : ab_ct 52 cX3_findPreds ab_c52 = true := by decide +kernel
set_option maxRecDepth 100000 in
theorem ab_c53_ok : ab_ct 53 cX7_fault ab_c53 = true := by decide +kernel
set_option maxRecDepth 100000 in
theorem ab_c54_ok : ab_ct 54 cX3_routeFrom ab_c54 = true := by decide +kernel
set_option maxRecDepth 100000 in
theorem ab_c55_ok : ab_ct 55 cX3_isSeen ab_c55 = true := by decide +kernel
set_option maxRecDepth 100000 in
theorem ab_c56_ok : ab_ct 56 cX3_isSeenAtEnd ab_c56 = true := by decide +kernel
set_option maxRecDepth 100000 in
theorem ab_c57_ok : ab_ct 57 cX3_isSeenByOperand ab_c57 = true := by decide +kernel
set_option maxRecDepth 100000 in
theorem ab_c58_ok : ab_ct 58 cX3_isSound ab_c58 = true := by decide +kernel
set_option maxRecDepth 100000 in
theorem ab_c59_ok : ab_ct 59 cX3_areOperandsSound ab_c59 = true := by decide +kernel
set_option maxRecDepth 100000 in
theorem ab_c60_ok : ab_ct 60 cX3_looksBehind ab_c60 = true := by decide +kernel
set_option maxRecDepth 100000 in
theorem ab_c61_ok : ab_ct 61 cX3_countKind ab_c61 = true := by decide +kernel
set_option maxRecDepth 100000 in
theorem ab_c62_ok : ab_ct 62 cX3_countOperands ab_c62 = true := by decide +kernel
set_option maxRecDepth 100000 in
theorem ab_c63_ok : ab_ct 63 cX3_countUses ab_c63 = true := by decide +kernel
set_option maxRecDepth 100000 in
theorem ab_c64_ok : ab_ct 64 cX7_fault ab_c64 = true := by decide +kernel
set_option maxRecDepth 100000 in
theorem ab_c65_ok : ab_ct 65 cX3_exchange ab_c65 = true := by decide +kernel
set_option maxRecDepth 100000 in
theorem ab_c66_ok : ab_ct 66 cX3_dropUnneeded ab_c66 = true := by decide +kernel
set_option maxRecDepth 100000 in
theorem ab_c67_ok : ab_ct 67 cX3_findNeeded ab_c67 = true := by decide +kernel
set_option maxRecDepth 100000 in
theorem ab_c68_ok : ab_ct 68 cX3_markOperands ab_c68 = true := by decide +kernel
set_option maxRecDepth 100000 in
theorem ab_c69_ok : ab_ct 69 cX4_init ab_c69 = true := by decide +kernel
set_option maxRecDepth 100000 in
theorem ab_c70_ok : ab_ct 70 cX4_readText ab_c70 = true := by decide +kernel
set_option maxRecDepth 100000 in
theorem ab_c71_ok : ab_ct 71 cX4_refuse ab_c71 = true := by decide +kernel
set_option maxRecDepth 100000 in
theorem ab_c72_ok : ab_ct 72 cX4_readLine ab_c72 = true := by decide +kernel
set_option maxRecDepth 100000 in
theorem ab_c73_ok : ab_ct 73 cX4_readHead ab_c73 = true := by decide +kernel
end
section
/-! the bytes decode to the codes -/
set_option maxRecDepth 100000 in
theorem ab_c74_ok : ab_ct 74 cX4_readName ab_c74 = true := by decide +kernel
set_option maxRecDepth 100000 in
theorem ab_c75_ok : ab_ct 75 cX4_readFigure ab_c75 = true := by decide +kernel
set_option maxRecDepth 100000 in
theorem ab_c76_ok : ab_ct 76 cX4_readOperands ab_c76 = true := by decide +kernel
set_option maxRecDepth 100000 in
theorem ab_c77_ok : ab_ct 77 cX4_readEnd ab_c77 = true := by decide +kernel
set_option maxRecDepth 100000 in
theorem ab_c78_ok : ab_ct 78 cX4_takeSemicolon ab_c78 = true := by decide +kernel
set_option maxRecDepth 100000 in
theorem ab_c79_ok : ab_ct 79 cX4_takeNumber ab_c79 = true := by decide +kernel
set_option maxRecDepth 100000 in
theorem ab_c80_ok : ab_ct 80 cX4_scan ab_c80 = true := by decide +kernel
set_option maxRecDepth 100000 in
theorem ab_c81_ok : ab_ct 81 cX4_scanToken ab_c81 = true := by decide +kernel
set_option maxRecDepth 100000 in
theorem ab_c82_ok : ab_ct 82 cX4_skip ab_c82 = true := by decide +kernel
set_option maxRecDepth 100000 in
theorem ab_c83_ok : ab_ct 83 cX4_figureFrom ab_c83 = true := by decide +kernel
set_option maxRecDepth 100000 in
theorem ab_c84_ok : ab_ct 84 cX4_wordFrom ab_c84 = true := by decide +kernel
set_option maxRecDepth 100000 in
theorem ab_c85_ok : ab_ct 85 cX4_isWord ab_c85 = true := by decide +kernel
set_option maxRecDepth 100000 in
theorem ab_c86_ok : ab_ct 86 cX5_init ab_c86 = true := by decide +kernel
set_option maxRecDepth 100000 in
theorem ab_c87_ok : ab_ct 87 cX7_fault ab_c87 = true := by decide +kernel
set_option maxRecDepth 100000 in
theorem ab_c88_ok : ab_ct 88 cX7_fault ab_c88 = true := by decide +kernel
set_option maxRecDepth 100000 in
theorem ab_c89_ok : ab_ct 89 cX7_fault ab_c89 = true := by decide +kernel
set_option maxRecDepth 100000 in
theorem ab_c90_ok : ab_ct 90 cX7_fault ab_c90 = true := by decide +kernel
set_option maxRecDepth 100000 in
theorem ab_c91_ok : ab_ct 91 cX7_fault ab_c91 = true := by decide +kernel
set_option maxRecDepth 100000 in
theorem ab_c92_ok : ab_ct 92 cX6_init ab_c92 = true := by decide +kernel
set_option maxRecDepth 100000 in
theorem ab_c93_ok : ab_ct 93 cX6_push ab_c93 = true := by decide +kernel
set_option maxRecDepth 100000 in
theorem ab_c94_ok : ab_ct 94 cX6_has ab_c94 = true := by decide +kernel
set_option maxRecDepth 100000 in
theorem ab_c95_ok : ab_ct 95 cX7_init ab_c95 = true := by decide +kernel
set_option maxRecDepth 100000 in
theorem ab_c96_ok : ab_ct 96 cX7_feed ab_c96 = true := by decide +kernel
set_option maxRecDepth 100000 in
theorem ab_c97_ok : ab_ct 97 cX7_fault ab_c97 = true := by decide +kernel
set_option maxRecDepth 100000 in
theorem ab_c98_ok : ab_ct 98 cX7_text ab_c98 = true := by decide +kernel
set_option maxRecDepth 100000 in
theorem ab_c99_ok : ab_ct 99 cX7_fault ab_c99 = true := by decide +kernel
set_option maxRecDepth 100000 in
theorem ab_c100_ok : ab_ct 100 cX7_rule ab_c100 = true := by decide +kernel
set_option maxRecDepth 100000 in
theorem ab_c101_ok : ab_ct 101 cX7_fault ab_c101 = true := by decide +kernel
set_option maxRecDepth 100000 in
theorem ab_c102_ok : ab_ct 102 cX7_fault ab_c102 = true := by decide +kernel
set_option maxRecDepth 100000 in
theorem ab_c103_ok : ab_ct 103 cX7_name ab_c103 = true := by decide +kernel
set_option maxRecDepth 100000 in
theorem ab_c104_ok : ab_ct 104 cX7_operand ab_c104 = true := by decide +kernel
set_option maxRecDepth 100000 in
theorem ab_c105_ok : ab_ct 105 cX7_seen ab_c105 = true := by decide +kernel
set_option maxRecDepth 100000 in
theorem ab_c106_ok : ab_ct 106 cX7_run ab_c106 = true := by decide +kernel
set_option maxRecDepth 100000 in
theorem ab_c107_ok : ab_ct 107 cX7_value ab_c107 = true := by decide +kernel
set_option maxRecDepth 100000 in
theorem ab_c108_ok : ab_ct 108 cX7_went ab_c108 = true := by decide +kernel
set_option maxRecDepth 100000 in
theorem ab_c109_ok : ab_ct 109 cX7_classes ab_c109 = true := by decide +kernel
set_option maxRecDepth 100000 in
theorem ab_c110_ok : ab_ct 110 cX7_part ab_c110 = true := by decide +kernel
end
section
/-! the bytes decode to the codes -/
set_option maxRecDepth 100000 in
theorem ab_c111_ok : ab_ct 111 cX7_partAt ab_c111 = true := by decide +kernel
set_option maxRecDepth 100000 in
theorem ab_c112_ok : ab_ct 112 cX7_leader ab_c112 = true := by decide +kernel
set_option maxRecDepth 100000 in
theorem ab_c113_ok : ab_ct 113 cX7_form ab_c113 = true := by decide +kernel
set_option maxRecDepth 100000 in
theorem ab_c114_ok : ab_ct 114 cX7_number ab_c114 = true := by decide +kernel
set_option maxRecDepth 100000 in
theorem ab_c115_ok : ab_ct 115 cX7_replace ab_c115 = true := by decide +kernel
set_option maxRecDepth 100000 in
theorem ab_c116_ok : ab_ct 116 cX7_sweep ab_c116 = true := by decide +kernel
set_option maxRecDepth 100000 in
theorem ab_c117_ok : ab_ct 117 cX7_set ab_c117 = true := by decide +kernel
set_option maxRecDepth 100000 in
theorem ab_c118_ok : ab_ct 118 cX7_alter ab_c118 = true := by decide +kernel
set_option maxRecDepth 100000 in
theorem ab_c119_ok : ab_ct 119 cX7_agree ab_c119 = true := by decide +kernel
set_option maxRecDepth 100000 in
theorem ab_c120_ok : ab_ct 120 cX7_keep ab_c120 = true := by decide +kernel
set_option maxRecDepth 100000 in
theorem ab_c121_ok : ab_ct 121 cX7_back ab_c121 = true := by decide +kernel
set_option maxRecDepth 100000 in
theorem ab_c122_ok : ab_ct 122 cX7_fault ab_c122 = true := by decide +kernel
set_option maxRecDepth 100000 in
theorem ab_c123_ok : ab_ct 123 cX7_fault ab_c123 = true := by decide +kernel
set_option maxRecDepth 100000 in
theorem ab_c124_ok : ab_ct 124 cX7_fault ab_c124 = true := by decide +kernel
set_option maxRecDepth 100000 in
theorem ab_c125_ok : ab_ct 125 cX7_fault ab_c125 = true := by decide +kernel
set_option maxRecDepth 100000 in
theorem ab_c126_ok : ab_ct 126 cX7_fault ab_c126 = true := by decide +kernel
set_option maxRecDepth 100000 in
theorem ab_c127_ok : ab_ct 127 cX7_fault ab_c127 = true := by decide +kernel
set_option maxRecDepth 100000 in
theorem ab_c128_ok : ab_ct 128 cX7_fault ab_c128 = true := by decide +kernel
set_option maxRecDepth 100000 in
theorem ab_c129_ok : ab_ct 129 cX7_highestFigure ab_c129 = true := by decide +kernel
set_option maxRecDepth 100000 in
theorem ab_c130_ok : ab_ct 130 cX7_hasBit ab_c130 = true := by decide +kernel
set_option maxRecDepth 100000 in
theorem ab_c131_ok : ab_ct 131 cX7_bring ab_c131 = true := by decide +kernel
set_option maxRecDepth 100000 in
theorem ab_c132_ok : ab_ct 132 cL_part ab_c132 = true := by decide +kernel
set_option maxRecDepth 100000 in
theorem ab_c133_ok : ab_ct 133 cL_cell ab_c133 = true := by decide +kernel
set_option maxRecDepth 100000 in
theorem ab_c134_ok : ab_ct 134 cL_says ab_c134 = true := by decide +kernel
set_option maxRecDepth 100000 in
theorem ab_c135_ok : ab_ct 135 cL_name ab_c135 = true := by decide +kernel
set_option maxRecDepth 100000 in
theorem ab_c136_ok : ab_ct 136 cL_number ab_c136 = true := by decide +kernel
set_option maxRecDepth 100000 in
theorem ab_c137_ok : ab_ct 137 cL_ends ab_c137 = true := by decide +kernel
set_option maxRecDepth 100000 in
theorem ab_c138_ok : ab_ct 138 cL_line ab_c138 = true := by decide +kernel
set_option maxRecDepth 100000 in
theorem ab_c139_ok : ab_ct 139 cL_shape ab_c139 = true := by decide +kernel
set_option maxRecDepth 100000 in
theorem ab_c140_ok : ab_ct 140 cL_over ab_c140 = true := by decide +kernel
set_option maxRecDepth 100000 in
theorem ab_c141_ok : ab_ct 141 cL_seen ab_c141 = true := by decide +kernel
set_option maxRecDepth 100000 in
theorem ab_c142_ok : ab_ct 142 cL_may ab_c142 = true := by decide +kernel
set_option maxRecDepth 100000 in
theorem ab_c143_ok : ab_ct 143 cL_pick ab_c143 = true := by decide +kernel
set_option maxRecDepth 100000 in
theorem ab_c144_ok : ab_ct 144 cL_atEnd ab_c144 = true := by decide +kernel
set_option maxRecDepth 100000 in
theorem ab_c145_ok : ab_ct 145 cL_program ab_c145 = true := by decide +kernel
end
section
/-! CALLS -/
theorem ab_AOA.spec {u : State} (h : ab_AOA u) : ∃ comp c k, u.vm.findClass (FieldType.array .int).toString = some comp ∧ (u.vm.classes.findIdx? fun (x : Class) => match x.kind with | .array component _ => component == comp | _ => false) = some c ∧ u.vm.classes[c]? = some k ∧ k.kind = .array comp (.array .int) ∧ u.vm.findClass ("[" ++ (FieldType.array .int).toString) = some c := by
  unfold ab_AOA Cond.before Cond.holds at h
  simp only [Cond.value, beq_iff_eq] at h
  cases hc : u.vm.findClass (FieldType.array .int).toString with
  | none => simp [hc] at h
  | some comp =>
    simp only [hc, Option.bind_some, Option.bind_eq_some_iff, Option.map_eq_some_iff] at h
    obtain ⟨c, hi, k, hk, hb⟩ := h
    obtain ⟨hlt, hp, -⟩ := Array.findIdx?_eq_some_iff_getElem.mp hi
    have hkk : u.vm.classes[c] = k := (Array.getElem?_eq_some_iff.mp hk).2
    rw [hkk] at hp
    cases hkind : k.kind with
    | array component ty =>
      rw [hkind] at hb hp
      simp at hb hp
      exact ⟨comp, c, k, rfl, hi, hk, by rw [hkind, hp, hb.1], hb.2⟩
    | _ => rw [hkind] at hb; simp at hb
theorem ab_AOA.moved {u U : State} (hvm : u.vm.Alike U.vm) (h : ab_AOA u) : ab_AOA U := by
  obtain ⟨comp, c, k, h1, h2, h3, h4, h5⟩ := ab_AOA.spec h
  obtain ⟨k', hk', he⟩ := hvm.2.2 _ _ h3
  have hi : (U.vm.classes.findIdx? fun (x : Class) => match x.kind with | .array component _ => component == comp | _ => false) = some c := by
    have hbe : u.vm.bare = U.vm.bare := by first | exact hvm.bare_eq | exact hvm.bare_eq.symm
    have e1 := va_idx_bare u.vm comp
    have e2 := va_idx_bare U.vm comp
    rw [hbe] at e1
    exact (e2.symm.trans e1).trans h2
  have hkind : k'.kind = .array comp (.array .int) := by rw [he]; exact h4
  have f1 : U.vm.findClass (FieldType.array .int).toString = some comp := by rw [hvm.findClass]; exact h1
  have f2 : U.vm.findClass ("[" ++ (FieldType.array .int).toString) = some c := by rw [hvm.findClass]; exact h5
  unfold ab_AOA Cond.before Cond.holds
  simp only [Cond.value]
  rw [f1, Option.bind_some]
  refine (congrArg (fun o : Option Nat => (o.bind (fun c => (U.vm.classes[c]?).map fun (k : Class) => match k.kind with | .array _ ty => decide (ty = FieldType.array .int) && decide (U.vm.findClass ("[" ++ (FieldType.array .int).toString) = some c) | _ => false) == some true)) hi).trans ?_
  simp [hk', hkind, f2]
theorem ab_NW_form : ∀ w ∈ ab_NW, ∃ a i x q, w = .methodLinkNest a i x q := by
  intro w hw
  simp only [ab_NW, List.mem_cons, List.not_mem_nil, or_false] at hw
  rcases hw with h | h | h | h | h | h | h | h | h | h | h <;> exact ⟨_, _, _, _, h⟩
theorem ab_EF.warm {D : va_G} {y : Nat → ClassId} {s U : State} (hW : s.WarmedH U.vm) (h : ab_EF D y s) : ab_EF D y U := by
  refine ⟨va_K.moved hW.alike h.1, fun w hw => ?_, va_AO.moved hW.alike h.2.2.1, ab_AOA.moved hW.alike h.2.2.2⟩
  obtain ⟨a, i, x, q, rfl⟩ := ab_NW_form w hw
  exact va_Nw.warmM hW (h.2.1 _ hw)
theorem ab_EF.same {D : va_G} {y : Nat → ClassId} {s U : State} (hv : s.vm = U.vm) (h : ab_EF D y s) : ab_EF D y U := by
  have hal : s.vm.Alike U.vm := by rw [hv]; exact Vm.Alike.refl U.vm
  refine ⟨va_K.moved hal h.1, fun w hw => ?_, va_AO.moved hal h.2.2.1, ab_AOA.moved hal h.2.2.2⟩
  obtain ⟨a, i, x, q, rfl⟩ := ab_NW_form w hw
  exact va_Nw.same rfl hv (h.2.1 _ hw)
/-- the script -/
def ab_XS (sc : Option (List Int32)) (ad : Nat → Nat) (A : Nat → Prop) (U : State) (H : Heap) : Prop := ∀ xs, sc = some xs → ∃ b, ad 2000 = b ∧ va_X b xs.length (fun j => xs.getD j 0) U H ∧ b < H.size ∧ ¬ A b
/-- texts and statics, that no call changes -/
def ab_ST (sc : Option (List Int32)) (ad : Nat → Nat) (A : Nat → Prop) (U : State) (H : Heap) : Prop := (∃ adV : Nat → Nat, vk_S 12 ab_sL ab_sB (fun i => ad (1000 + i)) adV A U H) ∧ (∀ i, i < 12 → vk_R RX4 (ab_kIx.getD i 0) (ab_sT i) (ad (1000 + i)) U) ∧ va_Z "java/lang/String" "COMPACT_STRINGS" "Z" (.int 1) A U H ∧ va_Zq "jdk/internal/util/Preconditions" "SIOOBE_FORMATTER" "Ljava/util/function/BiFunction;" A U H ∧ ab_XS sc ad A U H
theorem ab_ST.warm {sc : Option (List Int32)} {ad : Nat → Nat} {A : Nat → Prop} {s U : State} {H : Heap} (hW : s.WarmedH U.vm) (h : ab_ST sc ad A s H) : ab_ST sc ad A U H := ⟨h.1.imp (fun _ z => z.moved hW.alike), fun i hi => vk_R.warm hW (h.2.1 i hi), h.2.2.1.moved hW.alike, h.2.2.2.1.moved hW.alike, fun xs hx => by
    obtain ⟨b, h1, h2, h3⟩ := h.2.2.2.2 xs hx
    exact ⟨b, h1, h2.moved hW.alike, h3⟩⟩
theorem ab_ST.same {sc : Option (List Int32)} {ad : Nat → Nat} {A : Nat → Prop} {s U : State} {H : Heap} (hv : s.vm = U.vm) (h : ab_ST sc ad A s H) : ab_ST sc ad A U H := by
  have hal : s.vm.Alike U.vm := by rw [hv]; exact Vm.Alike.refl U.vm
  exact ⟨h.1.imp (fun _ z => z.moved hal), fun i hi => vk_R.same hv.symm (h.2.1 i hi), h.2.2.1.moved hal, h.2.2.2.1.moved hal, fun xs hx => by
    obtain ⟨b, h1, h2, h3⟩ := h.2.2.2.2 xs hx
    exact ⟨b, h1, h2.moved hal, h3⟩⟩
theorem ab_ST.kept {sc : Option (List Int32)} {ad : Nat → Nat} {A : Nat → Prop} {U : State} {H H1 : Heap} (h : ab_ST sc ad A U H) (hz : H.size ≤ H1.size) (hq : ∀ a : Nat, a < H.size → ¬ A a → H1[a]? = H[a]?) : ab_ST sc ad A U H1 := ⟨h.1.imp (fun _ z => z.kept hq), h.2.1, h.2.2.1.kept hq, h.2.2.2.1.kept hq, fun xs hx => by
    obtain ⟨b, h1, h2, h3, h4⟩ := h.2.2.2.2 xs hx
    exact ⟨b, h1, h2.kept (hq b h3 h4), Nat.lt_of_lt_of_le h3 hz, h4⟩⟩
theorem ab_ST.narrow {sc : Option (List Int32)} {ad : Nat → Nat} {A B : Nat → Prop} {U : State} {H : Heap} (h : ab_ST sc ad A U H) (hAB : ∀ q, B q → A q) : ab_ST sc ad B U H := ⟨h.1.imp (fun _ z => z.narrow hAB), h.2.1, h.2.2.1.narrow hAB, h.2.2.2.1.narrow hAB, fun xs hx => by
    obtain ⟨b, h1, h2, h3, h4⟩ := h.2.2.2.2 xs hx
    exact ⟨b, h1, h2, h3, fun z => h4 (hAB b z)⟩⟩
theorem ab_ST.ad {sc : Option (List Int32)} {ad ad' : Nat → Nat} {A : Nat → Prop} {U : State} {H : Heap} (ha : ∀ o, 1000 ≤ o → ad' o = ad o) (h : ab_ST sc ad A U H) : ab_ST sc ad' A U H := by
  have e : (fun i => ad' (1000 + i)) = fun i => ad (1000 + i) := funext fun i => ha _ (Nat.le_add_right _ _)
  refine ⟨?_, fun i hi => ?_, h.2.2.1, h.2.2.2.1, fun xs hx => ?_⟩
  · rw [e]; exact h.1
  · rw [ha _ (Nat.le_add_right _ _)]; exact h.2.1 i hi
  · obtain ⟨b, h1, h2⟩ := h.2.2.2.2 xs hx
    exact ⟨b, (ha _ (by omega)).trans h1, h2⟩
def ab_w (mi : Nat) : List Cond := .code (ab_nm mi) (ab_by mi) (ab_mxl mi) (ab_rt mi) :: ab_BIG
def ab_rm (mi : Nat) (h h' : ab_H) : Room := { frames := ab_fr mi, cells := ab_nx h' - ab_nx h, slots := ab_sl h' - ab_sl h, locals := ab_lc mi }
def ab_Pc (sc : Option (List Int32)) (D : va_G) (y : Nat → ClassId) (ad : Nat → Nat) (h : ab_H) (sz : Nat) (vs : List Value) : Array Value → State → Prop := va_Pc (vs.map (ab_cv ad)) (fun U => U.heap.size = sz ∧ ab_EF D y U ∧ va_P D vwCl (ab_ws y ad h) U.heap ∧ va_D (fun _ => True) (ab_ws y ad h) ∧ ab_ST sc ad (va_A (ab_ws y ad h) sz) U U.heap)
def ab_Q (D : va_G) (y : Nat → ClassId) (ad : Nat → Nat) (h : ab_H) (sz : Nat) (r : Option Value) (h' : ab_H) : Array Value → State → Outcome → State → Prop := fun _ st oc t =>
  (∃ ad' : Nat → Nat, ab_fx ad' ad h h' ∧ oc = .returned (r.map (ab_cv ad')) ∧ va_P D vwCl (ab_ws y ad' h') t.heap ∧ va_D (va_A (ab_ws y ad h) sz) (ab_ws y ad' h') ∧ ab_wf h') ∧ va_F (va_A (ab_ws y ad h) sz) st t
def ab_Met (sc : Option (List Int32)) (l : Launch) (D : va_G) (y : Nat → ClassId) (mi : Nat) (vs : List Value) (h : ab_H) (r : Option Value) (h' : ab_H) : Prop := ∀ (ad : Nat → Nat) (sz : Nat), Met l (ab_nm mi) (ab_w mi) (ab_rm mi h h') (ab_Pc sc D y ad h sz vs) (ab_Q D y ad h sz r h') (ab_nx h' - ab_nx h) (ab_sl h' - ab_sl h) (va_A (ab_ws y ad h) sz)
/-- what is known of calls -/
def ab_CS (sc : Option (List Int32)) (l : Launch) (D : va_G) (y : Nat → ClassId) (call : Nat → List Value → ab_H → Option (Option Value × ab_H)) : Prop := ∀ mi vs h r h', call mi vs h = some (r, h') → ab_wf h → ab_Met sc l D y mi vs h r h'
section ABC
variable {sc : Option (List Int32)} {p : Program} {l : Launch} {e : Env} {R : Room} {s : State} {m : MethodId} {args : Array Value} {below : List Frame} {meth : Method} {c : Code} {Q : State → Prop} {A : Nat → Prop} {D : va_G} {y : Nat → ClassId} {nL : Nat} {ad0 : Nat → Nat} {h0 : ab_H} {cc : ByteArray} {pc : Nat} {L : ab_L} {S : List Value} {h : ab_H}
theorem ab_blind {ad : Nat → Nat} {sz : Nat} {vs : List Value} : FrameBlind (ab_Pc sc D y ad h sz vs) := by
  intro a U g mk q
  obtain ⟨q0, q1, q2, q3, q4, q5⟩ := q
  exact ⟨q0, q1, ab_EF.same (s := U) (U := U.calling g mk a) rfl q2, q3, q4, ab_ST.same (s := U) (U := U.calling g mk a) rfl q5⟩
theorem ab_hAf {ad : Nat → Nat} {H : Heap} {locs : List Loc} (hD : va_D A (ab_ws y ad h)) (hS : va_S A s.heap H locs) (hA : ∀ q, s.heap.size ≤ q → A q) : ∀ q, va_A (ab_ws y ad h) H.size q → A q := by
  intro q hq
  rcases hq with ⟨k, e, hk⟩ | hq
  · exact hD.2 k (q, e) hk
  · exact hA q (Nat.le_trans hS.1 hq)
theorem ab_preS {ad : Nat → Nat} {H : Heap} {locs : List Loc} {vs : List Value} (hE : ab_EF D y s) (hP : va_P D vwCl (ab_ws y ad h) H) (hD : va_D A (ab_ws y ad h)) (hT : ab_ST sc ad0 A s s.heap) (hS : va_S A s.heap H locs) (hA : ∀ q, s.heap.size ≤ q → A q) (hfix : ab_fx ad ad0 h0 h) : PreS s H (ab_Pc sc D y ad h H.size vs) (vs.map (ab_cv ad)) :=
  ⟨ab_blind, fun U hU hW => ⟨rfl, by rw [hU], ab_EF.warm hW hE, by rw [hU]; exact hP, hD.weaken (fun _ _ _ _ => trivial), by rw [hU]; exact (((hT.kept hS.1 hS.2.1).narrow (ab_hAf hD hS hA)).ad (fun o ho => hfix.1 o (Or.inr ho))).warm hW⟩⟩
theorem ab_callk {ad : Nat → Nat} {H : Heap} {locs : List Loc} {cells slots mc ms : Nat} {ls : Array Slot} {st0 rest : List Value} {rv : Option Value} {h' : ab_H} {a : Array Value}
    (hr : va_Run p l e R s m args below meth c H locs cells slots mc ms (F0 m pc ls st0) rest (ab_Q D y ad h H.size rv h' a) (va_A (ab_ws y ad h) H.size)) (hS : va_S A s.heap H locs) (hAf : ∀ q, va_A (ab_ws y ad h) H.size q → A q)
    (kk : ∀ (ad' : Nat → Nat) (H1 : Heap) (locs1 : List Loc), va_P D vwCl (ab_ws y ad' h') H1 → va_D A (ab_ws y ad' h') → ab_fx ad' ad h h' → ab_wf h' → va_S A s.heap H1 locs1 → W p l e R s m args below meth c H1 locs1 (cells + mc) (slots + ms) Q (F0 m (pc + 3) ls ((rv.map (ab_cv ad')).toList ++ rest))) :
    W p l e R s m args below meth c H locs cells slots Q (F0 m pc ls st0) := by
  intro T hT X
  obtain ⟨v, st₀, t, T', L2, g0, X', hL, e1, e2, ⟨⟨ad', hfx, hv, hP', hD', hw'⟩, hz, hk⟩, st⟩ := hr T hT X
  have hv2 : v = rv.map (ab_cv ad') := by injection hv
  subst hv2
  rw [g0] at hz hk
  obtain ⟨t2, a1, b1⟩ := kk ad' T'.heap (locs ++ L2) (by rw [e1]; exact hP') (hD'.weaken (fun _ q _ hq => hAf q.1 hq)) hfx hw'
    ⟨Nat.le_trans hS.1 (by rw [e1]; exact hz), fun q h1 h2 => by rw [e1, hk q (Nat.lt_of_lt_of_le h1 hS.1) (fun z => h2 (hAf q z))]; exact hS.2.1 q h1 h2, fun q hq => by
      rcases List.mem_append.mp hq with h | h
      · exact hS.2.2 q h
      · exact hAf _ (hL q h)⟩ T' rfl X'
  exact ⟨t2, st t2 a1, b1⟩
/-- a call, once its run is known -/
theorem ab_call_sim {ad : Nat → Nat} {H : Heap} {locs : List Loc} {ls : Array Slot} {st0 : List Value} {rest : List Value} {rv : Option Value} {h' : ab_H} {a : Array Value}
    (hcond : (ab_nx h' = ab_nx h ∧ ab_sl h' = ab_sl h) ∨ (ab_nx h ≤ ab_nx h' ∧ ab_sl h ≤ ab_sl h' ∧ (L.all (fun v => (v.map (ab_ok (ab_nx h))).getD true) && rest.all (ab_ok (ab_nx h))) = true))
    (hP : va_P D vwCl (ab_ws y ad h) H) (hD : va_D A (ab_ws y ad h)) (hS : va_S A s.heap H locs) (hl : lv_has ls nL (ab_le ad L)) (hlen : L.length = nL) (hfix : ab_fx ad ad0 h0 h) (hn1 : ab_nx h0 ≤ ab_nx h) (hn2 : ab_sl h0 ≤ ab_sl h) (hA : ∀ q, s.heap.size ≤ q → A q)
    (hr : va_Run p l e R s m args below meth c H locs (ab_nx h - ab_nx h0) (ab_sl h - ab_sl h0) (ab_nx h' - ab_nx h) (ab_sl h' - ab_sl h) (F0 m pc ls st0) (rest.map (ab_cv ad)) (ab_Q D y ad h H.size rv h' a) (va_A (ab_ws y ad h) H.size))
    (k1 : ab_Sim p l e R s m args below meth c Q A D y nL ad0 h0 (pc + 3, L, rv.toList ++ rest, h')) : W p l e R s m args below meth c H locs (ab_nx h - ab_nx h0) (ab_sl h - ab_sl h0) Q (F0 m pc ls st0) := by
  have hle : ab_nx h ≤ ab_nx h' ∧ ab_sl h ≤ ab_sl h' := by
    rcases hcond with h1 | h1
    · exact ⟨by omega, by omega⟩
    · exact ⟨h1.1, h1.2.1⟩
  have hAf : ∀ q, va_A (ab_ws y ad h) H.size q → A q := by
    intro q hq
    rcases hq with ⟨k, e, hk⟩ | hq
    · exact hD.2 k (q, e) hk
    · exact hA q (Nat.le_trans hS.1 hq)
  refine ab_callk hr hS hAf (fun ad' H1 locs1 hP1 hD1 hfx hw1 hS1 => ?_)
  have hfx2 : ab_fx ad' ad0 h0 h' := by
    refine ⟨fun o ho => ?_, fun z => ?_⟩
    · rw [hfx.1 o (ho.elim (fun w => Or.inl (by omega)) Or.inr)]
      exact hfix.1 o ho
    · rw [hfx.2 (by omega)]
      exact hfix.2 (by omega)
  have hboth : (∀ q ∈ ab_le ad' L, q ∈ ab_le ad L) ∧ rest.map (ab_cv ad') = rest.map (ab_cv ad) := by
    rcases hcond with h1 | h1
    · rw [hfx.2 h1.1]
      exact ⟨fun _ h => h, rfl⟩
    · rw [Bool.and_eq_true] at h1
      exact ⟨ab_ok_L h1.2.2.1 hfx.1, ab_ok_S h1.2.2.2 hfx.1⟩
  have k2 := k1 ad' H1 locs1 ls hP1 hD1 hS1 hw1 (ab_has_weak hl hboth.1) hlen hfx2 (by show ab_nx h0 ≤ ab_nx h'; omega) (by show ab_sl h0 ≤ ab_sl h'; omega)
  have e1 : ab_nx (pc + 3, L, rv.toList ++ rest, h').2.2.2 - ab_nx h0 = ab_nx h - ab_nx h0 + (ab_nx h' - ab_nx h) := by
    show ab_nx h' - ab_nx h0 = _
    omega
  have e2 : ab_sl (pc + 3, L, rv.toList ++ rest, h').2.2.2 - ab_sl h0 = ab_sl h - ab_sl h0 + (ab_sl h' - ab_sl h) := by
    show ab_sl h' - ab_sl h0 = _
    omega
  have e3 : (pc + 3, L, rv.toList ++ rest, h').2.2.1.map (ab_cv ad') = (rv.map (ab_cv ad')).toList ++ rest.map (ab_cv ad) := by
    show (rv.toList ++ rest).map (ab_cv ad') = _
    rw [List.map_append, hboth.2]
    cases rv <;> rfl
  rw [e1, e2, e3] at k2
  exact k2
end ABC
end
section
/-! STRINGS: the JDK's own methods -/
abbrev jF : Nat → Prop := fun _ => False
theorem j_w0 : Cond.fieldLink RJ0 38 "java/lang/String" "COMPACT_STRINGS" "Z" ∈ ab_BIG := ab_has_mem (q := (3, 230)) (by decide +kernel)
theorem j_w1 : Cond.fieldLink RJ0 15 "java/lang/String" "coder" "B" ∈ ab_BIG := ab_has_mem (q := (4, 149)) (by decide +kernel)
theorem j_w2 : Cond.fieldLink RJ0 9 "java/lang/String" "value" "[B" ∈ ab_BIG := ab_has_mem (q := (4, 148)) (by decide +kernel)
theorem j_w3 : Cond.fieldLink RJ0 1053 "jdk/internal/util/Preconditions" "SIOOBE_FORMATTER" "Ljava/util/function/BiFunction;" ∈ ab_BIG := ab_has_mem (q := (4, 6)) (by decide +kernel)
theorem j_iS : Cond.initialized RJ0 ∈ ab_BIG := ab_has_mem (q := (1, 9)) (by decide +kernel)
theorem j_iL : Cond.initialized RJ1 ∈ ab_BIG := ab_has_mem (q := (1, 10)) (by decide +kernel)
theorem j_iP : Cond.initialized RJ3 ∈ ab_BIG := ab_has_mem (q := (1, 11)) (by decide +kernel)
theorem j_len1 : Cond.instanceMethod yJ0_length_8abf5 ∈ ab_BIG := ab_has_mem (q := (3, 223)) (by decide +kernel)
theorem j_len2 : Cond.selects RJ0 yJ0_length_8abf5 yJ0_length_8abf5 ∈ ab_BIG := ab_has_mem (q := (3, 224)) (by decide +kernel)
theorem j_len3 : Cond.code yJ0_length_8abf5 cJ0_length_8abf5 1 (some .int) ∈ ab_BIG := ab_has_mem (q := (3, 225)) (by decide +kernel)
theorem j_cod0 : Cond.methodLink RJ0 335 yJ0_coder_7d493 ∈ ab_BIG := ab_has_mem (q := (3, 226)) (by decide +kernel)
theorem j_cod1 : Cond.instanceMethod yJ0_coder_7d493 ∈ ab_BIG := ab_has_mem (q := (3, 227)) (by decide +kernel)
theorem j_cod2 : Cond.selects RJ0 yJ0_coder_7d493 yJ0_coder_7d493 ∈ ab_BIG := ab_has_mem (q := (3, 228)) (by decide +kernel)
theorem j_cod3 : Cond.code yJ0_coder_7d493 cJ0_coder_7d493 1 (some .byte) ∈ ab_BIG := ab_has_mem (q := (3, 229)) (by decide +kernel)
theorem j_chr1 : Cond.instanceMethod yJ0_charAt_5068e ∈ ab_BIG := ab_has_mem (q := (3, 233)) (by decide +kernel)
theorem j_chr2 : Cond.selects RJ0 yJ0_charAt_5068e yJ0_charAt_5068e ∈ ab_BIG := ab_has_mem (q := (3, 234)) (by decide +kernel)
theorem j_chr3 : Cond.code yJ0_charAt_5068e cJ0_charAt_5068e 2 (some .char) ∈ ab_BIG := ab_has_mem (q := (3, 235)) (by decide +kernel)
theorem j_lat0 : Cond.methodLink RJ0 492 yJ0_isLatin1_aae02 ∈ ab_BIG := ab_has_mem (q := (3, 236)) (by decide +kernel)
theorem j_lat1 : Cond.instanceMethod yJ0_isLatin1_aae02 ∈ ab_BIG := ab_has_mem (q := (3, 237)) (by decide +kernel)
theorem j_lat2 : Cond.selects RJ0 yJ0_isLatin1_aae02 yJ0_isLatin1_aae02 ∈ ab_BIG := ab_has_mem (q := (3, 238)) (by decide +kernel)
theorem j_lat3 : Cond.code yJ0_isLatin1_aae02 cJ0_isLatin1_aae02 1 (some .boolean) ∈ ab_BIG := ab_has_mem (q := (3, 239)) (by decide +kernel)
theorem j_sl0 : Cond.methodLink RJ0 495 yJ1_charAt_3b067 ∈ ab_BIG := ab_has_mem (q := (4, 0)) (by decide +kernel)
theorem j_sl1 : Cond.static yJ1_charAt_3b067 ∈ ab_BIG := ab_has_mem (q := (4, 1)) (by decide +kernel)
theorem j_sl3 : Cond.code yJ1_charAt_3b067 cJ1_charAt_3b067 2 (some .char) ∈ ab_BIG := ab_has_mem (q := (4, 2)) (by decide +kernel)
theorem j_ci0 : Cond.methodLink RJ1 9 yJ0_checkIndex_df160 ∈ ab_BIG := ab_has_mem (q := (4, 3)) (by decide +kernel)
theorem j_ci1 : Cond.static yJ0_checkIndex_df160 ∈ ab_BIG := ab_has_mem (q := (4, 4)) (by decide +kernel)
theorem j_ci3 : Cond.code yJ0_checkIndex_df160 cJ0_checkIndex_df160 2 none ∈ ab_BIG := ab_has_mem (q := (4, 5)) (by decide +kernel)
theorem j_pc0 : Cond.methodLink RJ0 1059 yJ3_checkIndex_8e157 ∈ ab_BIG := ab_has_mem (q := (4, 8)) (by decide +kernel)
theorem j_pc1 : Cond.static yJ3_checkIndex_8e157 ∈ ab_BIG := ab_has_mem (q := (4, 9)) (by decide +kernel)
theorem j_pc3 : Cond.code yJ3_checkIndex_8e157 cJ3_checkIndex_8e157 3 (some .int) ∈ ab_BIG := ab_has_mem (q := (4, 10)) (by decide +kernel)
def jd_w (y : MethodName) (b : ByteArray) (ml : Nat) (ret : Option FieldType) : List Cond := .code y b ml ret :: ab_BIG
theorem jd_good {y : MethodName} {b : ByteArray} {ml : Nat} {ret : Option FieldType} (h : Cond.code y b ml ret ∈ ab_BIG) : GoodIn ab_BIG (jd_w y b ml ret) := by
  intro w hw
  have hb : w ∈ ab_BIG := by
    rcases List.mem_cons.mp hw with rfl | hw
    · exact h
    · exact hw
  exact ⟨hb, ab_BIG_good w hb⟩
theorem jd_goodV {own : String} {i : Nat} {C : String} {y : MethodName} {b : ByteArray} {ml : Nat} {ret : Option FieldType} (h0 : Cond.methodLink own i y ∈ ab_BIG) (h1 : Cond.instanceMethod y ∈ ab_BIG) (h2 : Cond.selects C y y ∈ ab_BIG) (h4 : Cond.initialized C ∈ ab_BIG) (h : Cond.code y b ml ret ∈ ab_BIG) : GoodIn ab_BIG (wsV own i C y (jd_w y b ml ret)) := by
  intro w hw
  rcases List.mem_append.mp hw with h3 | h3
  · have hb : w ∈ ab_BIG := by
      simp only [List.mem_cons, List.not_mem_nil, or_false] at h3
      rcases h3 with rfl | rfl | rfl | rfl
      · exact h0
      · exact h1
      · exact h2
      · exact h4
    exact ⟨hb, ab_BIG_good w hb⟩
  · exact jd_good h w h3
theorem jd_goodS {own : String} {i : Nat} {y : MethodName} {b : ByteArray} {ml : Nat} {ret : Option FieldType} (h0 : Cond.methodLink own i y ∈ ab_BIG) (h1 : Cond.static y ∈ ab_BIG) (h4 : Cond.initialized y.cls ∈ ab_BIG) (h : Cond.code y b ml ret ∈ ab_BIG) : GoodIn ab_BIG (va_wsS own i y (jd_w y b ml ret)) := by
  intro w hw
  rcases List.mem_append.mp hw with h3 | h3
  · have hb : w ∈ ab_BIG := by
      simp only [List.mem_cons, List.not_mem_nil, or_false] at h3
      rcases h3 with rfl | rfl | rfl
      · exact h0
      · exact h1
      · exact h4
    exact ⟨hb, ab_BIG_good w hb⟩
  · exact jd_good h w h3
/-- the two statics -/
def jd_Z (U : State) (H : Heap) : Prop := va_Z "java/lang/String" "COMPACT_STRINGS" "Z" (.int 1) jF U H ∧ va_Zq "jdk/internal/util/Preconditions" "SIOOBE_FORMATTER" "Ljava/util/function/BiFunction;" jF U H
/-- a text at q, over the bytes at t -/
def jd_S (q t n : Nat) (f : Nat → Int32) (U : State) (H : Heap) : Prop := va_O "java/lang/String" q jF U H ∧ va_OF "java/lang/String" "coder" "B" (.int 0) q jF U H ∧ va_OF "java/lang/String" "value" "[B" (.ref t) q jF U H ∧ va_T .byte t n (fun j => .int (f j)) jF U H
theorem jd_Z.moved {u U : State} {H : Heap} (hvm : u.vm.Alike U.vm) (h : jd_Z u H) : jd_Z U H := ⟨h.1.moved hvm, h.2.moved hvm⟩
theorem jd_S.moved {q t n : Nat} {f : Nat → Int32} {u U : State} {H : Heap} (hvm : u.vm.Alike U.vm) (h : jd_S q t n f u H) : jd_S q t n f U H := ⟨h.1.moved hvm, h.2.1.moved hvm, h.2.2.1.moved hvm, h.2.2.2.moved hvm⟩
theorem jd_Z.kept {U : State} {H H1 : Heap} (hk : ∀ a : Nat, a < H.size → H1[a]? = H[a]?) (h : jd_Z U H) : jd_Z U H1 := ⟨h.1.kept (fun a h1 _ => hk a h1), h.2.kept (fun a h1 _ => hk a h1)⟩
theorem jd_S.kept {q t n : Nat} {f : Nat → Int32} {U : State} {H H1 : Heap} (hk : ∀ a : Nat, a < H.size → H1[a]? = H[a]?) (h : jd_S q t n f U H) : jd_S q t n f U H1 := ⟨h.1.kept (fun a h1 _ => hk a h1), h.2.1.kept (fun a h1 _ => hk a h1), h.2.2.1.kept (fun a h1 _ => hk a h1), h.2.2.2.kept (fun a h1 _ => hk a h1)⟩
theorem d_jc_0 : decode cJ0_coder_7d493 0 = .ok (.getstatic 38, 3) := by decide +kernel
theorem d_jc_3 : decode cJ0_coder_7d493 3 = .ok (.ifCond .eq 10, 3) := by decide +kernel
theorem d_jc_6 : decode cJ0_coder_7d493 6 = .ok (.aload_n 0, 1) := by decide +kernel
theorem d_jc_7 : decode cJ0_coder_7d493 7 = .ok (.getfield 15, 3) := by decide +kernel
theorem d_jc_10 : decode cJ0_coder_7d493 10 = .ok (.goto 4, 3) := by decide +kernel
theorem d_jc_14 : decode cJ0_coder_7d493 14 = .ok (.ireturn, 1) := by decide +kernel
theorem d_jl_0 : decode cJ0_isLatin1_aae02 0 = .ok (.getstatic 38, 3) := by decide +kernel
theorem d_jl_3 : decode cJ0_isLatin1_aae02 3 = .ok (.ifCond .eq 14, 3) := by decide +kernel
theorem d_jl_6 : decode cJ0_isLatin1_aae02 6 = .ok (.aload_n 0, 1) := by decide +kernel
theorem d_jl_7 : decode cJ0_isLatin1_aae02 7 = .ok (.getfield 15, 3) := by decide +kernel
theorem d_jl_10 : decode cJ0_isLatin1_aae02 10 = .ok (.ifCond .ne 7, 3) := by decide +kernel
theorem d_jl_13 : decode cJ0_isLatin1_aae02 13 = .ok (.iconst 1, 1) := by decide +kernel
theorem d_jl_14 : decode cJ0_isLatin1_aae02 14 = .ok (.goto 4, 3) := by decide +kernel
theorem d_jl_18 : decode cJ0_isLatin1_aae02 18 = .ok (.ireturn, 1) := by decide +kernel
theorem d_jn_0 : decode cJ0_length_8abf5 0 = .ok (.aload_n 0, 1) := by decide +kernel
theorem d_jn_1 : decode cJ0_length_8abf5 1 = .ok (.getfield 9, 3) := by decide +kernel
theorem d_jn_4 : decode cJ0_length_8abf5 4 = .ok (.arraylength, 1) := by decide +kernel
theorem d_jn_5 : decode cJ0_length_8abf5 5 = .ok (.aload_n 0, 1) := by decide +kernel
theorem d_jn_6 : decode cJ0_length_8abf5 6 = .ok (.invokevirtual 335, 3) := by decide +kernel
theorem d_jn_9 : decode cJ0_length_8abf5 9 = .ok (.ishr, 1) := by decide +kernel
theorem d_jn_10 : decode cJ0_length_8abf5 10 = .ok (.ireturn, 1) := by decide +kernel
set_option maxHeartbeats 4000000 in
theorem jd_coder (l : Launch) (q t n : Nat) (f : Nat → Int32) : Met l yJ0_coder_7d493 (jd_w yJ0_coder_7d493 cJ0_coder_7d493 1 (some .byte)) ({ frames := 0, cells := 0, slots := 0, locals := 0 }) (va_Pc [.ref q] (fun U => jd_Z U U.heap ∧ jd_S q t n f U U.heap)) (va_Qi (fun (r : Int32) (_ : Unit) => r = 0) (fun _ _ => True) jF) 0 0 jF := by
  refine Met.ofW (cc := cJ0_coder_7d493) (maxL := 1) (ret := some .byte) (by decide) rfl ?_
  intro p e s m args below meth c s₁ B hml hv
  obtain ⟨rfl, hZ, hO⟩ := hv
  have hx := B.exec
  have hb := B.bytes
  have hr := B.returns
  have hts0 := atoms_spec (ws := jd_w yJ0_coder_7d493 cJ0_coder_7d493 1 (some .byte)) B.pre
  have hts : ∀ w ∈ ab_BIG, w.before _ s = true := fun w hw => hts0 w (List.mem_cons_of_mem _ hw)
  have hown : s.vm.findClass RJ0 = some m.cls := findClass_of_methodNamed B.named
  have hlocks := B.notSynchronized
  have hS : va_S jF s.heap s.heap [] := va_S.rf
  have hl := lv_entry ([.ref q]) (n := 1) (Nat.le_of_ble_eq_true rfl)
  rw [lg_entry_eq]
  generalize (lg_sl ([.ref q]) ++ List.replicate (1 - (lg_sl ([.ref q])).length) Slot.unset).toArray = ls at hl ⊢
  have hl : lv_has ls 1 [(0, .ref q)] := hl
  refine va_gets hx hb hZ.1 hS hown (hts _ j_w0) (fun _ h => h) d_jc_0 ?_
  refine lv_if_eq hx hb d_jc_3 (tgt := 13) rfl (fun z => absurd z (by decide)) (fun _ => ?_)
  refine lv_aload_n hx hb d_jc_6 rfl (lv_at hl 0 rfl) ?_
  refine vk_getf hx hb hO.2.1 hS hown (hts _ j_w1) (fun _ h => h) d_jc_7 ?_
  refine lv_goto hx hb d_jc_10 (tgt := 14) rfl ?_
  exact W.zret (v := 0) hx hb hr (by decide) (fun t ht hW => ⟨⟨0, (), rfl, rfl, trivial⟩, hS.F ht⟩) hS.2.2 d_jc_14
set_option maxHeartbeats 4000000 in
theorem jd_isLatin1 (l : Launch) (q t n : Nat) (f : Nat → Int32) : Met l yJ0_isLatin1_aae02 (jd_w yJ0_isLatin1_aae02 cJ0_isLatin1_aae02 1 (some .boolean)) ({ frames := 0, cells := 0, slots := 0, locals := 0 }) (va_Pc [.ref q] (fun U => jd_Z U U.heap ∧ jd_S q t n f U U.heap)) (va_Qi (fun (r : Int32) (_ : Unit) => r = 1) (fun _ _ => True) jF) 0 0 jF := by
  refine Met.ofW (cc := cJ0_isLatin1_aae02) (maxL := 1) (ret := some .boolean) (by decide) rfl ?_
  intro p e s m args below meth c s₁ B hml hv
  obtain ⟨rfl, hZ, hO⟩ := hv
  have hx := B.exec
  have hb := B.bytes
  have hr := B.returns
  have hts0 := atoms_spec (ws := jd_w yJ0_isLatin1_aae02 cJ0_isLatin1_aae02 1 (some .boolean)) B.pre
  have hts : ∀ w ∈ ab_BIG, w.before _ s = true := fun w hw => hts0 w (List.mem_cons_of_mem _ hw)
  have hown : s.vm.findClass RJ0 = some m.cls := findClass_of_methodNamed B.named
  have hlocks := B.notSynchronized
  have hS : va_S jF s.heap s.heap [] := va_S.rf
  have hl := lv_entry ([.ref q]) (n := 1) (Nat.le_of_ble_eq_true rfl)
  rw [lg_entry_eq]
  generalize (lg_sl ([.ref q]) ++ List.replicate (1 - (lg_sl ([.ref q])).length) Slot.unset).toArray = ls at hl ⊢
  have hl : lv_has ls 1 [(0, .ref q)] := hl
  refine va_gets hx hb hZ.1 hS hown (hts _ j_w0) (fun _ h => h) d_jl_0 ?_
  refine lv_if_eq hx hb d_jl_3 (tgt := 17) rfl (fun z => absurd z (by decide)) (fun _ => ?_)
  refine lv_aload_n hx hb d_jl_6 rfl (lv_at hl 0 rfl) ?_
  refine vk_getf hx hb hO.2.1 hS hown (hts _ j_w1) (fun _ h => h) d_jl_7 ?_
  refine lv_if_ne hx hb d_jl_10 (tgt := 17) rfl (fun z => absurd rfl z) (fun _ => ?_)
  refine lv_iconst (v := 1) hx hb d_jl_13 (by decide) ?_
  refine lv_goto hx hb d_jl_14 (tgt := 18) rfl ?_
  exact W.zret (v := 1) hx hb hr (by decide) (fun t ht hW => ⟨⟨1, (), rfl, rfl, trivial⟩, hS.F ht⟩) hS.2.2 d_jl_18
set_option maxHeartbeats 4000000 in
theorem jd_length (l : Launch) (q t n : Nat) (f : Nat → Int32) : Met l yJ0_length_8abf5 (jd_w yJ0_length_8abf5 cJ0_length_8abf5 1 (some .int)) ({ frames := 1, cells := 0, slots := 0, locals := 20 }) (va_Pc [.ref q] (fun U => jd_Z U U.heap ∧ jd_S q t n f U U.heap)) (va_Qi (fun (r : Int32) (_ : Unit) => r = Int32.ofNat n) (fun _ _ => True) jF) 0 0 jF := by
  refine Met.ofW (cc := cJ0_length_8abf5) (maxL := 1) (ret := some .int) (by decide) rfl ?_
  intro p e s m args below meth c s₁ B hml hv
  obtain ⟨rfl, hZ, hO⟩ := hv
  have hx := B.exec
  have hb := B.bytes
  have hr := B.returns
  have hts0 := atoms_spec (ws := jd_w yJ0_length_8abf5 cJ0_length_8abf5 1 (some .int)) B.pre
  have hts : ∀ w ∈ ab_BIG, w.before _ s = true := fun w hw => hts0 w (List.mem_cons_of_mem _ hw)
  have hown : s.vm.findClass RJ0 = some m.cls := findClass_of_methodNamed B.named
  have hlocks := B.notSynchronized
  have hS : va_S jF s.heap s.heap [] := va_S.rf
  have hl := lv_entry ([.ref q]) (n := 1) (Nat.le_of_ble_eq_true rfl)
  rw [lg_entry_eq]
  generalize (lg_sl ([.ref q]) ++ List.replicate (1 - (lg_sl ([.ref q])).length) Slot.unset).toArray = ls at hl ⊢
  have hl : lv_has ls 1 [(0, .ref q)] := hl
  refine lv_aload_n hx hb d_jn_0 rfl (lv_at hl 0 rfl) ?_
  refine vk_getf hx hb hO.2.2.1 hS hown (hts _ j_w2) (fun _ h => h) d_jn_1 ?_
  refine va_tlen hx hb hO.2.2.2 hS rfl d_jn_4 ?_
  refine lv_aload_n hx hb d_jn_5 rfl (lv_at hl 0 rfl) ?_
  obtain ⟨cell, o1, o2, o3, o4⟩ := hO.1
  refine va_calli (va_runV (As := []) (rest := [.int (Int32.ofNat n)]) ⟨hx, hb, hml, hown, hts⟩ (jd_coder l q t n f) (cwV 0 hts (jd_goodV j_cod0 j_cod1 j_cod2 j_iS j_cod3) rfl rfl rfl ⟨rfl, by decide +kernel⟩ ⟨Nat.le_of_ble_eq_true rfl, Nat.le_of_ble_eq_true rfl⟩) ⟨fun a U g mk q => by obtain ⟨q0, q1, q2⟩ := q; exact ⟨q0, q1.moved (u := U) (U := U.calling g mk a) (Vm.Alike.refl U.vm), q2.moved (u := U) (U := U.calling g mk a) (Vm.Alike.refl U.vm)⟩, ⟨cell, o1, o2, o3⟩, fun U hU hW => ⟨rfl, by rw [hU]; exact hZ.moved hW.alike, by rw [hU]; exact hO.moved hW.alike⟩⟩ rfl rfl hl.1 rfl (lv_room (Nat.le_of_ble_eq_true rfl)) d_jn_6 ⟨(Nat.zero_le _), (Nat.zero_le _)⟩) hS (fun q _ h => h) (fun _ h => h) (fun r u t H1 locs1 ht hvm hw _ hz1 hk1 hS1 => ?_)
  subst hw
  refine lv_ishr hx hb d_jn_9 ?_
  exact W.iret hx hb hr (fun t ht hW => ⟨⟨_, (), rfl, by
    have e : ((0 : Int32) &&& 31) = 0 := by decide
    rw [e]
    exact Int32.shiftRight_zero, trivial⟩, hS1.F ht⟩) hS1.2.2 d_jn_10
end
section
/-! STRINGS: charAt -/
theorem d_jp_0 : decode cJ3_checkIndex_8e157 0 = .ok (.iload_n 0, 1) := by decide +kernel
theorem d_jp_1 : decode cJ3_checkIndex_8e157 1 = .ok (.ifCond .lt 8, 3) := by decide +kernel
theorem d_jp_4 : decode cJ3_checkIndex_8e157 4 = .ok (.iload_n 0, 1) := by decide +kernel
theorem d_jp_5 : decode cJ3_checkIndex_8e157 5 = .ok (.iload_n 1, 1) := by decide +kernel
theorem d_jp_6 : decode cJ3_checkIndex_8e157 6 = .ok (.if_icmp .lt 10, 3) := by decide +kernel
theorem d_jp_16 : decode cJ3_checkIndex_8e157 16 = .ok (.iload_n 0, 1) := by decide +kernel
theorem d_jp_17 : decode cJ3_checkIndex_8e157 17 = .ok (.ireturn, 1) := by decide +kernel
theorem d_jk_0 : decode cJ0_checkIndex_df160 0 = .ok (.iload_n 0, 1) := by decide +kernel
theorem d_jk_1 : decode cJ0_checkIndex_df160 1 = .ok (.iload_n 1, 1) := by decide +kernel
theorem d_jk_2 : decode cJ0_checkIndex_df160 2 = .ok (.getstatic 1053, 3) := by decide +kernel
theorem d_jk_5 : decode cJ0_checkIndex_df160 5 = .ok (.invokestatic 1059, 3) := by decide +kernel
theorem d_jk_8 : decode cJ0_checkIndex_df160 8 = .ok (.pop, 1) := by decide +kernel
theorem d_jk_9 : decode cJ0_checkIndex_df160 9 = .ok (.return_, 1) := by decide +kernel
theorem d_js_0 : decode cJ1_charAt_3b067 0 = .ok (.iload_n 1, 1) := by decide +kernel
theorem d_js_1 : decode cJ1_charAt_3b067 1 = .ok (.aload_n 0, 1) := by decide +kernel
theorem d_js_2 : decode cJ1_charAt_3b067 2 = .ok (.arraylength, 1) := by decide +kernel
theorem d_js_3 : decode cJ1_charAt_3b067 3 = .ok (.invokestatic 9, 3) := by decide +kernel
theorem d_js_6 : decode cJ1_charAt_3b067 6 = .ok (.aload_n 0, 1) := by decide +kernel
theorem d_js_7 : decode cJ1_charAt_3b067 7 = .ok (.iload_n 1, 1) := by decide +kernel
theorem d_js_8 : decode cJ1_charAt_3b067 8 = .ok (.baload, 1) := by decide +kernel
theorem d_js_9 : decode cJ1_charAt_3b067 9 = .ok (.sipush 255, 3) := by decide +kernel
theorem d_js_12 : decode cJ1_charAt_3b067 12 = .ok (.iand, 1) := by decide +kernel
theorem d_js_13 : decode cJ1_charAt_3b067 13 = .ok (.i2c, 1) := by decide +kernel
theorem d_js_14 : decode cJ1_charAt_3b067 14 = .ok (.ireturn, 1) := by decide +kernel
theorem d_jh_0 : decode cJ0_charAt_5068e 0 = .ok (.aload_n 0, 1) := by decide +kernel
theorem d_jh_1 : decode cJ0_charAt_5068e 1 = .ok (.invokevirtual 492, 3) := by decide +kernel
theorem d_jh_4 : decode cJ0_charAt_5068e 4 = .ok (.ifCond .eq 12, 3) := by decide +kernel
theorem d_jh_7 : decode cJ0_charAt_5068e 7 = .ok (.aload_n 0, 1) := by decide +kernel
theorem d_jh_8 : decode cJ0_charAt_5068e 8 = .ok (.getfield 9, 3) := by decide +kernel
theorem d_jh_11 : decode cJ0_charAt_5068e 11 = .ok (.iload_n 1, 1) := by decide +kernel
theorem d_jh_12 : decode cJ0_charAt_5068e 12 = .ok (.invokestatic 495, 3) := by decide +kernel
theorem d_jh_15 : decode cJ0_charAt_5068e 15 = .ok (.ireturn, 1) := by decide +kernel
/-- null or a reference -/
def jd_nr (v : Value) : Prop := v = .null ∨ ∃ t, v = .ref t
set_option maxHeartbeats 4000000 in
theorem jd_pci (l : Launch) (i n : Int32) (v : Value) (hn : jd_nr v) (h0 : ¬ i < 0) (h1 : i < n) : Met l yJ3_checkIndex_8e157 (jd_w yJ3_checkIndex_8e157 cJ3_checkIndex_8e157 3 (some .int)) ({ frames := 0, cells := 0, slots := 0, locals := 0 }) (va_Pc [.int i, .int n, v] (fun _ => True)) (va_Qi (fun (r : Int32) (_ : Unit) => r = i) (fun _ _ => True) jF) 0 0 jF := by
  refine Met.ofW (cc := cJ3_checkIndex_8e157) (maxL := 3) (ret := some .int) (by decide) rfl ?_
  intro p e s m args below meth c s₁ B hml hv
  obtain ⟨rfl, -⟩ := hv
  have hx := B.exec
  have hb := B.bytes
  have hr := B.returns
  have hlocks := B.notSynchronized
  have hS : va_S jF s.heap s.heap [] := va_S.rf
  have hfit : (lg_sl ([.int i, .int n, v])).length ≤ 3 := by
    rcases hn with rfl | ⟨t, rfl⟩ <;> exact Nat.le_of_ble_eq_true rfl
  have hl := lv_entry ([.int i, .int n, v]) (n := 3) hfit
  rw [lg_entry_eq]
  generalize (lg_sl ([.int i, .int n, v]) ++ List.replicate (3 - (lg_sl ([.int i, .int n, v])).length) Slot.unset).toArray = ls at hl ⊢
  have hl : lv_has ls 3 [(0, .int i), (1, .int n)] := by
    rcases hn with rfl | ⟨t, rfl⟩
    · exact lv_sub (l := [(0, .int i), (1, .int n), (2, .null)]) hl [0, 1] rfl
    · exact lv_sub (l := [(0, .int i), (1, .int n), (2, .ref t)]) hl [0, 1] rfl
  refine lv_iload_n hx hb d_jp_0 rfl (lv_at hl 0 rfl) ?_
  refine lv_if_lt hx hb d_jp_1 (tgt := 9) rfl (fun z => absurd z h0) (fun _ => ?_)
  refine lv_iload_n hx hb d_jp_4 rfl (lv_at hl 0 rfl) ?_
  refine lv_iload_n hx hb d_jp_5 rfl (lv_at hl 1 rfl) ?_
  refine lv_icmp_lt hx hb d_jp_6 (tgt := 16) rfl (fun _ => ?_) (fun z => absurd h1 z)
  refine lv_iload_n hx hb d_jp_16 rfl (lv_at hl 0 rfl) ?_
  exact W.iret hx hb hr (fun t ht hW => ⟨⟨i, (), rfl, rfl, trivial⟩, hS.F ht⟩) hS.2.2 d_jp_17
set_option maxHeartbeats 4000000 in
theorem jd_sci (l : Launch) (i n : Int32) (h0 : ¬ i < 0) (h1 : i < n) : Met l yJ0_checkIndex_df160 (jd_w yJ0_checkIndex_df160 cJ0_checkIndex_df160 2 none) ({ frames := 1, cells := 0, slots := 0, locals := 22 }) (va_Pc [.int i, .int n] (fun U => jd_Z U U.heap)) (va_Qv (fun (_ : Unit) => True) (fun _ _ => True) jF) 0 0 jF := by
  refine Met.ofW (cc := cJ0_checkIndex_df160) (maxL := 2) (ret := none) (by decide) rfl ?_
  intro p e s m args below meth c s₁ B hml hv
  obtain ⟨rfl, hZ⟩ := hv
  have hx := B.exec
  have hb := B.bytes
  have hr := B.returns
  have hts0 := atoms_spec (ws := jd_w yJ0_checkIndex_df160 cJ0_checkIndex_df160 2 none) B.pre
  have hts : ∀ w ∈ ab_BIG, w.before _ s = true := fun w hw => hts0 w (List.mem_cons_of_mem _ hw)
  have hown : s.vm.findClass RJ0 = some m.cls := findClass_of_methodNamed B.named
  have hlocks := B.notSynchronized
  have hS : va_S jF s.heap s.heap [] := va_S.rf
  have hl := lv_entry ([.int i, .int n]) (n := 2) (Nat.le_of_ble_eq_true rfl)
  rw [lg_entry_eq]
  generalize (lg_sl ([.int i, .int n]) ++ List.replicate (2 - (lg_sl ([.int i, .int n])).length) Slot.unset).toArray = ls at hl ⊢
  have hl : lv_has ls 2 [(0, .int i), (1, .int n)] := hl
  obtain ⟨v, hn, z⟩ : ∃ v, jd_nr v ∧ va_Z "jdk/internal/util/Preconditions" "SIOOBE_FORMATTER" "Ljava/util/function/BiFunction;" v jF s s.heap := by
    rcases hZ.2 with z | ⟨t, z⟩
    · exact ⟨_, Or.inl rfl, z⟩
    · exact ⟨_, Or.inr ⟨t, rfl⟩, z⟩
  refine lv_iload_n hx hb d_jk_0 rfl (lv_at hl 0 rfl) ?_
  refine lv_iload_n hx hb d_jk_1 rfl (lv_at hl 1 rfl) ?_
  refine va_gets hx hb z hS hown (hts _ j_w3) (fun _ h => h) d_jk_2 ?_
  refine va_calli (va_runS (As := [.int i, .int n, v]) (rest := []) ⟨hx, hb, hml, hown, hts⟩ (jd_pci l i n v hn h0 h1) (va_cwS 3 hts (jd_goodS j_pc0 j_pc1 j_iP j_pc3) rfl rfl rfl (by decide +kernel) ⟨Nat.le_of_ble_eq_true rfl, Nat.le_of_ble_eq_true rfl⟩) ⟨fun a U g mk q => ⟨q.1, trivial⟩, fun U hU hW => ⟨rfl, trivial⟩⟩ rfl rfl hl.1 rfl (lv_room (Nat.le_of_ble_eq_true rfl)) d_jk_5 ⟨(Nat.zero_le _), (Nat.zero_le _)⟩) hS (fun q _ h => h) (fun _ h => h) (fun r u t H1 locs1 ht hvm hw _ hz1 hk1 hS1 => ?_)
  refine lv_pop hx hb d_jk_8 rfl ?_
  exact W.vret hx hb hr (fun t ht hW => ⟨⟨(), rfl, trivial, trivial⟩, hS1.F ht⟩) hS1.2.2 d_jk_9
set_option maxHeartbeats 4000000 in
theorem jd_sl (l : Launch) (t n : Nat) (f : Nat → Int32) (i : Int32) (h0 : ¬ i < 0) (h1 : i < Int32.ofNat n) (h2 : vp_in i n) (hc : ((f i.toNatClampNeg &&& 255).toUInt32 % 65536).toInt32 = f i.toNatClampNeg) (hc2 : narrow .char (.int (f i.toNatClampNeg)) = .int (f i.toNatClampNeg)) : Met l yJ1_charAt_3b067 (jd_w yJ1_charAt_3b067 cJ1_charAt_3b067 2 (some .char)) ({ frames := 2, cells := 0, slots := 0, locals := 43 }) (va_Pc [.ref t, .int i] (fun U => jd_Z U U.heap ∧ va_T .byte t n (fun j => .int (f j)) jF U U.heap)) (va_Qi (fun (r : Int32) (_ : Unit) => r = f i.toNatClampNeg) (fun _ _ => True) jF) 0 0 jF := by
  refine Met.ofW (cc := cJ1_charAt_3b067) (maxL := 2) (ret := some .char) (by decide) rfl ?_
  intro p e s m args below meth c s₁ B hml hv
  obtain ⟨rfl, hZ, hO⟩ := hv
  have hx := B.exec
  have hb := B.bytes
  have hr := B.returns
  have hts0 := atoms_spec (ws := jd_w yJ1_charAt_3b067 cJ1_charAt_3b067 2 (some .char)) B.pre
  have hts : ∀ w ∈ ab_BIG, w.before _ s = true := fun w hw => hts0 w (List.mem_cons_of_mem _ hw)
  have hown : s.vm.findClass RJ1 = some m.cls := findClass_of_methodNamed B.named
  have hlocks := B.notSynchronized
  have hS : va_S jF s.heap s.heap [] := va_S.rf
  have hl := lv_entry ([.ref t, .int i]) (n := 2) (Nat.le_of_ble_eq_true rfl)
  rw [lg_entry_eq]
  generalize (lg_sl ([.ref t, .int i]) ++ List.replicate (2 - (lg_sl ([.ref t, .int i])).length) Slot.unset).toArray = ls at hl ⊢
  have hl : lv_has ls 2 [(0, .ref t), (1, .int i)] := hl
  refine lv_iload_n hx hb d_js_0 rfl (lv_at hl 1 rfl) ?_
  refine lv_aload_n hx hb d_js_1 rfl (lv_at hl 0 rfl) ?_
  refine va_tlen hx hb hO hS rfl d_js_2 ?_
  refine va_callv (va_runS (As := [.int i, .int (Int32.ofNat n)]) (rest := []) ⟨hx, hb, hml, hown, hts⟩ (jd_sci l i (Int32.ofNat n) h0 h1) (va_cwS 2 hts (jd_goodS j_ci0 j_ci1 j_iS j_ci3) rfl rfl rfl (by decide +kernel) ⟨Nat.le_of_ble_eq_true rfl, Nat.le_of_ble_eq_true rfl⟩) ⟨fun a U g mk q => ⟨q.1, q.2.moved (u := U) (U := U.calling g mk a) (Vm.Alike.refl U.vm)⟩, fun U hU hW => ⟨rfl, by show jd_Z U U.heap; rw [hU]; exact hZ.moved hW.alike⟩⟩ rfl rfl hl.1 rfl (lv_room (Nat.le_of_ble_eq_true rfl)) d_js_3 ⟨(Nat.zero_le _), (Nat.zero_le _)⟩) hS (fun q _ h => h) (fun _ h => h) (fun u t' H1 locs1 ht hvm hw _ hz1 hk1 hS1 => ?_)
  refine lv_aload_n hx hb d_js_6 rfl (lv_at hl 0 rfl) ?_
  refine lv_iload_n hx hb d_js_7 rfl (lv_at hl 1 rfl) ?_
  refine va_tb hx hb hO hS1 h2 rfl d_js_8 ?_
  refine lv_sipush (v := 255) hx hb d_js_9 (by decide) ?_
  refine lv_iand hx hb d_js_12 ?_
  refine lv_i2c hx hb d_js_13 hc ?_
  exact W.zret hx hb hr hc2 (fun t ht hW => ⟨⟨_, (), rfl, rfl, trivial⟩, hS1.F ht⟩) hS1.2.2 d_js_14
set_option maxHeartbeats 4000000 in
theorem jd_charAt (l : Launch) (q t n : Nat) (f : Nat → Int32) (i : Int32) (h0 : ¬ i < 0) (h1 : i < Int32.ofNat n) (h2 : vp_in i n) (hc : ((f i.toNatClampNeg &&& 255).toUInt32 % 65536).toInt32 = f i.toNatClampNeg) (hc2 : narrow .char (.int (f i.toNatClampNeg)) = .int (f i.toNatClampNeg)) : Met l yJ0_charAt_5068e (jd_w yJ0_charAt_5068e cJ0_charAt_5068e 2 (some .char)) ({ frames := 3, cells := 0, slots := 0, locals := 64 }) (va_Pc [.ref q, .int i] (fun U => jd_Z U U.heap ∧ jd_S q t n f U U.heap)) (va_Qi (fun (r : Int32) (_ : Unit) => r = f i.toNatClampNeg) (fun _ _ => True) jF) 0 0 jF := by
  refine Met.ofW (cc := cJ0_charAt_5068e) (maxL := 2) (ret := some .char) (by decide) rfl ?_
  intro p e s m args below meth c s₁ B hml hv
  obtain ⟨rfl, hZ, hO⟩ := hv
  have hx := B.exec
  have hb := B.bytes
  have hr := B.returns
  have hts0 := atoms_spec (ws := jd_w yJ0_charAt_5068e cJ0_charAt_5068e 2 (some .char)) B.pre
  have hts : ∀ w ∈ ab_BIG, w.before _ s = true := fun w hw => hts0 w (List.mem_cons_of_mem _ hw)
  have hown : s.vm.findClass RJ0 = some m.cls := findClass_of_methodNamed B.named
  have hlocks := B.notSynchronized
  have hS : va_S jF s.heap s.heap [] := va_S.rf
  have hl := lv_entry ([.ref q, .int i]) (n := 2) (Nat.le_of_ble_eq_true rfl)
  rw [lg_entry_eq]
  generalize (lg_sl ([.ref q, .int i]) ++ List.replicate (2 - (lg_sl ([.ref q, .int i])).length) Slot.unset).toArray = ls at hl ⊢
  have hl : lv_has ls 2 [(0, .ref q), (1, .int i)] := hl
  refine lv_aload_n hx hb d_jh_0 rfl (lv_at hl 0 rfl) ?_
  obtain ⟨cell, o1, o2, o3, o4⟩ := hO.1
  refine va_calli (va_runV (As := []) (rest := []) ⟨hx, hb, hml, hown, hts⟩ (jd_isLatin1 l q t n f) (cwV 0 hts (jd_goodV j_lat0 j_lat1 j_lat2 j_iS j_lat3) rfl rfl rfl ⟨rfl, by decide +kernel⟩ ⟨Nat.le_of_ble_eq_true rfl, Nat.le_of_ble_eq_true rfl⟩) ⟨fun a U g mk q => by obtain ⟨q0, q1, q2⟩ := q; exact ⟨q0, q1.moved (u := U) (U := U.calling g mk a) (Vm.Alike.refl U.vm), q2.moved (u := U) (U := U.calling g mk a) (Vm.Alike.refl U.vm)⟩, ⟨cell, o1, o2, o3⟩, fun U hU hW => ⟨rfl, by rw [hU]; exact hZ.moved hW.alike, by rw [hU]; exact hO.moved hW.alike⟩⟩ rfl rfl hl.1 rfl (lv_room (Nat.le_of_ble_eq_true rfl)) d_jh_1 ⟨(Nat.zero_le _), (Nat.zero_le _)⟩) hS (fun q _ h => h) (fun _ h => h) (fun r u t' H1 locs1 ht hvm hw _ hz1 hk1 hS1 => ?_)
  subst hw
  have hk : ∀ a : Nat, a < s.heap.size → H1[a]? = s.heap[a]? := fun a ha => hk1 a ha (fun z => z)
  have hZ1 := hZ.kept hk
  have hO1 := hO.kept hk
  refine lv_if_eq hx hb d_jh_4 (tgt := 16) rfl (fun z => absurd z (by decide)) (fun _ => ?_)
  refine lv_aload_n hx hb d_jh_7 rfl (lv_at hl 0 rfl) ?_
  refine vk_getf hx hb hO.2.2.1 hS1 hown (hts _ j_w2) (fun _ h => h) d_jh_8 ?_
  refine lv_iload_n hx hb d_jh_11 rfl (lv_at hl 1 rfl) ?_
  refine va_calli (va_runS (As := [.ref t, .int i]) (rest := []) ⟨hx, hb, hml, hown, hts⟩ (jd_sl l t n f i h0 h1 h2 hc hc2) (va_cwS 2 hts (jd_goodS j_sl0 j_sl1 j_iL j_sl3) rfl rfl rfl (by decide +kernel) ⟨Nat.le_of_ble_eq_true rfl, Nat.le_of_ble_eq_true rfl⟩) ⟨fun a U g mk q => by obtain ⟨q0, q1, q2⟩ := q; exact ⟨q0, q1.moved (u := U) (U := U.calling g mk a) (Vm.Alike.refl U.vm), q2.moved (u := U) (U := U.calling g mk a) (Vm.Alike.refl U.vm)⟩, fun U hU hW => ⟨rfl, by rw [hU]; exact hZ1.moved hW.alike, by rw [hU]; exact hO1.2.2.2.moved hW.alike⟩⟩ rfl rfl hl.1 rfl (lv_room (Nat.le_of_ble_eq_true rfl)) d_jh_12 ⟨(Nat.zero_le _), (Nat.zero_le _)⟩) hS1 (fun q _ h => h) (fun _ h => h) (fun r u t' H2 locs2 ht2 hvm2 hw2 _ hz2 hk2 hS2 => ?_)
  subst hw2
  exact W.zret hx hb hr hc2 (fun t ht hW => ⟨⟨_, (), rfl, rfl, trivial⟩, hS2.F ht⟩) hS2.2.2 d_jh_15
end
section
/-! A STEP, A RUN, A METHOD -/
theorem ab_M_spec {mi : Nat} {q : ab_MI} (h : ab_M[mi]? = some q) : ab_MT q = true := List.all_eq_true.mp ab_M_ok q (List.mem_of_getElem? h)
theorem ab_M_all {mi : Nat} {q : ab_MI} (h : ab_M[mi]? = some q) : ab_own mi = q.1 ∧ ab_nm mi = q.2.1 ∧ ab_by mi = q.2.2.1 ∧ ab_mxl mi = q.2.2.2.1 ∧ ab_rt mi = q.2.2.2.2.1 ∧ ab_np mi = q.2.2.2.2.2.1 := by
  unfold ab_own ab_nm ab_by ab_mxl ab_rt ab_np
  rw [h]
  exact ⟨rfl, rfl, rfl, rfl, rfl, rfl⟩
/-- what the table of methods gives of a method -/
theorem ab_M_use {mi : Nat} (h : mi < ab_M.length) : Cond.code (ab_nm mi) (ab_by mi) (ab_mxl mi) (ab_rt mi) ∈ ab_BIG ∧ Cond.initialized (ab_nm mi).cls ∈ ab_BIG ∧ (ab_nm mi).cls = ab_C (ab_own mi) ∧ plainName (ab_nm mi).cls = true ∧ ((ab_nm mi).cls ≠ "java/lang/invoke/MethodHandle" ∧ (ab_nm mi).cls ≠ "java/lang/invoke/VarHandle" ∧ (parseMethodDescriptor (ab_nm mi).desc).map (fun d => d.parameters.length) = some (ab_np mi)) ∧
    (((ab_M[mi]?).map (fun q => decide (q.2.2.2.2.2.2.2.2.2.2 = (0, 0)))).getD false = true → Cond.instanceMethod (ab_nm mi) ∈ ab_BIG ∧ (((ab_nm mi).name = "<init>" ∧ ab_rt mi = none) ∨ Cond.selects (ab_nm mi).cls (ab_nm mi) (ab_nm mi) ∈ ab_BIG)) ∧
    (((ab_M[mi]?).map (fun q => decide (¬ q.2.2.2.2.2.2.2.2.2.2 = (0, 0)))).getD false = true → Cond.static (ab_nm mi) ∈ ab_BIG) := by
  obtain ⟨q, hq⟩ : ∃ q, ab_M[mi]? = some q := ⟨_, List.getElem?_eq_getElem h⟩
  obtain ⟨e1, e2, e3, e4, e5, e6⟩ := ab_M_all hq
  have ht := ab_M_spec hq
  have t1 := ab_CW_0_146 mi (Nat.zero_le _) h
  rw [e2, e3, e4, e5] at t1
  rw [hq, e1, e2, e3, e4, e5, e6]
  obtain ⟨own, nm, b, ml, ret, n, pc, pn, pi, ps, pt⟩ := q
  simp only [ab_MT, Bool.and_eq_true, decide_eq_true_eq] at ht
  obtain ⟨⟨⟨⟨⟨⟨⟨t2, t3⟩, t4⟩, t5⟩, t6⟩, t7⟩, t8⟩, t9⟩ := ht
  refine ⟨t1, ab_has_mem t2, t3, t4, ⟨t5, t6, t7⟩, fun hz => ?_, fun hz => ?_⟩
  · simp only [Option.map_some, Option.getD_some, decide_eq_true_eq] at hz
    rw [if_pos hz, Bool.and_eq_true, Bool.or_eq_true, decide_eq_true_eq] at t9
    exact ⟨ab_has_mem t9.1, t9.2.elim Or.inl (fun w => Or.inr (ab_has_mem w))⟩
  · simp only [Option.map_some, Option.getD_some, decide_eq_true_eq] at hz
    rw [if_neg hz] at t9
    exact ab_has_mem t9
theorem ab_ml_spec {own i mi kd : Nat} (h : ab_ml own i = some (mi, kd)) : ∃ q : ab_P, ab_mlT (own, i, mi, kd, q) = true := by
  unfold ab_ml at h
  rw [Option.map_eq_some_iff] at h
  obtain ⟨e, h1, h2⟩ := h
  obtain ⟨q1, q2⟩ := ab_find h1 ab_mlL_ok
  obtain ⟨a, b, x, z, w⟩ := e
  simp only [Bool.and_eq_true, beq_iff_eq] at q1
  cases h2
  obtain ⟨rfl, rfl⟩ := q1
  exact ⟨w, q2⟩
theorem ab_w_good {mi : Nat} (h : mi < ab_M.length) {Ts : List Cond} (hT : ∀ w ∈ ab_BIG, w ∈ Ts) : GoodIn Ts (ab_w mi) := by
  intro w hw
  have hb : w ∈ ab_BIG := by
    rcases List.mem_cons.mp hw with rfl | hw
    · exact (ab_M_use h).1
    · exact hw
  exact ⟨hT w hb, ab_BIG_good w hb⟩
theorem ab_w1 : Cond.instanceMethod objectInit ∈ ab_BIG := ab_has_mem (q := (1, 21)) (by decide +kernel)
theorem ab_w2 : Cond.code objectInit ⟨#[0xb1]⟩ 1 none ∈ ab_BIG := ab_has_mem (q := (1, 22)) (by decide +kernel)
theorem ab_w3 : Cond.static arraycopyName ∈ ab_BIG := ab_has_mem (q := (2, 196)) (by decide +kernel)
theorem ab_w4 : Cond.native arraycopyName ∈ ab_BIG := ab_has_mem (q := (2, 197)) (by decide +kernel)
theorem ab_w5 : Cond.initialized "java/lang/System" ∈ ab_BIG := ab_has_mem (q := (1, 13)) (by decide +kernel)
theorem ab_w6 : Cond.static Lib.Math.max.name ∈ ab_BIG := ab_has_mem (q := (2, 211)) (by decide +kernel)
theorem ab_w7 : Cond.code Lib.Math.max.name Lib.Math.max.code 2 (some .int) ∈ ab_BIG := ab_has_mem (q := (2, 212)) (by decide +kernel)
theorem ab_w8 : Cond.initialized "java/lang/Math" ∈ ab_BIG := ab_has_mem (q := (1, 14)) (by decide +kernel)
theorem ab_mlT1 (own i mi : Nat) (q : ab_P) : ab_mlT (own, i, mi, 1, q) = (ab_has q (.methodLink (ab_C own) i (ab_nm mi)) && decide (((ab_M[mi]?).map (fun q => decide (¬ q.2.2.2.2.2.2.2.2.2.2 = (0, 0)))).getD false = true)) := rfl
theorem ab_mlT2 (own i mi : Nat) (q : ab_P) : ab_mlT (own, i, mi, 2, q) = (decide (ab_NW[q.2]? = some (.methodLinkNest (ab_C own) i (ab_nm mi) RX7)) && decide (((ab_M[mi]?).map (fun q => decide (¬ q.2.2.2.2.2.2.2.2.2.2 = (0, 0)))).getD false = true)) := rfl
theorem ab_mlT3 (own i mi : Nat) (q : ab_P) : ab_mlT (own, i, mi, 3, q) = (ab_has q (.methodLink (ab_C own) i (ab_nm mi)) && decide (((ab_M[mi]?).map (fun q => decide (q.2.2.2.2.2.2.2.2.2.2 = (0, 0)) && decide (q.2.1.name = "<init>") && decide (q.2.2.2.2.1 = none))).getD false = true)) := rfl
theorem ab_mlT4 (own i mi : Nat) (q : ab_P) : ab_mlT (own, i, mi, 4, q) = (decide (ab_NW[q.2]? = some (.methodLinkNest (ab_C own) i (ab_nm mi) RX7)) && decide (((ab_M[mi]?).map (fun q => decide (q.2.2.2.2.2.2.2.2.2.2 = (0, 0)) && decide (q.2.1.name = "<init>") && decide (q.2.2.2.2.1 = none))).getD false = true)) := rfl
theorem ab_mlT5 (own i mi : Nat) (q : ab_P) : ab_mlT (own, i, mi, 5, q) = ab_has q (.methodLink (ab_C own) i objectInit) := rfl
theorem ab_mlT6 (own i mi : Nat) (q : ab_P) : ab_mlT (own, i, mi, 6, q) = ab_has q (.methodLink (ab_C own) i arraycopyName) := rfl
theorem ab_mlT7 (own i mi : Nat) (q : ab_P) : ab_mlT (own, i, mi, 7, q) = ab_has q (.methodLink (ab_C own) i Lib.Math.max.name) := rfl
theorem ab_mlT8 (own i mi : Nat) (q : ab_P) : ab_mlT (own, i, mi, 8, q) = ab_has q (.methodLink (ab_C own) i yJ0_length_8abf5) := rfl
theorem ab_mlT9 (own i mi : Nat) (q : ab_P) : ab_mlT (own, i, mi, 9, q) = ab_has q (.methodLink (ab_C own) i yJ0_charAt_5068e) := rfl
theorem ab_sB_ok : ∀ k, k < 12 → ∀ j, j < ab_sL.getD k 0 → ((((ab_sB.getD k []).getD j 0 &&& 255).toUInt32 % 65536).toInt32 = (ab_sB.getD k []).getD j 0) ∧ narrow .char (.int ((ab_sB.getD k []).getD j 0)) = .int ((ab_sB.getD k []).getD j 0) := by decide +kernel
theorem ab_sL_lt : ∀ k, k < 12 → ab_sL.getD k 0 < 6 := by decide +kernel
section ABH
variable {sc : Option (List Int32)} {p : Program} {l : Launch} {e : Env} {R : Room} {s : State} {m : MethodId} {args : Array Value} {below : List Frame} {meth : Method} {c : Code} {Q : State → Prop} {A : Nat → Prop} {D : va_G} {y : Nat → ClassId} {nL : Nat} {ad0 : Nat → Nat} {h0 : ab_H} {cc : ByteArray} {pc : Nat} {L : ab_L} {S : List Value} {h : ab_H}
theorem ab_cell_fun {ad : Nat → Nat} {o q : Nat} {f : Nat → Int32} (hq : q ≠ o) : ab_cell y ad (h.1, (fun a => if a = o then f else h.2.1 a), h.2.2) q = ab_cell y ad h q := by
  have e : (h.1, (fun a => if a = o then f else h.2.1 a), h.2.2).2.1 q = h.2.1 q := if_neg hq
  have e2 : ∀ j ty, ab_gv (h.1, (fun a => if a = o then f else h.2.1 a), h.2.2) q j ty = ab_gv h q j ty := by
    intro j ty
    cases ty <;> simp [ab_gv, hq] <;> rfl
  unfold ab_cell
  rw [show ab_kd (h.1, (fun a => if a = o then f else h.2.1 a), h.2.2) q = ab_kd h q from rfl, show ab_ln (h.1, (fun a => if a = o then f else h.2.1 a), h.2.2) q = ab_ln h q from rfl, e]
  simp only [e2]
  rfl
/-- the room of a call -/
theorem ab_roomI {own fr lc i mi kd : Nat} (h : ab_cok1 own fr lc i = true) (hm : ab_ml own i = some (mi, kd)) (hk : kd ≤ 4) : ab_fr mi + 1 ≤ fr ∧ 8 + (ab_mxl mi + 11) + ab_lc mi ≤ lc := by
  unfold ab_cok1 at h
  rw [hm] at h
  simp only at h
  rw [if_pos hk, Bool.and_eq_true, decide_eq_true_eq, decide_eq_true_eq] at h
  exact h
theorem ab_catm (ad : Nat → Nat) (rest : List Value) : ((rest.map (ab_cv ad)).map fun v => v.category).sum = ab_cat rest := by
  unfold ab_cat
  rw [List.map_map]
  congr 1
  exact List.map_congr_left fun v _ => ab_cv_cat ad v
/-- length and charAt of a text -/
theorem abs_txt (hx : p.tables.exec = Jvm.exec) (hb : c.code = cc) (hml : c.maxLocals = nL) {own i b : Nat} {j : MethodName} {bj : ByteArray} {ml : Nat} {ret : Option FieldType} {rm : Room} {vs rest : List Value} {r : Int32} (hown : s.vm.findClass (ab_C own) = some m.cls) (hts : ∀ w ∈ ab_BIG, w.before args s = true) (hT : ab_ST sc ad0 A s s.heap) (hb1 : 1000 ≤ b) (hb2 : b < 1012)
    (hd : decode cc pc = .ok (.invokevirtual i, 3)) (h0' : Cond.methodLink (ab_C own) i j ∈ ab_BIG) (h1' : Cond.instanceMethod j ∈ ab_BIG) (h2' : Cond.selects RJ0 j j ∈ ab_BIG) (h3' : Cond.code j bj ml ret ∈ ab_BIG) (hj : j.cls = RJ0) (hrc : rm.cells = 0) (hrs : rm.slots = 0) (hdesc : j.cls ≠ "java/lang/invoke/MethodHandle" ∧ j.cls ≠ "java/lang/invoke/VarHandle" ∧ (parseMethodDescriptor j.desc).map (fun d => d.parameters.length) = some vs.length) (hR : rm.frames + 1 ≤ R.frames ∧ 8 + (ml + 11) + rm.locals ≤ R.locals) (hvs : ∀ ad : Nat → Nat, vs.map (ab_cv ad) = vs)
    (hM : ∀ q t : Nat, Met l j (jd_w j bj ml ret) rm (va_Pc (.ref q :: vs) (fun U => jd_Z U U.heap ∧ jd_S q t (ab_sL.getD (b - 1000) 0) (fun k => (ab_sB.getD (b - 1000) []).getD k 0) U U.heap)) (va_Qi (fun (x : Int32) (_ : Unit) => x = r) (fun _ _ => True) jF) 0 0 jF) (hcat : ab_cat rest ≤ 8) (hRc : ab_nx h - ab_nx h0 ≤ R.cells ∧ ab_sl h - ab_sl h0 ≤ R.slots)
    (k1 : ab_Sim p l e R s m args below meth c Q A D y nL ad0 h0 (pc + 3, L, .int r :: rest, h)) : ab_Sim p l e R s m args below meth c Q A D y nL ad0 h0 (pc, L, vs.reverse ++ .ref b :: rest, h) := by
  intro ad H locs ls hP hD hS hw hl hlen hfix hn1 hn2
  have hn1 : ab_nx h0 ≤ ab_nx h := hn1
  have hn2 : ab_sl h0 ≤ ab_sl h := hn2
  obtain ⟨⟨adV, hK⟩, -, hz1, hz2, -⟩ := (hT.kept hS.1 hS.2.1).narrow (B := jF) (fun q z => z.elim)
  have ek : 1000 + (b - 1000) = b := by omega
  have ea : ad b = ad0 b := hfix.1 b (Or.inr hb1)
  obtain ⟨k1', k2', k3', k4'⟩ := hK.1 (b - 1000) (by omega)
  dsimp only at k1' k2' k3'
  rw [ek, ← ea] at k1' k2' k3'
  have hZ : jd_Z s H := ⟨hz1, hz2⟩
  have hO : jd_S (ad b) (adV (b - 1000)) (ab_sL.getD (b - 1000) 0) (fun k => (ab_sB.getD (b - 1000) []).getD k 0) s H := ⟨k1', k2', k3', k4'⟩
  obtain ⟨cell, o1, o2, o3, o4⟩ := hO.1
  have hst : (vs.reverse ++ .ref b :: rest).map (ab_cv ad) = vs.reverse ++ .ref (ad b) :: rest.map (ab_cv ad) := by
    rw [List.map_append, List.map_reverse, hvs ad]
    rfl
  have hcatm := ab_catm ad rest
  show W p l e R s m args below meth c H locs (ab_nx h - ab_nx h0) (ab_sl h - ab_sl h0) Q (F0 m pc ls ((vs.reverse ++ .ref b :: rest).map (ab_cv ad)))
  rw [hst]
  have hr := va_runV (cells := ab_nx h - ab_nx h0) (slots := ab_sl h - ab_sl h0) (locs := locs) (H := H) (e := e) (below := below) (meth := meth) (As := vs) (rest := rest.map (ab_cv ad)) (nL := nL) (g := F0 m pc ls (vs.reverse ++ .ref (ad b) :: rest.map (ab_cv ad))) (b := ad b) (Ts := ab_BIG) ⟨hx, hb, hml, hown, hts⟩ (hM (ad b) (adV (b - 1000))) (cwV (C := RJ0) (R := R) (s := s) (args := args) vs.length hts (jd_goodV h0' h1' h2' j_iS h3') rfl hrc hrs ⟨hj, hdesc⟩ hR) ⟨fun a U g mk q => by obtain ⟨q0, q1, q2⟩ := q; exact ⟨q0, q1.moved (u := U) (U := U.calling g mk a) (Vm.Alike.refl U.vm), q2.moved (u := U) (U := U.calling g mk a) (Vm.Alike.refl U.vm)⟩, ⟨cell, o1, o2, o3⟩, fun U hU hW => ⟨rfl, by rw [hU]; exact hZ.moved hW.alike, by rw [hU]; exact hO.moved hW.alike⟩⟩ rfl rfl hl.1 rfl (by
    show 2 * 0 + _ ≤ 8
    omega) hd ⟨hRc.1, hRc.2⟩
  refine va_calli hr hS (fun q _ z => z.elim) (fun q z => z.elim) (fun x u t H1 locs1 ht hvm hw2 _ hz hk hS1 => ?_)
  subst hw2
  have hP1 : va_P D vwCl (ab_ws y ad h) H1 := fun k q hq => (hP k q hq).kept (hk q.1 (hP k q hq).lt (fun z => z))
  exact k1 ad H1 locs1 ls hP1 hD hS1 hw hl hlen hfix hn1 hn2
theorem abs_inv (hx : p.tables.exec = Jvm.exec) (hb : c.code = cc) (hml : c.maxLocals = nL) {call : Nat → List Value → ab_H → Option (Option Value × ab_H)} {own fr lc i : Nat} {virt : Bool} {F : ab_F} (hown : s.vm.findClass (ab_C own) = some m.cls) (hts : ∀ w ∈ ab_BIG, w.before args s = true) (hA : ∀ q, s.heap.size ≤ q → A q) (hE : ab_EF D y s) (hT : ab_ST sc ad0 A s s.heap) (hC : ab_CS sc l D y call) (hok : ab_cok1 own fr lc i = true) (hRf : fr ≤ R.frames) (hRl : lc ≤ R.locals)
    (hd : decode cc pc = .ok (if virt then .invokevirtual i else .invokestatic i, 3)) (hs : ab_inv call own i virt pc L S h = some (.inl F)) (hRc : ab_nx F.2.2.2 - ab_nx h0 ≤ R.cells ∧ ab_sl F.2.2.2 - ab_sl h0 ≤ R.slots) (k1 : ab_Sim p l e R s m args below meth c Q A D y nL ad0 h0 F) : ab_Sim p l e R s m args below meth c Q A D y nL ad0 h0 (pc, L, S, h) := by
  unfold ab_inv at hs
  cases hm : ab_ml own i with
  | none => rw [hm] at hs; cases hs
  | some mk =>
  obtain ⟨mi, kd⟩ := mk
  rw [hm] at hs
  simp only at hs
  obtain ⟨q, hq⟩ := ab_ml_spec hm
  -- the call itself
  have kcall : ∀ (vs rest : List Value) (mi : Nat) (F : ab_F), ab_call call mi vs pc L rest h = some (.inl F) → ab_cat rest ≤ 8 ∧ ∃ rv h', call mi vs h = some (rv, h') ∧ F = (pc + 3, L, rv.toList ++ rest, h') ∧ ((ab_nx h' = ab_nx h ∧ ab_sl h' = ab_sl h) ∨ (ab_nx h ≤ ab_nx h' ∧ ab_sl h ≤ ab_sl h' ∧ (L.all (fun v => (v.map (ab_ok (ab_nx h))).getD true) && rest.all (ab_ok (ab_nx h))) = true)) := by
    intro vs rest mi F hz
    unfold ab_call at hz
    split at hz
    · rename_i hcat
      split at hz
      · rename_i rv h' hcl
        split at hz
        · rename_i hcond
          cases hz
          exact ⟨hcat, rv, h', hcl, rfl, hcond⟩
        · cases hz
      · cases hz
    · cases hz
  have hcatm : ∀ (ad : Nat → Nat) (rest : List Value), ((rest.map (ab_cv ad)).map fun v => v.category).sum = ab_cat rest := by
    intro ad rest
    unfold ab_cat
    rw [List.map_map]
    congr 1
    exact List.map_congr_left fun v _ => ab_cv_cat ad v
  cases virt with
  | true =>
    rw [if_pos rfl] at hs hd
    by_cases hk0 : kd = 0
    · subst hk0
      rw [if_pos rfl] at hs
      split at hs
      · rename_i b rest hdrop
        split at hs
        · rename_i hcc
          rw [Bool.and_eq_true, Bool.and_eq_true, decide_eq_true_eq] at hcc
          obtain ⟨⟨hrb, ho9⟩, hargs⟩ := hcc
          obtain ⟨hb1, hkd⟩ := ab_refs hrb
          obtain ⟨hcat, rv, h', hcl, rfl, hcond⟩ := kcall _ _ _ _ hs
          simp only [ab_mlT, if_true, Bool.and_eq_true, decide_eq_true_eq] at hq
          have hlt : mi < ab_M.length := by
            rcases Nat.lt_or_ge mi ab_M.length with w | w
            · exact w
            · rw [List.getElem?_eq_none w] at hq; exact absurd hq.2 (by simp)
          obtain ⟨u1, u2, u3, u4, u5, u6, u7⟩ := ab_M_use hlt
          have hqq : ((ab_M[mi]?).map (fun q => decide (q.2.2.2.2.2.2.2.2.2.2 = (0, 0)))).getD false = true ∧ ¬ (ab_nm mi).name = "<init>" := by
            have h2 := hq.2
            unfold ab_nm
            rw [List.getElem?_eq_getElem hlt] at h2 ⊢
            simp only [Option.map_some, Option.getD_some, Bool.and_eq_true, decide_eq_true_eq] at h2 ⊢
            exact h2
          obtain ⟨v1, v2⟩ := u6 hqq.1
          have v2 : Cond.selects (ab_nm mi).cls (ab_nm mi) (ab_nm mi) ∈ ab_BIG := v2.elim (fun w => absurd w.1 hqq.2) id
          obtain ⟨r1, r2⟩ := ab_roomI hok hm (by omega)
          intro ad H locs ls hP hD hS hw hl hlen hfix hn1 hn2
          have hn1 : ab_nx h0 ≤ ab_nx h := hn1
          have hn2 : ab_sl h0 ≤ ab_sl h := hn2
          have hSeq : S.map (ab_cv ad) = ((S.take (ab_np mi)).reverse.map (ab_cv ad)).reverse ++ .ref (ad b) :: rest.map (ab_cv ad) := by
            rw [← List.map_reverse, List.reverse_reverse]
            show _ = (S.take (ab_np mi)).map (ab_cv ad) ++ (Value.ref b :: rest).map (ab_cv ad)
            rw [← List.map_append, ← hdrop, List.take_append_drop]
          have hgood : GoodIn ab_BIG (wsV (ab_C own) i (ab_nm mi).cls (ab_nm mi) (ab_w mi)) := by
            intro w hw2
            rcases List.mem_append.mp hw2 with h3 | h3
            · have : w ∈ ab_BIG := by
                simp only [List.mem_cons, List.not_mem_nil, or_false] at h3
                rcases h3 with rfl | rfl | rfl | rfl
                · exact ab_has_mem hq.1
                · exact v1
                · exact v2
                · exact u2
              exact ⟨this, ab_BIG_good w this⟩
            · exact ab_w_good hlt (fun _ h => h) w h3
          have hlenA : ((S.take (ab_np mi)).reverse.map (ab_cv ad)).length = ab_np mi := by
            rw [List.length_map, List.length_reverse, List.length_take]
            have : ¬ S.length ≤ ab_np mi := fun w => by rw [List.drop_eq_nil_of_le w] at hdrop; cases hdrop
            omega
          have hr := va_runV (cells := ab_nx h - ab_nx h0) (slots := ab_sl h - ab_sl h0) (locs := locs) (H := H) (e := e) (below := below) (meth := meth) (As := (S.take (ab_np mi)).reverse.map (ab_cv ad)) (rest := rest.map (ab_cv ad)) (nL := nL) (g := F0 m pc ls (S.map (ab_cv ad))) (b := ad b) (Ts := ab_BIG) ⟨hx, hb, hml, hown, hts⟩ (hC mi _ h rv h' hcl hw ad H.size) (cwV (R := R) (s := s) (args := args) (ab_np mi) hts hgood rfl rfl rfl ⟨rfl, u5⟩ ⟨by show ab_fr mi + 1 ≤ R.frames; omega, by show 8 + (ab_mxl mi + 11) + ab_lc mi ≤ R.locals; omega⟩) ⟨ab_blind, (by
              have := va_recv hE.1 hP (ab_cls (ab_own mi) ho9) (q0 := b) (by rw [ab_ws_get hb1, ab_cell_obj hkd ho9])
              rw [u3]
              exact this), (ab_preS (vs := .ref b :: (S.take (ab_np mi)).reverse) hE hP hD hT hS hA hfix).2⟩ rfl hlenA hl.1 hSeq (by
              have := hcatm ad rest
              show 2 * 0 + _ ≤ 8
              omega) hd ⟨by have := hRc.1; show ab_nx h - ab_nx h0 + (ab_nx h' - ab_nx h) ≤ R.cells; have : ab_nx h' - ab_nx h0 ≤ R.cells := this; rcases hcond with z | z <;> omega, by have := hRc.2; show ab_sl h - ab_sl h0 + (ab_sl h' - ab_sl h) ≤ R.slots; have : ab_sl h' - ab_sl h0 ≤ R.slots := this; rcases hcond with z | z <;> omega⟩
          exact ab_call_sim hcond hP hD hS hl hlen hfix hn1 hn2 hA hr k1
        · cases hs
      · cases hs
    · rw [if_neg hk0] at hs
      by_cases hk8 : kd = 8
      · subst hk8
        rw [if_pos rfl] at hs
        split at hs
        · rename_i b rest
          split at hs
          · rename_i hcc
            obtain ⟨b1, b2, hcat⟩ := hcc
            cases hs
            have hq1 : Cond.methodLink (ab_C own) i yJ0_length_8abf5 ∈ ab_BIG := by
              have : ab_has q (.methodLink (ab_C own) i yJ0_length_8abf5) = true := by rw [ab_mlT8] at hq; exact hq
              exact ab_has_mem this
            have hrm : 2 ≤ fr ∧ 60 ≤ lc := by
              unfold ab_cok1 at hok
              rw [hm] at hok
              simpa using hok
            exact abs_txt (vs := []) (rm := { frames := 1, cells := 0, slots := 0, locals := 20 }) hx hb hml hown hts hT b1 b2 hd hq1 j_len1 j_len2 j_len3 rfl rfl rfl (by decide +kernel) ⟨by show 1 + 1 ≤ R.frames; omega, by show 8 + (1 + 11) + 20 ≤ R.locals; omega⟩ (fun _ => rfl) (fun q t => jd_length l q t _ _) hcat hRc k1
          · cases hs
        · cases hs
      · rw [if_neg hk8] at hs
        by_cases hk9 : kd = 9
        · subst hk9
          rw [if_pos rfl] at hs
          split at hs
          · rename_i x b rest
            split at hs
            · rename_i hcc
              obtain ⟨b1, b2, hin, hcat⟩ := hcc
              cases hs
              have hq1 : Cond.methodLink (ab_C own) i yJ0_charAt_5068e ∈ ab_BIG := by
                have : ab_has q (.methodLink (ab_C own) i yJ0_charAt_5068e) = true := by rw [ab_mlT9] at hq; exact hq
                exact ab_has_mem this
              have hrm : 4 ≤ fr ∧ 90 ≤ lc := by
                unfold ab_cok1 at hok
                rw [hm] at hok
                simpa using hok
              unfold ab_in at hin
              rw [Bool.and_eq_true, decide_eq_true_eq, decide_eq_true_eq] at hin
              have hk12 : b - 1000 < 12 := Nat.sub_lt_left_of_lt_add b1 b2
              have hlt := ab_sL_lt (b - 1000) hk12
              obtain ⟨c1, c2⟩ := ab_sB_ok (b - 1000) hk12 _ hin.2
              have n0 : ¬ x < 0 := Int32.not_lt.mpr hin.1
              have n1 : x < Int32.ofNat (ab_sL.getD (b - 1000) 0) := by
                rw [Int32.lt_iff_toInt_lt]
                have e1 : (Int32.ofNat (ab_sL.getD (b - 1000) 0)).toInt = (ab_sL.getD (b - 1000) 0 : Int) := Int32.toInt_ofNat_of_lt (by omega)
                have e2 : x.toInt = (x.toNatClampNeg : Int) := by
                  have h0' : (0 : Int) ≤ x.toInt := by simpa using Int32.le_iff_toInt_le.mp hin.1
                  show x.toInt = ((x.toInt.toNat : Nat) : Int)
                  omega
                rw [e1, e2]
                have := hin.2
                omega
              exact abs_txt (vs := [.int x]) (rm := { frames := 3, cells := 0, slots := 0, locals := 64 }) hx hb hml hown hts hT b1 b2 hd hq1 j_chr1 j_chr2 j_chr3 rfl rfl rfl ⟨by decide +kernel, by decide +kernel, by show _ = some 1; decide +kernel⟩ ⟨by show 3 + 1 ≤ R.frames; omega, by show 8 + (2 + 11) + 64 ≤ R.locals; omega⟩ (fun _ => rfl) (fun q t => jd_charAt l q t _ _ x n0 n1 (fun z => z.elim n0 (fun w => by have := hin.2; omega)) c1 c2) hcat hRc k1
            · cases hs
          · cases hs
        · rw [if_neg hk9] at hs
          cases hs
  | false =>
    rw [if_neg (by simp)] at hs hd
    by_cases hk12 : kd = 1 ∨ kd = 2
    · rw [if_pos hk12] at hs
      split at hs
      · rename_i hcc
        obtain ⟨hlenS, hargs⟩ := hcc
        obtain ⟨hcat, rv, h', hcl, rfl, hcond⟩ := kcall _ _ _ _ hs
        have hstat : ((ab_M[mi]?).map (fun q => decide (¬ q.2.2.2.2.2.2.2.2.2.2 = (0, 0)))).getD false = true := by
          rcases hk12 with rfl | rfl
          · rw [ab_mlT1, Bool.and_eq_true] at hq
            exact of_decide_eq_true hq.2
          · rw [ab_mlT2, Bool.and_eq_true] at hq
            exact of_decide_eq_true hq.2
        have hlt : mi < ab_M.length := by
          rcases Nat.lt_or_ge mi ab_M.length with w | w
          · exact w
          · rw [List.getElem?_eq_none w] at hstat; exact absurd hstat (by simp)
        obtain ⟨u1, u2, u3, u4, u5, u6, u7⟩ := ab_M_use hlt
        have v1 := u7 hstat
        obtain ⟨r1, r2⟩ := ab_roomI hok hm (by omega)
        intro ad H locs ls hP hD hS hw hl hlen hfix hn1 hn2
        have hn1 : ab_nx h0 ≤ ab_nx h := hn1
        have hn2 : ab_sl h0 ≤ ab_sl h := hn2
        have hSeq : S.map (ab_cv ad) = ((S.take (ab_np mi)).reverse.map (ab_cv ad)).reverse ++ (S.drop (ab_np mi)).map (ab_cv ad) := by
          rw [← List.map_reverse, List.reverse_reverse, ← List.map_append, List.take_append_drop]
        have hlenA : ((S.take (ab_np mi)).reverse.map (ab_cv ad)).length = ab_np mi := by
          rw [List.length_map, List.length_reverse, List.length_take]
          omega
        have hcatk : 2 * (F0 m pc ls (S.map (ab_cv ad))).monitorRoom + (((S.drop (ab_np mi)).map (ab_cv ad)).map fun v => v.category).sum ≤ 8 := by
          have := hcatm ad (S.drop (ab_np mi))
          show 2 * 0 + _ ≤ 8
          omega
        have hroom : ab_nx h - ab_nx h0 + (ab_nx h' - ab_nx h) ≤ R.cells ∧ ab_sl h - ab_sl h0 + (ab_sl h' - ab_sl h) ≤ R.slots := ⟨by have : ab_nx h' - ab_nx h0 ≤ R.cells := hRc.1; rcases hcond with z | z <;> omega, by have : ab_sl h' - ab_sl h0 ≤ R.slots := hRc.2; rcases hcond with z | z <;> omega⟩
        rcases hk12 with rfl | rfl
        · rw [ab_mlT1, Bool.and_eq_true] at hq
          have hq1 : Cond.methodLink (ab_C own) i (ab_nm mi) ∈ ab_BIG := ab_has_mem hq.1
          have hgood : GoodIn ab_BIG (va_wsS (ab_C own) i (ab_nm mi) (ab_w mi)) := by
            intro w hw2
            rcases List.mem_append.mp hw2 with h3 | h3
            · have : w ∈ ab_BIG := by
                simp only [List.mem_cons, List.not_mem_nil, or_false] at h3
                rcases h3 with rfl | rfl | rfl
                · exact hq1
                · exact v1
                · exact u2
              exact ⟨this, ab_BIG_good w this⟩
            · exact ab_w_good hlt (fun _ h => h) w h3
          have hr := va_runS (cells := ab_nx h - ab_nx h0) (slots := ab_sl h - ab_sl h0) (locs := locs) (H := H) (e := e) (below := below) (meth := meth) (As := (S.take (ab_np mi)).reverse.map (ab_cv ad)) (rest := (S.drop (ab_np mi)).map (ab_cv ad)) (nL := nL) (g := F0 m pc ls (S.map (ab_cv ad))) (Ts := ab_BIG) ⟨hx, hb, hml, hown, hts⟩ (hC mi _ h rv h' hcl hw ad H.size) (va_cwS (R := R) (s := s) (args := args) (ab_np mi) hts hgood rfl rfl rfl u5 ⟨by show ab_fr mi + 1 ≤ R.frames; omega, by show 8 + (ab_mxl mi + 11) + ab_lc mi ≤ R.locals; omega⟩) (ab_preS (vs := (S.take (ab_np mi)).reverse) hE hP hD hT hS hA hfix) rfl hlenA hl.1 hSeq hcatk hd hroom
          exact ab_call_sim hcond hP hD hS hl hlen hfix hn1 hn2 hA hr k1
        · have hq1 : va_Nw (.methodLinkNest (ab_C own) i (ab_nm mi) RX7) s := by
            have : ab_NW[q.2]? = some (.methodLinkNest (ab_C own) i (ab_nm mi) RX7) := by
              rw [ab_mlT2, Bool.and_eq_true] at hq
              exact of_decide_eq_true hq.1
            exact hE.2.1 _ (List.mem_of_getElem? this)
          have hr := va_runSN (cells := ab_nx h - ab_nx h0) (slots := ab_sl h - ab_sl h0) (locs := locs) (H := H) (e := e) (below := below) (meth := meth) (As := (S.take (ab_np mi)).reverse.map (ab_cv ad)) (rest := (S.drop (ab_np mi)).map (ab_cv ad)) (nL := nL) (g := F0 m pc ls (S.map (ab_cv ad))) (Ts := ab_BIG) ⟨hx, hb, hml, hown, hts⟩ (hC mi _ h rv h' hcl hw ad H.size) ⟨va_cnB (R := R) (s := s) (args := args) (ab_np mi) hts (ab_w_good hlt (fun _ h => h)) rfl rfl rfl hq1 (hts _ u2) u5 ⟨by show ab_fr mi + 1 ≤ R.frames; omega, by show 8 + (ab_mxl mi + 11) + ab_lc mi ≤ R.locals; omega⟩, hts _ v1, trivial⟩ (ab_preS (vs := (S.take (ab_np mi)).reverse) hE hP hD hT hS hA hfix) rfl hlenA hl.1 hSeq hcatk hd hroom
          exact ab_call_sim hcond hP hD hS hl hlen hfix hn1 hn2 hA hr k1
      · cases hs
    · rw [if_neg hk12] at hs
      by_cases hk6 : kd = 6
      · subst hk6
        rw [if_pos rfl] at hs
        split at hs
        · rename_i n dp a1 sp a0 rest
          split at hs
          · rename_i hcc
            simp only [Bool.and_eq_true, decide_eq_true_eq] at hcc
            obtain ⟨⟨⟨⟨⟨⟨⟨hr0, hr1⟩, hsp⟩, hdp⟩, hn0⟩, hl0⟩, hl1⟩, hcat⟩ := hcc
            obtain ⟨ho0, hkd0⟩ := ab_refs hr0
            obtain ⟨ho1, hkd1⟩ := ab_refs hr1
            cases hs
            have hq1 : Cond.methodLink (ab_C own) i arraycopyName ∈ ab_BIG := by
              have : ab_has q (.methodLink (ab_C own) i arraycopyName) = true := by rw [ab_mlT6] at hq; exact hq
              exact ab_has_mem this
            have hrm : 1 ≤ fr ∧ 8 + (nativeFrameWords "java/lang/System" "arraycopy" 5 + 11) ≤ lc := by
              unfold ab_cok1 at hok
              rw [hm] at hok
              simpa using hok
            intro ad H locs ls hP hD hS hw hl hlen hfix hn1 hn2
            have hn1 : ab_nx h0 ≤ ab_nx h := hn1
            have hn2 : ab_sl h0 ≤ ab_sl h := hn2
            have hws : (ab_ws y ad h).set a1 (ad a1, .inl (y 10, ab_ln h a1, .inl (va_cpy (h.2.1 a0) (h.2.1 a1) sp.toNatClampNeg dp.toNatClampNeg n.toNatClampNeg))) = ab_ws y ad (h.1, (fun o => if o = a1 then va_cpy (h.2.1 a0) (h.2.1 a1) sp.toNatClampNeg dp.toNatClampNeg n.toNatClampNeg else h.2.1 o), h.2.2) := by
              refine ab_ws_set rfl ?_ (fun q hq => ?_)
              · rw [ab_cell_arr (h := (h.1, (fun o => if o = a1 then va_cpy (h.2.1 a0) (h.2.1 a1) sp.toNatClampNeg dp.toNatClampNeg n.toNatClampNeg else h.2.1 o), h.2.2)) (kd := 10) hkd1 (by omega) (by omega) (by omega) (by omega)]
                show Sum.inl (y 10, ab_ln h a1, Sum.inl (if a1 = a1 then _ else _)) = _
                rw [if_pos rfl]
              · exact ab_cell_fun hq
            refine va_copyi (ty := .int) hx hb (hml.trans hl.1.symm) hown (hts _ hq1) (hts _ ab_w4) (hts _ ab_w3) (hts _ ab_w5) hE.1 hP hD hS a0 a1 0 0 (by rw [ab_ws_get ho0, ab_cell_arr hkd0 (by omega) (by omega) (by omega) (by omega)]) (by rw [ab_ws_get ho1, ab_cell_arr hkd1 (by omega) (by omega) (by omega) (by omega)]) rfl rfl rfl (Int32.not_lt.mpr hsp) (Int32.not_lt.mpr hdp) (Int32.not_lt.mpr hn0) hl0 hl1 (fun _ _ => rfl) (by omega) (by
              have := hcatm ad rest
              omega) hd (fun H1 locs1 hP1 hD1 hS1 => ?_)
            rw [hws] at hP1 hD1
            exact k1 ad H1 locs1 ls hP1 hD1 hS1 hw hl hlen hfix hn1 hn2
          · cases hs
        · cases hs
      · rw [if_neg hk6] at hs
        by_cases hk7 : kd = 7
        · subst hk7
          rw [if_pos rfl] at hs
          split at hs
          · rename_i z x rest
            split at hs
            · rename_i hcat
              cases hs
              have hq1 : Cond.methodLink (ab_C own) i Lib.Math.max.name ∈ ab_BIG := by
                have : ab_has q (.methodLink (ab_C own) i Lib.Math.max.name) = true := by rw [ab_mlT7] at hq; exact hq
                exact ab_has_mem this
              have hrm : 1 ≤ fr ∧ 21 ≤ lc := by
                unfold ab_cok1 at hok
                rw [hm] at hok
                simpa using hok
              intro ad H locs ls hP hD hS hw hl hlen hfix hn1 hn2
              have hn1 : ab_nx h0 ≤ ab_nx h := hn1
              have hn2 : ab_sl h0 ≤ ab_sl h := hn2
              refine va_mmax hx hb (hml.trans hl.1.symm) hown (hts _ hq1) (hts _ ab_w6) (hts _ ab_w8) (hts _ ab_w7) (by omega) (by
                have := hcatm ad rest
                omega) (by have : ab_nx h - ab_nx h0 ≤ R.cells := hRc.1; exact this) (by have : ab_sl h - ab_sl h0 ≤ R.slots := hRc.2; exact this) hd ?_
              exact k1 ad H locs ls hP hD hS hw hl hlen hfix hn1 hn2
            · cases hs
          · cases hs
        · rw [if_neg hk7] at hs
          cases hs
theorem abs_spc (hx : p.tables.exec = Jvm.exec) (hb : c.code = cc) (hml : c.maxLocals = nL) {call : Nat → List Value → ab_H → Option (Option Value × ab_H)} {own fr lc i : Nat} {F : ab_F} (hown : s.vm.findClass (ab_C own) = some m.cls) (hts : ∀ w ∈ ab_BIG, w.before args s = true) (hA : ∀ q, s.heap.size ≤ q → A q) (hE : ab_EF D y s) (hT : ab_ST sc ad0 A s s.heap) (hC : ab_CS sc l D y call) (hok : ab_cok1 own fr lc i = true) (hRf : fr ≤ R.frames) (hRl : lc ≤ R.locals)
    (hd : decode cc pc = .ok (.invokespecial i, 3)) (hs : ab_spc call own i pc L S h = some (.inl F)) (hRc : ab_nx F.2.2.2 - ab_nx h0 ≤ R.cells ∧ ab_sl F.2.2.2 - ab_sl h0 ≤ R.slots) (k1 : ab_Sim p l e R s m args below meth c Q A D y nL ad0 h0 F) : ab_Sim p l e R s m args below meth c Q A D y nL ad0 h0 (pc, L, S, h) := by
  unfold ab_spc at hs
  cases hm : ab_ml own i with
  | none => rw [hm] at hs; cases hs
  | some mk =>
  obtain ⟨mi, kd⟩ := mk
  rw [hm] at hs
  simp only at hs
  obtain ⟨q, hq⟩ := ab_ml_spec hm
  have hcatm : ∀ (ad : Nat → Nat) (rest : List Value), ((rest.map (ab_cv ad)).map fun v => v.category).sum = ab_cat rest := by
    intro ad rest
    unfold ab_cat
    rw [List.map_map]
    congr 1
    exact List.map_congr_left fun v _ => ab_cv_cat ad v
  by_cases hk5 : kd = 5
  · subst hk5
    rw [if_pos rfl] at hs
    split at hs
    · rename_i b rest
      split at hs
      · rename_i hcat
        cases hs
        have hq1 : Cond.methodLink (ab_C own) i objectInit ∈ ab_BIG := by
          have : ab_has q (.methodLink (ab_C own) i objectInit) = true := by rw [ab_mlT5] at hq; exact hq
          exact ab_has_mem this
        have hrm : 1 ≤ fr ∧ 21 ≤ lc := by
          unfold ab_cok1 at hok
          rw [hm] at hok
          simpa using hok
        intro ad H locs ls hP hD hS hw hl hlen hfix hn1 hn2
        have hn1 : ab_nx h0 ≤ ab_nx h := hn1
        have hn2 : ab_sl h0 ≤ ab_sl h := hn2
        refine W.objInit hx hb hown (hts _ hq1) (hts _ ab_w1) (hts _ ab_w2) rfl (hl.1.trans hml.symm) rfl hd (by omega) (by
          have := hcatm ad rest
          show 2 * 0 + _ + 12 ≤ _
          omega) ?_
        exact k1 ad H locs ls hP hD hS hw hl hlen hfix hn1 hn2
      · cases hs
    · cases hs
  · rw [if_neg hk5] at hs
    by_cases hk34 : kd = 3 ∨ kd = 4
    · rw [if_pos hk34] at hs
      split at hs
      · rename_i b rest
        split at hs
        · rename_i hcc
          obtain ⟨hnp, hrb, ho9⟩ := hcc
          obtain ⟨hb1, hkd⟩ := ab_refs hrb
          unfold ab_call at hs
          split at hs
          · rename_i hcat
            split at hs
            · rename_i rv h' hcl
              split at hs
              · rename_i hcond
                cases hs
                have hini : ((ab_M[mi]?).map (fun q => decide (q.2.2.2.2.2.2.2.2.2.2 = (0, 0)) && decide (q.2.1.name = "<init>") && decide (q.2.2.2.2.1 = none))).getD false = true := by
                  rcases hk34 with rfl | rfl
                  · rw [ab_mlT3, Bool.and_eq_true] at hq
                    exact of_decide_eq_true hq.2
                  · rw [ab_mlT4, Bool.and_eq_true] at hq
                    exact of_decide_eq_true hq.2
                have hlt : mi < ab_M.length := by
                  rcases Nat.lt_or_ge mi ab_M.length with w | w
                  · exact w
                  · rw [List.getElem?_eq_none w] at hini; exact absurd hini (by simp)
                obtain ⟨u1, u2, u3, u4, u5, u6, u7⟩ := ab_M_use hlt
                have hqq : ((ab_M[mi]?).map (fun q => decide (q.2.2.2.2.2.2.2.2.2.2 = (0, 0)))).getD false = true ∧ (ab_nm mi).name = "<init>" ∧ ab_rt mi = none := by
                  unfold ab_nm ab_rt
                  rw [List.getElem?_eq_getElem hlt] at hini ⊢
                  simp only [Option.map_some, Option.getD_some, Bool.and_eq_true, decide_eq_true_eq] at hini ⊢
                  exact ⟨hini.1.1, hini.1.2, hini.2⟩
                obtain ⟨v1, -⟩ := u6 hqq.1
                obtain ⟨r1, r2⟩ := ab_roomI hok hm (by omega)
                have hwg := ab_w_good hlt (Ts := ab_BIG) (fun _ h => h)
                have hwe : ab_w mi = Cond.code (ab_nm mi) (ab_by mi) (ab_mxl mi) none :: ab_BIG := by
                  unfold ab_w
                  rw [hqq.2.2]
                have u5' := u5
                rw [hnp] at u5'
                intro ad H locs ls hP hD hS hw hl hlen hfix hn1 hn2
                have hn1 : ab_nx h0 ≤ ab_nx h := hn1
                have hn2 : ab_sl h0 ≤ ab_sl h := hn2
                have hcatk : 2 * (F0 m pc ls ((Value.ref b :: rest).map (ab_cv ad))).monitorRoom + ((rest.map (ab_cv ad)).map fun v => v.category).sum ≤ 8 := by
                  have := hcatm ad rest
                  show 2 * 0 + _ ≤ 8
                  omega
                have hroom : ab_nx h - ab_nx h0 + (ab_nx h' - ab_nx h) ≤ R.cells ∧ ab_sl h - ab_sl h0 + (ab_sl h' - ab_sl h) ≤ R.slots := ⟨by have : ab_nx h' - ab_nx h0 ≤ R.cells := hRc.1; rcases hcond with z | z <;> omega, by have : ab_sl h' - ab_sl h0 ≤ R.slots := hRc.2; rcases hcond with z | z <;> omega⟩
                rcases hk34 with rfl | rfl
                · have hq1 : Cond.methodLink (ab_C own) i (ab_nm mi) ∈ ab_BIG := by
                    have : ab_has q (.methodLink (ab_C own) i (ab_nm mi)) = true := by
                      rw [ab_mlT3, Bool.and_eq_true] at hq
                      exact hq.1
                    exact ab_has_mem this
                  have hr := va_runI (cells := ab_nx h - ab_nx h0) (slots := ab_sl h - ab_sl h0) (locs := locs) (H := H) (e := e) (below := below) (meth := meth) (b := ad b) (As := []) (rest := rest.map (ab_cv ad)) (nL := nL) (g := F0 m pc ls ((Value.ref b :: rest).map (ab_cv ad))) (Ts := ab_BIG) ⟨hx, hb, hml, hown, hts⟩ (hC mi _ h rv h' hcl hw ad H.size) (cwI (R := R) (s := s) (args := args) 0 hts hwg hwe rfl rfl (hts _ u2) (hts _ hq1) (hts _ v1) hqq.2.1 u5' ⟨by show ab_fr mi + 1 ≤ R.frames; omega, by show 8 + (ab_mxl mi + 11) + ab_lc mi ≤ R.locals; omega⟩) (ab_preS (vs := [.ref b]) hE hP hD hT hS hA hfix) rfl rfl hl.1 rfl hcatk hd hroom
                  exact ab_call_sim hcond hP hD hS hl hlen hfix hn1 hn2 hA hr k1
                · have hq1 : va_Nw (.methodLinkNest (ab_C own) i (ab_nm mi) RX7) s := by
                    have : ab_NW[q.2]? = some (.methodLinkNest (ab_C own) i (ab_nm mi) RX7) := by
                      rw [ab_mlT4, Bool.and_eq_true] at hq
                      exact of_decide_eq_true hq.1
                    exact hE.2.1 _ (List.mem_of_getElem? this)
                  have hr := va_runIN (cells := ab_nx h - ab_nx h0) (slots := ab_sl h - ab_sl h0) (locs := locs) (H := H) (e := e) (below := below) (meth := meth) (b := ad b) (As := []) (rest := rest.map (ab_cv ad)) (nL := nL) (g := F0 m pc ls ((Value.ref b :: rest).map (ab_cv ad))) (Ts := ab_BIG) ⟨hx, hb, hml, hown, hts⟩ (hC mi _ h rv h' hcl hw ad H.size) ⟨va_cnB (R := R) (s := s) (args := args) 0 hts hwg hwe rfl rfl hq1 (hts _ u2) u5' ⟨by show ab_fr mi + 1 ≤ R.frames; omega, by show 8 + (ab_mxl mi + 11) + ab_lc mi ≤ R.locals; omega⟩, hqq.2.1, hts _ v1⟩ (ab_preS (vs := [.ref b]) hE hP hD hT hS hA hfix) rfl rfl hl.1 rfl hcatk hd hroom
                  exact ab_call_sim hcond hP hD hS hl hlen hfix hn1 hn2 hA hr k1
              · cases hs
            · cases hs
          · cases hs
        · cases hs
      · cases hs
    · rw [if_neg hk34] at hs
      cases hs
end ABH
end
section
/-! multianewarray, of two dimensions -/
theorem vr_outer (c : ClassId) (N h0 : Nat) : ∀ i : Nat, Jvm.Free.Multi.outerC c N h0 i = arrV c N (fun j => va_rf (if j < i then some (h0 + 1 + j) else none))
  | 0 => by
    show ({ cls := c, slots := Array.replicate N .null, vm := .none } : Cell) = _
    rw [arrV_new]
    refine congrArg (arrV c N) (funext fun j => ?_)
    simp [va_rf]
  | i + 1 => by
    show (Jvm.Free.Multi.outerC c N h0 i).setSlot i (.ref (h0 + 1 + i)) = _
    rw [vr_outer c N h0 i, arrV_store]
    refine congrArg (arrV c N) (funext fun j => ?_)
    by_cases e : j = i
    · subst e
      simp [updV, va_rf]
    · by_cases h : j < i
      · simp [updV, e, h, Nat.lt_succ_of_lt h]
      · simp [updV, e, h, show ¬ j < i + 1 by omega]
theorem ab_mw3 : Cond.classLink (ab_C 3) 33 "[[I" ∈ ab_BIG := ab_has_mem (q := (1, 52)) (by decide +kernel)
theorem ab_mw5 : Cond.classLink (ab_C 5) 18 "[[I" ∈ ab_BIG := ab_has_mem (q := (2, 15)) (by decide +kernel)
section ABJ
variable {p : Program} {l : Launch} {e : Env} {R : Room} {s : State} {m : MethodId} {args : Array Value} {below : List Frame} {meth : Method} {c : Code} {Q : State → Prop} {A : Nat → Prop} {D : va_G} {y : Nat → ClassId} {nL : Nat} {ad0 : Nat → Nat} {h0 : ab_H} {cc : ByteArray} {pc : Nat} {L : ab_L} {S : List Value} {h : ab_H}
theorem ab_mna_get {N K i : Nat} : (ab_mna h N K).1[ab_nx h + i]? = ((14, N, (List.range N).map (fun i => some (ab_nx h + 1 + i))) :: List.replicate N (10, K, ([] : List (Option Nat))))[i]? := by
  show (h.1 ++ _)[h.1.length + i]? = _
  rw [List.getElem?_append_right (Nat.le_add_right _ _), Nat.add_sub_cancel_left]
  rfl
def ab_ad2 (ad : Nat → Nat) (n N q : Nat) : Nat → Nat := fun o => if n ≤ o ∧ o < n + 1 + N then q + (o - n) else ad o
set_option maxHeartbeats 1000000 in
theorem abs_mna (hx : p.tables.exec = Jvm.exec) (hb : c.code = cc) {own i : Nat} {n k : Int32} (hown : s.vm.findClass (ab_C own) = some m.cls) (hts : ∀ w ∈ ab_BIG, w.before args s = true) (hA : ∀ q, s.heap.size ≤ q → A q) (hE : ab_EF D y s) (hw1 : Cond.classLink (ab_C own) i "[[I" ∈ ab_BIG) (h0n : 0 ≤ n) (h0k : 0 ≤ k) (hn1k : n.toNatClampNeg ≤ 1000) (hk1k : k.toNatClampNeg ≤ 1000) (h1000 : ab_nx h + n.toNatClampNeg < 1000) (hL : L.all (fun v => (v.map (ab_ok (ab_nx h))).getD true) = true) (hSS : S.all (ab_ok (ab_nx h)) = true)
    (hR : ab_nx h + (1 + n.toNatClampNeg) - ab_nx h0 ≤ R.cells ∧ ab_sl h + (n.toNatClampNeg + n.toNatClampNeg * k.toNatClampNeg) - ab_sl h0 ≤ R.slots) (hd : decode cc pc = .ok (.multianewarray i 2, 4)) (k1 : ab_Sim p l e R s m args below meth c Q A D y nL ad0 h0 (pc + 4, L, .ref (ab_nx h) :: S, ab_mna h n.toNatClampNeg k.toNatClampNeg)) : ab_Sim p l e R s m args below meth c Q A D y nL ad0 h0 (pc, L, .int k :: .int n :: S, h) := by
  intro ad H locs ls hP hD hS hw hl hlen hfix hn1 hn2
  have hn1 : ab_nx h0 ≤ ab_nx h := hn1
  have hn2 : ab_sl h0 ≤ ab_sl h := hn2
  intro T hT Xs
  obtain ⟨vm₁, cA, comp, -, fA, fC, hO, -, X', step⟩ := Xs.multianewarray2F (ty := .int) hx hown (hts _ hw1) hE.2.2.2 (hts _ ab_arrI) (g := F0 m pc ls (.int k :: .int n :: S.map (ab_cv ad))) rfl (by rw [hb]; exact hd) rfl (Int32.not_lt.mpr h0n) (Int32.not_lt.mpr h0k) (by omega) (by show k.toNatClampNeg * 4 ≤ _; omega) (by omega) rfl rfl (by show ab_nx h - ab_nx h0 + _ ≤ _; omega) (by show ab_sl h - ab_sl h0 + _ ≤ _; omega)
  generalize hN : n.toNatClampNeg = N at *
  generalize hK : k.toNatClampNeg = K at *
  have hRA := (hE.1.2 4 _ rfl).2
  have hRI := (hE.1.2 0 _ rfl).2
  have ecA : cA = y 14 := Option.some.inj (fA.symm.trans hRA)
  have eco : comp = y 10 := Option.some.inj (fC.symm.trans hRI)
  subst ecA
  subst eco
  generalize hF : Jvm.Free.Multi.fill (T.setVm vm₁) (y 14) (y 10) N K (defaultValue .int) N = F at X' step
  have hTh : (T.setVm vm₁).heap = H := hT
  obtain ⟨f1, f2, -, -⟩ := Jvm.Free.Multi.fill_facts (T.setVm vm₁) (y 14) (y 10) N K (defaultValue .int) N
  rw [hF, hTh] at f1 f2
  have hold : ∀ x : Nat, x < H.size → F.heap[x]? = H[x]? := fun x hx => by
    have := Jvm.Free.Multi.fill_old (T.setVm vm₁) (y 14) (y 10) N K (defaultValue .int) (a := x) (by rw [hTh]; exact hx) N
    rw [hF, hTh] at this
    exact this
  have hrow : ∀ j : Nat, j < N → F.heap[H.size + 1 + j]? = some (vp_cell (y 10) (K, .inl (fun _ => 0))) := fun j hj => by
    have := Jvm.Free.Multi.fill_inner (T.setVm vm₁) (y 14) (y 10) N K (defaultValue .int) N j hj
    rw [hF, hTh] at this
    rw [this, vp_cell_i, ← arrV_new]
    rfl
  have hout : F.heap[H.size]? = some (vp_cell (y 14) (N, .inr (.inr (.inr (.inr (fun i => if i < N then some (H.size + 1 + i) else none)))))) := by
    rw [f2, vp_cell_q, vr_outer]
  let ad' := ab_ad2 ad (ab_nx h) N H.size
  have had : ad' = ab_ad2 ad (ab_nx h) N H.size := rfl
  have hfe : ∀ o, o < ab_nx h ∨ 1000 ≤ o → ad' o = ad o := fun o ho => if_neg (by omega)
  have hnew : ∀ j, j < N + 1 → ad' (ab_nx h + j) = H.size + j := by
    intro j hj
    rw [had]
    unfold ab_ad2
    rw [if_pos (by omega)]
    omega
  have hns : ((14, N, (List.range N).map (fun i => some (h.1.length + 1 + i))) :: List.replicate N (10, K, ([] : List (Option Nat)))).length = N + 1 := by simp
  have hcell : ∀ j, j < N + 1 → F.heap[H.size + j]? = some (vp_cell (y (if j = 0 then 14 else 10)) (if j = 0 then (N, .inr (.inr (.inr (.inr (fun i => if i < N then some (H.size + 1 + i) else none))))) else (K, .inl (fun _ => 0)))) := by
    intro j hj
    cases j with
    | zero => exact hout
    | succ j =>
      have := hrow j (by omega)
      rw [show H.size + (j + 1) = H.size + 1 + j by omega, this]
      rfl
  have hab : ∀ j, j < N + 1 → ab_cell y ad' (ab_mna h N K) (ab_nx h + j) = .inl (y (if j = 0 then 14 else 10), (if j = 0 then (N, .inr (.inr (.inr (.inr (fun i => if i < N then some (H.size + 1 + i) else none))))) else (K, .inl (fun _ => 0)))) := by
    intro j hj
    cases j with
    | zero =>
      have eg := ab_mna_get (h := h) (N := N) (K := K) (i := 0)
      rw [List.getElem?_cons_zero] at eg
      have k14 : ab_kd (ab_mna h N K) (ab_nx h + 0) = 14 := by unfold ab_kd; rw [eg]; rfl
      rw [ab_cell_rfs k14 (Or.inl rfl)]
      have e1 : ab_ln (ab_mna h N K) (ab_nx h + 0) = N := by unfold ab_ln; rw [eg]; rfl
      rw [e1, if_pos rfl, if_pos rfl]
      refine ab_rfs_congr (fun j => ?_)
      have e2 : ab_rf (ab_mna h N K) (ab_nx h + 0) j = if j < N then some (ab_nx h + 1 + j) else none := by
        unfold ab_rf
        rw [eg]
        show ((List.range N).map (fun i => some (ab_nx h + 1 + i))).getD j none = _
        rw [List.getD_eq_getElem?_getD, List.getElem?_map]
        by_cases hj2 : j < N
        · rw [List.getElem?_range hj2, if_pos hj2]; rfl
        · rw [if_neg hj2, List.getElem?_eq_none (by rw [List.length_range]; omega)]; rfl
      rw [e2]
      by_cases hj2 : j < N
      · rw [if_pos hj2, if_pos hj2]
        have := hnew (1 + j) (by omega)
        show some (ad' (ab_nx h + 1 + j)) = _
        rw [show ab_nx h + 1 + j = ab_nx h + (1 + j) by omega, this]
        congr 1
        omega
      · rw [if_neg hj2, if_neg hj2]
        rfl
    | succ j =>
      have eg := ab_mna_get (h := h) (N := N) (K := K) (i := j + 1)
      rw [List.getElem?_cons_succ, List.getElem?_replicate, if_pos (by omega)] at eg
      have k10 : ab_kd (ab_mna h N K) (ab_nx h + (j + 1)) = 10 := by unfold ab_kd; rw [eg]; rfl
      rw [ab_cell_arr k10 (by omega) (by omega) (by omega) (by omega)]
      have e1 : ab_ln (ab_mna h N K) (ab_nx h + (j + 1)) = K := by unfold ab_ln; rw [eg]; rfl
      rw [e1, if_neg (by omega), if_neg (by omega)]
      have e3 : (ab_mna h N K).2.1 (ab_nx h + (j + 1)) = fun _ => 0 := funext fun q => if_neg (by show ¬ ab_nx h + (j + 1) < ab_nx h; omega)
      rw [e3]
  have hws : ab_ws y ad' (ab_mna h N K) = ab_ws y ad h ++ (List.range (N + 1)).map (fun i => (ad' (ab_nx h + i), ab_cell y ad' (ab_mna h N K) (ab_nx h + i))) := by
    have := ab_ws_add (y := y) (h := h) (ns := (14, N, (List.range N).map (fun i => some (h.1.length + 1 + i))) :: List.replicate N (10, K, [])) (ad := ad) (ad' := ad') hw (fun o ho => hfe o (Or.inl ho))
    rw [hns] at this
    exact this
  have hget : ∀ (k9 : Nat) (x : Nat × va_E), ((List.range (N + 1)).map (fun i => (ad' (ab_nx h + i), ab_cell y ad' (ab_mna h N K) (ab_nx h + i))))[k9]? = some x → k9 < N + 1 ∧ x.1 = H.size + k9 ∧ x.2 = ab_cell y ad' (ab_mna h N K) (ab_nx h + k9) := by
    intro k9 x hx
    rw [List.getElem?_map] at hx
    by_cases h9 : k9 < N + 1
    · rw [List.getElem?_range h9] at hx
      cases hx
      exact ⟨h9, hnew k9 h9, rfl⟩
    · rw [List.getElem?_eq_none (by rw [List.length_range]; omega)] at hx
      cases hx
  have hP1 : va_P D vwCl (ab_ws y ad' (ab_mna h N K)) F.heap := by
    rw [hws]
    refine (hP.kept (fun k9 x hx => hold x.1 ((hP k9 x hx).lt))).app (fun k9 x hx => ?_)
    obtain ⟨g1, g2, g3⟩ := hget k9 x hx
    obtain ⟨xa, xe⟩ := x
    simp only at g2 g3
    subst g2
    subst g3
    rw [hab k9 g1]
    exact hcell k9 g1
  have hD1 : va_D A (ab_ws y ad' (ab_mna h N K)) := by
    rw [hws]
    refine hD.app ⟨fun a b x z hx hz e => ?_, fun k9 x hx => ?_⟩ (fun a b x z hx hz e => ?_)
    · have g1 := (hget a x hx).2.1
      have g2 := (hget b z hz).2.1
      omega
    · rw [(hget k9 x hx).2.1]
      exact hA _ (by have := hS.1; omega)
    · have g1 := (hP a x hx).lt
      have g2 := (hget b z hz).2.1
      omega
  have eN : ab_nx (ab_mna h N K) = ab_nx h + (N + 1) := by
    show (h.1 ++ _).length = _
    rw [List.length_append, hns]
    rfl
  have eS : ab_sl (ab_mna h N K) = ab_sl h + (N + N * K) := by
    show ab_sl (ab_add h _) = _
    rw [ab_sl_add]
    simp
  have k2 := k1 ad' F.heap locs ls hP1 hD1 ⟨by rw [f1]; have := hS.1; omega, fun x h1 h2 => (hold x (Nat.lt_of_lt_of_le h1 hS.1)).trans (hS.2.1 x h1 h2), hS.2.2⟩ (ab_add_wf hw (fun x hx2 j r hr => by
      rw [hns]
      rcases List.mem_cons.mp hx2 with rfl | hx2
      · rw [List.getD_eq_getElem?_getD, List.getElem?_map] at hr
        by_cases hj2 : j < N
        · rw [List.getElem?_range hj2] at hr
          cases hr
          show ab_nx h + 1 + j < _
          omega
        · rw [List.getElem?_eq_none (by rw [List.length_range]; omega)] at hr
          cases hr
      · rw [List.mem_replicate] at hx2
        rw [hx2.2] at hr
        simp at hr)) (ab_has_weak hl (ab_ok_L hL hfe)) hlen (ab_fx_ad hfix hn1 (by rw [hns]; omega) hfe) (by show ab_nx h0 ≤ ab_nx (ab_mna h N K); omega) (by show ab_sl h0 ≤ ab_sl (ab_mna h N K); omega)
  have e1 : ab_nx (pc + 4, L, Value.ref (ab_nx h) :: S, ab_mna h N K).2.2.2 - ab_nx h0 = ab_nx h - ab_nx h0 + 1 + N := by
    show ab_nx (ab_mna h N K) - ab_nx h0 = _
    omega
  have e2 : ab_sl (pc + 4, L, Value.ref (ab_nx h) :: S, ab_mna h N K).2.2.2 - ab_sl h0 = ab_sl h - ab_sl h0 + N + N * K := by
    show ab_sl (ab_mna h N K) - ab_sl h0 = _
    omega
  have e3 : (pc + 4, L, Value.ref (ab_nx h) :: S, ab_mna h N K).2.2.1.map (ab_cv ad') = Value.ref H.size :: S.map (ab_cv ad) := by
    show ab_cv _ (.ref (ab_nx h)) :: S.map _ = _
    rw [ab_ok_S hSS hfe]
    show Value.ref (ad' (ab_nx h)) :: _ = _
    rw [show ad' (ab_nx h) = H.size from hnew 0 (by omega)]
  rw [e1, e2, e3] at k2
  obtain ⟨t, a1, b1⟩ := k2 F rfl X'
  refine ⟨t, step t ?_, b1⟩
  have e : T.heap.size = H.size := by rw [hT]
  rw [e]
  exact a1
end ABJ
end
section
/-! ONE STEP, ALL INSTRUCTIONS -/
theorem ab_T_cls (ci : Nat) (hci : ci < 8) : ∀ k, k < ab_N ci → (ab_T ci k).1 = ab_C ci := by
  rcases (show ci = 0 ∨ ci = 1 ∨ ci = 2 ∨ ci = 3 ∨ ci = 4 ∨ ci = 5 ∨ ci = 6 ∨ ci = 7 by omega) with h | h | h | h | h | h | h | h <;> subst h <;> decide +kernel
section ABK
variable {sc : Option (List Int32)} {p : Program} {l : Launch} {e : Env} {R : Room} {s : State} {m : MethodId} {args : Array Value} {below : List Frame} {meth : Method} {c : Code} {Q : State → Prop} {A : Nat → Prop} {D : va_G} {y : Nat → ClassId} {nL : Nat} {ad0 : Nat → Nat} {h0 : ab_H} {cc : ByteArray} {pc : Nat} {L : ab_L} {S : List Value} {h : ab_H}
set_option maxHeartbeats 4000000 in
theorem ab_step_sound (hx : p.tables.exec = Jvm.exec) (hb : c.code = cc) (hml : c.maxLocals = nL) {call : Nat → List Value → ab_H → Option (Option Value × ab_H)} {own fr lc len : Nat} {ini : Bool} {ret : Option FieldType} {scr : Option (List Int32)} {ins : Instr} {F : ab_F} (hown : s.vm.findClass (ab_C own) = some m.cls) (hts : ∀ w ∈ ab_BIG, w.before args s = true) (hA : ∀ q, s.heap.size ≤ q → A q) (hE : ab_EF D y s) (hT : ab_ST sc ad0 A s s.heap) (hC : ab_CS sc l D y call) (hini : ini = true → meth.name = "<init>")
    (hsc : ∀ xs, scr = some xs → ∃ b, ad0 2000 = b ∧ va_X b xs.length (fun j => xs.getD j 0) s s.heap ∧ b < s.heap.size ∧ ¬ A b) (hlk : ab_lenok ins len = true) (hok : ab_cok own fr lc ins = true) (hRf : fr ≤ R.frames) (hRl : lc ≤ R.locals) (hd : decode cc pc = .ok (ins, len)) (hs : ab_step call own ini ret scr ins len pc L S h = some (.inl F)) (hRc : ab_nx F.2.2.2 - ab_nx h0 ≤ R.cells ∧ ab_sl F.2.2.2 - ab_sl h0 ≤ R.slots) (k1 : ab_Sim p l e R s m args below meth c Q A D y nL ad0 h0 F) : ab_Sim p l e R s m args below meth c Q A D y nL ad0 h0 (pc, L, S, h) := by
  unfold ab_step at hs
  cases ins with
  | iconst n =>
    dsimp only at hs
    have hl2 : len = 1 := by simpa [ab_lenok] using hlk
    subst hl2
    cases hs
    exact abs_iconst hx hb hd k1
  | bipush n =>
    dsimp only at hs
    have hl2 : len = 2 := by simpa [ab_lenok] using hlk
    subst hl2
    cases hs
    exact abs_bipush hx hb hd k1
  | sipush n =>
    dsimp only at hs
    have hl2 : len = 3 := by simpa [ab_lenok] using hlk
    subst hl2
    cases hs
    exact abs_sipush hx hb hd k1
  | lconst n =>
    dsimp only at hs
    have hl2 : len = 1 := by simpa [ab_lenok] using hlk
    subst hl2
    cases hs
    exact abs_lconst hx hb hd k1
  | ldc i =>
    dsimp only at hs
    have hl2 : len = 2 := by simpa [ab_lenok] using hlk
    subst hl2
    split at hs
    · rename_i v hv
      cases hs
      intro ad H locs ls hP hD hS hw hl hlen hfix hn1 hn2
      exact lv_ldc hx hb hown (hts _ (ab_kI_spec hv)) hd (k1 ad H locs ls hP hD hS hw hl hlen hfix hn1 hn2)
    · split at hs
      · rename_i k hv
        cases hs
        obtain ⟨ho4, hk12, hki⟩ := ab_kS_spec hv
        subst ho4
        intro ad H locs ls hP hD hS hw hl hlen hfix hn1 hn2
        have hR0 := hT.2.1 k hk12
        rw [hki, ← hfix.1 (1000 + k) (Or.inr (Nat.le_add_right _ _))] at hR0
        exact va_ldcS hx hb hown hR0 hd (k1 ad H locs ls hP hD hS hw hl hlen hfix hn1 hn2)
      · cases hs
  | ldc_w i =>
    dsimp only at hs
    have hl2 : len = 3 := by simpa [ab_lenok] using hlk
    subst hl2
    split at hs
    · rename_i v hv
      cases hs
      intro ad H locs ls hP hD hS hw hl hlen hfix hn1 hn2
      exact lv_ldcw hx hb hown (hts _ (ab_kI_spec hv)) hd (k1 ad H locs ls hP hD hS hw hl hlen hfix hn1 hn2)
    · cases hs
  | ldc2_w i =>
    dsimp only at hs
    have hl2 : len = 3 := by simpa [ab_lenok] using hlk
    subst hl2
    split at hs
    · rename_i v hv
      cases hs
      intro ad H locs ls hP hD hS hw hl hlen hfix hn1 hn2
      exact lv_ldc2 hx hb hown (hts _ (ab_kL_spec hv)) hd (k1 ad H locs ls hP hD hS hw hl hlen hfix hn1 hn2)
    · cases hs
  | iload_n j =>
    dsimp only at hs
    have hl2 : len = 1 := by simpa [ab_lenok] using hlk
    subst hl2
    split at hs
    · rename_i x hv
      cases hs
      exact abs_iload_n hx hb hv hd k1
    · cases hs
  | iload j =>
    dsimp only at hs
    have hl2 : len = 2 := by simpa [ab_lenok] using hlk
    subst hl2
    split at hs
    · rename_i x hv
      cases hs
      exact abs_iload hx hb hv hd k1
    · cases hs
  | lload_n j =>
    dsimp only at hs
    have hl2 : len = 1 := by simpa [ab_lenok] using hlk
    subst hl2
    split at hs
    · rename_i x hv
      cases hs
      exact abs_lload_n hx hb hv hd k1
    · cases hs
  | lload j =>
    dsimp only at hs
    have hl2 : len = 2 := by simpa [ab_lenok] using hlk
    subst hl2
    split at hs
    · rename_i x hv
      cases hs
      exact abs_lload hx hb hv hd k1
    · cases hs
  | aload j =>
    dsimp only at hs
    have hl2 : len = 2 := by simpa [ab_lenok] using hlk
    subst hl2
    split at hs
    · rename_i x hv
      cases hs
      exact abs_aload hx hb hv hd k1
    · cases hs
  | aload_n j =>
    dsimp only at hs
    have hl2 : len = 1 := by simpa [ab_lenok] using hlk
    subst hl2
    split at hs
    · rename_i x hv
      cases hs
      exact abs_aload_n hx hb hv hd k1
    · cases hs
  | istore_n j =>
    dsimp only at hs
    have hl2 : len = 1 := by simpa [ab_lenok] using hlk
    subst hl2
    split at hs
    · split at hs
      · rename_i hj
        cases hs
        exact abs_istore_n hx hb hj hd k1
      · cases hs
    · cases hs
  | istore j =>
    dsimp only at hs
    have hl2 : len = 2 := by simpa [ab_lenok] using hlk
    subst hl2
    split at hs
    · split at hs
      · rename_i hj
        cases hs
        exact abs_istore hx hb hj hd k1
      · cases hs
    · cases hs
  | astore j =>
    dsimp only at hs
    have hl2 : len = 2 := by simpa [ab_lenok] using hlk
    subst hl2
    split at hs
    · split at hs
      · rename_i hj
        cases hs
        exact abs_astore hx hb hj hd k1
      · cases hs
    · cases hs
  | lstore_n j =>
    dsimp only at hs
    have hl2 : len = 1 := by simpa [ab_lenok] using hlk
    subst hl2
    split at hs
    · split at hs
      · rename_i hj
        cases hs
        exact abs_lstore_n hx hb hj hd k1
      · cases hs
    · cases hs
  | lstore j =>
    dsimp only at hs
    have hl2 : len = 2 := by simpa [ab_lenok] using hlk
    subst hl2
    split at hs
    · split at hs
      · rename_i hj
        cases hs
        exact abs_lstore hx hb hj hd k1
      · cases hs
    · cases hs
  | astore_n j =>
    dsimp only at hs
    have hl2 : len = 1 := by simpa [ab_lenok] using hlk
    subst hl2
    split at hs
    · split at hs
      · rename_i hj
        cases hs
        exact abs_astore_n hx hb hj hd k1
      · cases hs
    · cases hs
  | iinc j n =>
    dsimp only at hs
    have hl2 : len = 3 := by simpa [ab_lenok] using hlk
    subst hl2
    split at hs
    · rename_i x hv
      split at hs
      · rename_i hj
        cases hs
        exact abs_iinc hx hb hj hv hd k1
      · cases hs
    · cases hs
  | iadd =>
    dsimp only at hs
    have hl2 : len = 1 := by simpa [ab_lenok] using hlk
    subst hl2
    split at hs
    · cases hs
      exact abs_iadd hx hb hd k1
    · cases hs
  | isub =>
    dsimp only at hs
    have hl2 : len = 1 := by simpa [ab_lenok] using hlk
    subst hl2
    split at hs
    · cases hs
      exact abs_isub hx hb hd k1
    · cases hs
  | imul =>
    dsimp only at hs
    have hl2 : len = 1 := by simpa [ab_lenok] using hlk
    subst hl2
    split at hs
    · cases hs
      exact abs_imul hx hb hd k1
    · cases hs
  | iand =>
    dsimp only at hs
    have hl2 : len = 1 := by simpa [ab_lenok] using hlk
    subst hl2
    split at hs
    · cases hs
      exact abs_iand hx hb hd k1
    · cases hs
  | ior =>
    dsimp only at hs
    have hl2 : len = 1 := by simpa [ab_lenok] using hlk
    subst hl2
    split at hs
    · cases hs
      exact abs_ior hx hb hd k1
    · cases hs
  | ixor =>
    dsimp only at hs
    have hl2 : len = 1 := by simpa [ab_lenok] using hlk
    subst hl2
    split at hs
    · cases hs
      exact abs_ixor hx hb hd k1
    · cases hs
  | ishl =>
    dsimp only at hs
    have hl2 : len = 1 := by simpa [ab_lenok] using hlk
    subst hl2
    split at hs
    · cases hs
      exact abs_ishl hx hb hd k1
    · cases hs
  | ishr =>
    dsimp only at hs
    have hl2 : len = 1 := by simpa [ab_lenok] using hlk
    subst hl2
    split at hs
    · cases hs
      exact abs_ishr hx hb hd k1
    · cases hs
  | iushr =>
    dsimp only at hs
    have hl2 : len = 1 := by simpa [ab_lenok] using hlk
    subst hl2
    split at hs
    · cases hs
      exact abs_iushr hx hb hd k1
    · cases hs
  | lshr =>
    dsimp only at hs
    have hl2 : len = 1 := by simpa [ab_lenok] using hlk
    subst hl2
    split at hs
    · cases hs
      exact abs_lshr hx hb hd k1
    · cases hs
  | ladd =>
    dsimp only at hs
    have hl2 : len = 1 := by simpa [ab_lenok] using hlk
    subst hl2
    split at hs
    · cases hs
      exact abs_ladd hx hb hd k1
    · cases hs
  | lsub =>
    dsimp only at hs
    have hl2 : len = 1 := by simpa [ab_lenok] using hlk
    subst hl2
    split at hs
    · cases hs
      exact abs_lsub hx hb hd k1
    · cases hs
  | lmul =>
    dsimp only at hs
    have hl2 : len = 1 := by simpa [ab_lenok] using hlk
    subst hl2
    split at hs
    · cases hs
      exact abs_lmul hx hb hd k1
    · cases hs
  | lneg =>
    dsimp only at hs
    have hl2 : len = 1 := by simpa [ab_lenok] using hlk
    subst hl2
    split at hs
    · cases hs
      exact abs_lneg hx hb hd k1
    · cases hs
  | lcmp =>
    dsimp only at hs
    have hl2 : len = 1 := by simpa [ab_lenok] using hlk
    subst hl2
    split at hs
    · cases hs
      exact abs_lcmp hx hb hd k1
    · cases hs
  | i2l =>
    dsimp only at hs
    have hl2 : len = 1 := by simpa [ab_lenok] using hlk
    subst hl2
    split at hs
    · cases hs
      exact abs_i2l hx hb hd k1
    · cases hs
  | l2i =>
    dsimp only at hs
    have hl2 : len = 1 := by simpa [ab_lenok] using hlk
    subst hl2
    split at hs
    · cases hs
      exact abs_l2i hx hb hd k1
    · cases hs
  | i2b =>
    dsimp only at hs
    have hl2 : len = 1 := by simpa [ab_lenok] using hlk
    subst hl2
    split at hs
    · cases hs
      exact abs_i2b hx hb hd k1
    · cases hs
  | i2s =>
    dsimp only at hs
    have hl2 : len = 1 := by simpa [ab_lenok] using hlk
    subst hl2
    split at hs
    · cases hs
      exact abs_i2s hx hb hd k1
    · cases hs
  | irem =>
    dsimp only at hs
    have hl2 : len = 1 := by simpa [ab_lenok] using hlk
    subst hl2
    split at hs
    · split at hs
      · cases hs
      · rename_i hne
        cases hs
        exact abs_irem hx hb hne hd k1
    · cases hs
  | idiv =>
    dsimp only at hs
    have hl2 : len = 1 := by simpa [ab_lenok] using hlk
    subst hl2
    split at hs
    · split at hs
      · cases hs
      · rename_i hne
        cases hs
        exact abs_idiv hx hb hne hd k1
    · cases hs
  | ldiv =>
    dsimp only at hs
    have hl2 : len = 1 := by simpa [ab_lenok] using hlk
    subst hl2
    split at hs
    · split at hs
      · cases hs
      · rename_i hne
        cases hs
        exact abs_ldiv hx hb hne hd k1
    · cases hs
  | dup =>
    dsimp only at hs
    have hl2 : len = 1 := by simpa [ab_lenok] using hlk
    subst hl2
    split at hs
    · split at hs
      · rename_i hcat
        cases hs
        exact abs_dup hx hb hcat hd k1
      · cases hs
    · cases hs
  | pop =>
    dsimp only at hs
    have hl2 : len = 1 := by simpa [ab_lenok] using hlk
    subst hl2
    split at hs
    · split at hs
      · rename_i hcat
        cases hs
        exact abs_pop hx hb hcat hd k1
      · cases hs
    · cases hs
  | pop2 =>
    dsimp only at hs
    have hl2 : len = 1 := by simpa [ab_lenok] using hlk
    subst hl2
    split at hs
    · split at hs
      · rename_i hcat
        cases hs
        exact abs_pop2 hx hb hcat hd k1
      · cases hs
    · cases hs
  | dup2 =>
    dsimp only at hs
    have hl2 : len = 1 := by simpa [ab_lenok] using hlk
    subst hl2
    split at hs
    · split at hs
      · rename_i hcat
        cases hs
        exact abs_dup2 hx hb hcat.1 hcat.2 hd k1
      · cases hs
    · cases hs
  | if_icmp o off =>
    dsimp only at hs
    have hl2 : len = 3 := by simpa [ab_lenok] using hlk
    subst hl2
    split at hs
    · split at hs
      · rename_i g1
        cases hs
        exact abs_icmp hx hb hd g1 k1
      · cases hs
    · cases hs
  | ifCond o off =>
    dsimp only at hs
    have hl2 : len = 3 := by simpa [ab_lenok] using hlk
    subst hl2
    split at hs
    · split at hs
      · rename_i g1
        cases hs
        exact abs_ifc hx hb hd g1 k1
      · cases hs
    · cases hs
  | goto off =>
    dsimp only at hs
    have hl2 : len = 3 := by simpa [ab_lenok] using hlk
    subst hl2
    exact abs_goto hx hb hd hs k1
  | tableswitch dflt lo hi offs =>
    dsimp only at hs
    split at hs
    · exact abs_tbl hx hb hd hs k1
    · cases hs
  | lookupswitch dflt ps =>
    dsimp only at hs
    split at hs
    · split at hs
      · rename_i hp
        exact abs_lks hx hb hd hp hs k1
      · cases hs
    · cases hs
  | getfield i =>
    dsimp only at hs
    have hl2 : len = 3 := by simpa [ab_lenok] using hlk
    subst hl2
    split at hs
    · rename_i ci k o S2 hf
      split at hs
      · rename_i hcc
        simp only [Bool.and_eq_true, decide_eq_true_eq] at hcc
        cases hs
        exact abs_getf hx hb hown hts hE hf hcc.1.1 hcc.1.2 hcc.2 hd k1
      · cases hs
    · cases hs
  | putfield i =>
    dsimp only at hs
    have hl2 : len = 3 := by simpa [ab_lenok] using hlk
    subst hl2
    split at hs
    · rename_i ci k v o S2 hf
      split at hs
      · rename_i hcc
        simp only [Bool.and_eq_true, Bool.or_eq_true, Bool.not_eq_true', decide_eq_true_eq] at hcc
        obtain ⟨⟨⟨⟨⟨⟨c1, c2⟩, c3⟩, c4⟩, c6⟩, c7⟩, c8⟩ := hcc
        cases hs
        exact abs_putf hx hb hown hts hini hE hf c1 c2 c3 c4 c6 c7 c8 (ab_T_cls ci c3 k c2) hd k1
      · cases hs
    · cases hs
  | iaload =>
    dsimp only at hs
    have hl2 : len = 1 := by simpa [ab_lenok] using hlk
    subst hl2
    split at hs
    · rename_i i o S2
      split at hs
      · rename_i ho
        subst ho
        split at hs
        · rename_i xs
          split at hs
          · rename_i hi
            cases hs
            obtain ⟨b, hb0, hX, hbl, hbA⟩ := hsc xs rfl
            intro ad H locs ls hP hD hS hw hl hlen hfix hn1 hn2
            have e20 : ad 2000 = b := (hfix.1 2000 (Or.inr (by omega))).trans hb0
            show W p l e R s m args below meth c H locs _ _ Q (F0 m pc ls (.int i :: .ref (ad 2000) :: S2.map (ab_cv ad)))
            rw [e20]
            exact va_sld hx hb hX hbl hbA hS (ab_in_vp hi) hd (k1 ad H locs ls hP hD hS hw hl hlen hfix hn1 hn2)
          · cases hs
        · cases hs
      · split at hs
        · rename_i hcc
          rw [Bool.and_eq_true] at hcc
          cases hs
          exact abs_iaload hx hb hE hcc.1 hcc.2 hd k1
        · cases hs
    · cases hs
  | baload =>
    dsimp only at hs
    have hl2 : len = 1 := by simpa [ab_lenok] using hlk
    subst hl2
    split at hs
    · split at hs
      · rename_i hcc
        rw [Bool.and_eq_true, Bool.or_eq_true] at hcc
        cases hs
        rcases hcc.1 with z | z
        · exact abs_baload_z hx hb hE z hcc.2 hd k1
        · exact abs_baload_b hx hb hE z hcc.2 hd k1
      · cases hs
    · cases hs
  | laload =>
    dsimp only at hs
    have hl2 : len = 1 := by simpa [ab_lenok] using hlk
    subst hl2
    split at hs
    · split at hs
      · rename_i hcc
        rw [Bool.and_eq_true] at hcc
        cases hs
        exact abs_laload hx hb hE hcc.1 hcc.2 hd k1
      · cases hs
    · cases hs
  | aaload =>
    dsimp only at hs
    have hl2 : len = 1 := by simpa [ab_lenok] using hlk
    subst hl2
    split at hs
    · split at hs
      · rename_i hcc
        rw [Bool.and_eq_true, Bool.or_eq_true] at hcc
        cases hs
        rcases hcc.1 with z | z
        · exact abs_aald14 hx hb hE z hcc.2 hd k1
        · exact abs_aald15 hx hb hE z hcc.2 hd k1
      · cases hs
    · cases hs
  | iastore =>
    dsimp only at hs
    have hl2 : len = 1 := by simpa [ab_lenok] using hlk
    subst hl2
    split at hs
    · split at hs
      · rename_i hcc
        rw [Bool.and_eq_true] at hcc
        cases hs
        exact abs_iastore hx hb hE hcc.1 hcc.2 hd k1
      · cases hs
    · cases hs
  | lastore =>
    dsimp only at hs
    have hl2 : len = 1 := by simpa [ab_lenok] using hlk
    subst hl2
    split at hs
    · split at hs
      · rename_i hcc
        rw [Bool.and_eq_true] at hcc
        cases hs
        exact abs_lastore hx hb hE hcc.1 hcc.2 hd k1
      · cases hs
    · cases hs
  | bastore =>
    dsimp only at hs
    have hl2 : len = 1 := by simpa [ab_lenok] using hlk
    subst hl2
    split at hs
    · split at hs
      · rename_i hcc
        rw [Bool.and_eq_true, Bool.or_eq_true] at hcc
        cases hs
        rcases hcc.1 with z | z
        · rw [if_pos (ab_refs z).2] at k1
          exact abs_bastore_z hx hb hE z hcc.2 hd k1
        · rw [if_neg (by rw [(ab_refs z).2]; decide)] at k1
          exact abs_bastore_b hx hb hE z hcc.2 hd k1
      · cases hs
    · cases hs
  | aastore =>
    dsimp only at hs
    have hl2 : len = 1 := by simpa [ab_lenok] using hlk
    subst hl2
    split at hs
    · split at hs
      · rename_i hcc
        simp only [Bool.and_eq_true, decide_eq_true_eq] at hcc
        cases hs
        exact abs_aast hx hb hE hcc.1.1.1 hcc.1.1.2 hcc.1.2 hcc.2 hd k1
      · cases hs
    · cases hs
  | arraylength =>
    dsimp only at hs
    have hl2 : len = 1 := by simpa [ab_lenok] using hlk
    subst hl2
    split at hs
    · rename_i o S2
      split at hs
      · rename_i ho
        subst ho
        split at hs
        · rename_i xs
          cases hs
          obtain ⟨b, hb0, hX, hbl, hbA⟩ := hsc xs rfl
          intro ad H locs ls hP hD hS hw hl hlen hfix hn1 hn2
          have e20 : ad 2000 = b := (hfix.1 2000 (Or.inr (by omega))).trans hb0
          show W p l e R s m args below meth c H locs _ _ Q (F0 m pc ls (.ref (ad 2000) :: S2.map (ab_cv ad)))
          rw [e20]
          exact va_slen hx hb hX hbl hbA hS hd (k1 ad H locs ls hP hD hS hw hl hlen hfix hn1 hn2)
        · cases hs
      · cases hs
    · cases hs
  | new i =>
    dsimp only at hs
    have hl2 : len = 3 := by simpa [ab_lenok] using hlk
    subst hl2
    split at hs
    · rename_i ci hf
      split at hs
      · rename_i hcc
        rw [Bool.and_eq_true] at hcc
        cases hs
        refine abs_newobj hx hb hown hts hA hE hf hcc.1 hcc.2.1 hcc.2.2.1 hcc.2.2.2 ?_ hd k1
        have e1 := hRc.1
        have e2 := hRc.2
        have g1 : ab_nx (ab_new h ci (ab_N ci) (List.replicate (ab_N ci) none)) = ab_nx h + 1 := List.length_append
        have g2 : ab_sl (ab_new h ci (ab_N ci) (List.replicate (ab_N ci) none)) = ab_sl h + ab_N ci := by
          show ab_sl (ab_add h _) = _
          rw [ab_sl_add]
          simp
        rw [← g1, ← g2]
        exact ⟨e1, e2⟩
      · cases hs
    · cases hs
  | newarray ty =>
    dsimp only at hs
    have hl2 : len = 2 := by simpa [ab_lenok] using hlk
    subst hl2
    split at hs
    · rename_i n S2
      unfold ab_newarr at hs
      split at hs
      · rename_i hcc
        rw [Bool.and_eq_true] at hcc
        have key : ∀ (kd : Nat), ab_nx (ab_new h kd n.toNatClampNeg []) - ab_nx h0 ≤ R.cells ∧ ab_sl (ab_new h kd n.toNatClampNeg []) - ab_sl h0 ≤ R.slots → ab_nx h + 1 - ab_nx h0 ≤ R.cells ∧ ab_sl h + n.toNatClampNeg - ab_sl h0 ≤ R.slots := by
          intro kd hz
          have g1 : ab_nx (ab_new h kd n.toNatClampNeg []) = ab_nx h + 1 := List.length_append
          have g2 : ab_sl (ab_new h kd n.toNatClampNeg []) = ab_sl h + n.toNatClampNeg := by
            show ab_sl (ab_add h _) = _
            rw [ab_sl_add]
            simp
          rw [← g1, ← g2]
          exact hz
        split at hs
        · cases hs
          exact abs_newarr hx hb hts hA hE (Or.inl ⟨rfl, rfl, rfl, rfl⟩) hcc.1 hcc.2.1 hcc.2.2.1 hcc.2.2.2.1 hcc.2.2.2.2 (key 10 hRc) hd k1
        · cases hs
          exact abs_newarr hx hb hts hA hE (Or.inr (Or.inl ⟨rfl, rfl, rfl, rfl⟩)) hcc.1 hcc.2.1 hcc.2.2.1 hcc.2.2.2.1 hcc.2.2.2.2 (key 11 hRc) hd k1
        · cases hs
          exact abs_newarr hx hb hts hA hE (Or.inr (Or.inr (Or.inl ⟨rfl, rfl, rfl, rfl⟩))) hcc.1 hcc.2.1 hcc.2.2.1 hcc.2.2.2.1 hcc.2.2.2.2 (key 12 hRc) hd k1
        · cases hs
          exact abs_newarr hx hb hts hA hE (Or.inr (Or.inr (Or.inr ⟨rfl, rfl, rfl, rfl⟩))) hcc.1 hcc.2.1 hcc.2.2.1 hcc.2.2.2.1 hcc.2.2.2.2 (key 13 hRc) hd k1
        · cases hs
      · cases hs
    · cases hs
  | anewarray i =>
    dsimp only at hs
    have hl2 : len = 3 := by simpa [ab_lenok] using hlk
    subst hl2
    split at hs
    · rename_i ci n S2 hf
      split at hs
      · rename_i hcc
        obtain ⟨hc3, h0n, h1k, h1000, hall⟩ := hcc
        rw [Bool.and_eq_true] at hall
        subst hc3
        cases hs
        refine abs_anew hx hb hown hts hA hE hf h0n h1k h1000 hall.1 hall.2 ?_ hd k1
        have g1 : ab_nx (ab_new h 15 n.toNatClampNeg (List.replicate n.toNatClampNeg none)) = ab_nx h + 1 := List.length_append
        have g2 : ab_sl (ab_new h 15 n.toNatClampNeg (List.replicate n.toNatClampNeg none)) = ab_sl h + n.toNatClampNeg := by
          show ab_sl (ab_add h _) = _
          rw [ab_sl_add]
          simp
        rw [← g1, ← g2]
        exact hRc
      · cases hs
    · cases hs
  | multianewarray i d =>
    dsimp only at hs
    have hl2 : len = 4 := by simpa [ab_lenok] using hlk
    subst hl2
    split at hs
    · rename_i k n S2
      split at hs
      · rename_i hcc
        obtain ⟨hd2, hwi, h0n, h0k, hn1k, hk1k, h1000, hall⟩ := hcc
        rw [Bool.and_eq_true] at hall
        subst hd2
        cases hs
        have hw1 : Cond.classLink (ab_C own) i "[[I" ∈ ab_BIG := by
          rcases hwi with ⟨rfl, rfl⟩ | ⟨rfl, rfl⟩
          · exact ab_mw3
          · exact ab_mw5
        refine abs_mna hx hb hown hts hA hE hw1 h0n h0k hn1k hk1k h1000 hall.1 hall.2 ?_ hd k1
        have g1 : ab_nx (ab_mna h n.toNatClampNeg k.toNatClampNeg) = ab_nx h + (1 + n.toNatClampNeg) := by
          show (h.1 ++ _).length = _
          rw [List.length_append]
          simp [ab_nx]
          omega
        have g2 : ab_sl (ab_mna h n.toNatClampNeg k.toNatClampNeg) = ab_sl h + (n.toNatClampNeg + n.toNatClampNeg * k.toNatClampNeg) := by
          show ab_sl (ab_add h _) = _
          rw [ab_sl_add]
          simp
        rw [← g1, ← g2]
        exact hRc
      · cases hs
    · cases hs
  | ireturn =>
    dsimp only at hs
    unfold ab_ret at hs
    split at hs
    · split at hs
      · split at hs
        · cases hs
        · cases hs
      · cases hs
    · cases hs
  | lreturn =>
    dsimp only at hs
    split at hs
    · split at hs
      · cases hs
      · cases hs
    · cases hs
  | return_ =>
    dsimp only at hs
    split at hs
    · split at hs
      · cases hs
      · cases hs
    · cases hs
  | invokevirtual i =>
    dsimp only at hs
    have hl2 : len = 3 := by simpa [ab_lenok] using hlk
    subst hl2
    exact abs_inv (virt := true) hx hb hml hown hts hA hE hT hC hok hRf hRl hd hs hRc k1
  | invokestatic i =>
    dsimp only at hs
    have hl2 : len = 3 := by simpa [ab_lenok] using hlk
    subst hl2
    exact abs_inv (virt := false) hx hb hml hown hts hA hE hT hC hok hRf hRl hd hs hRc k1
  | invokespecial i =>
    dsimp only at hs
    have hl2 : len = 3 := by simpa [ab_lenok] using hlk
    subst hl2
    exact abs_spc hx hb hml hown hts hA hE hT hC hok hRf hRl hd hs hRc k1
  | _ =>
    dsimp only at hs
    cases hs
end ABK
end
section
/-! RUNS AND METHODS -/
theorem ab_go_mono {pc : Nat} {off : Int} {L : ab_L} {S : List Value} {h : ab_H} {F : ab_F} (hg : ab_go pc off L S h = some (.inl F)) : ab_nx h ≤ ab_nx F.2.2.2 ∧ ab_sl h ≤ ab_sl F.2.2.2 := by
  obtain ⟨-, rfl⟩ := ab_goto_sim hg
  exact ⟨Nat.le_refl _, Nat.le_refl _⟩
theorem ab_call_mono {call : Nat → List Value → ab_H → Option (Option Value × ab_H)} {mi pc : Nat} {vs rest : List Value} {L : ab_L} {h : ab_H} {F : ab_F} (hs : ab_call call mi vs pc L rest h = some (.inl F)) : ab_nx h ≤ ab_nx F.2.2.2 ∧ ab_sl h ≤ ab_sl F.2.2.2 := by
  unfold ab_call at hs
  split at hs
  · split at hs
    · rename_i rv h' hcl
      split at hs
      · rename_i hc
        cases hs
        rcases hc with z | z
        · exact ⟨Nat.le_of_eq z.1.symm, Nat.le_of_eq z.2.symm⟩
        · exact ⟨z.1, z.2.1⟩
      · cases hs
    · cases hs
  · cases hs
theorem ab_inv_mono {call : Nat → List Value → ab_H → Option (Option Value × ab_H)} {own i pc : Nat} {virt : Bool} {L : ab_L} {S : List Value} {h : ab_H} {F : ab_F} (hs : ab_inv call own i virt pc L S h = some (.inl F)) : ab_nx h ≤ ab_nx F.2.2.2 ∧ ab_sl h ≤ ab_sl F.2.2.2 := by
  unfold ab_inv at hs
  repeat' (first | (cases hs; done) | exact ab_call_mono hs | (cases hs; exact ⟨Nat.le_refl _, Nat.le_refl _⟩) | split at hs)
theorem ab_spc_mono {call : Nat → List Value → ab_H → Option (Option Value × ab_H)} {own i pc : Nat} {L : ab_L} {S : List Value} {h : ab_H} {F : ab_F} (hs : ab_spc call own i pc L S h = some (.inl F)) : ab_nx h ≤ ab_nx F.2.2.2 ∧ ab_sl h ≤ ab_sl F.2.2.2 := by
  unfold ab_spc at hs
  repeat' (first | (cases hs; done) | exact ab_call_mono hs | (cases hs; exact ⟨Nat.le_refl _, Nat.le_refl _⟩) | split at hs)
theorem ab_add_mono {h : ab_H} (ns : List (Nat × Nat × List (Option Nat))) : ab_nx h ≤ ab_nx (ab_add h ns) ∧ ab_sl h ≤ ab_sl (ab_add h ns) := by
  have e : ab_nx (ab_add h ns) = ab_nx h + ns.length := List.length_append
  rw [e, ab_sl_add]
  exact ⟨Nat.le_add_right _ _, Nat.le_add_right _ _⟩
set_option maxHeartbeats 4000000 in
theorem ab_step_mono {call : Nat → List Value → ab_H → Option (Option Value × ab_H)} {own len pc : Nat} {ini : Bool} {ret : Option FieldType} {scr : Option (List Int32)} {ins : Instr} {L : ab_L} {S : List Value} {h : ab_H} {F : ab_F} (hs : ab_step call own ini ret scr ins len pc L S h = some (.inl F)) : ab_nx h ≤ ab_nx F.2.2.2 ∧ ab_sl h ≤ ab_sl F.2.2.2 := by
  unfold ab_step at hs
  split at hs
  all_goals (repeat' (first | (cases hs; done) | exact ab_go_mono hs | exact ab_inv_mono hs | exact ab_spc_mono hs | (cases hs; exact ⟨Nat.le_refl _, Nat.le_refl _⟩) | (cases hs; exact ⟨Nat.le_of_eq (ab_setv_shape _ _ _).1.symm, Nat.le_of_eq (ab_setv_shape _ _ _).2.2.2.symm⟩) | (cases hs; exact ⟨Nat.le_of_eq (ab_setv_shape (h := h) _ _ (.ref _)).1.symm, Nat.le_of_eq (ab_setv_shape (h := h) _ _ (.ref _)).2.2.2.symm⟩) | (cases hs; exact ab_add_mono _) | unfold ab_newarr at hs | unfold ab_ret at hs | split at hs))
theorem ab_ret_same {ret : Option FieldType} {S : List Value} {h : ab_H} {x : Option Value × ab_H} (hs : ab_ret ret S h = some (.inr x)) : ∃ (v : Int32) (ty : FieldType), S = [.int v] ∧ ret = some ty ∧ narrow ty (.int v) = .int v ∧ x = (some (.int v), h) := by
  unfold ab_ret at hs
  split at hs
  · rename_i v
    split at hs
    · rename_i ty
      split at hs
      · rename_i hn
        cases hs
        exact ⟨v, ty, rfl, rfl, hn, rfl⟩
      · cases hs
    · cases hs
  · cases hs
theorem ab_call_ret {call : Nat → List Value → ab_H → Option (Option Value × ab_H)} {mi pc : Nat} {vs rest : List Value} {L : ab_L} {h : ab_H} {x : Option Value × ab_H} (hs : ab_call call mi vs pc L rest h = some (.inr x)) : False := by
  unfold ab_call at hs
  repeat' (first | (cases hs; done) | split at hs)
theorem ab_go_ret {pc : Nat} {off : Int} {L : ab_L} {S : List Value} {h : ab_H} {x : Option Value × ab_H} (hs : ab_go pc off L S h = some (.inr x)) : False := by
  unfold ab_go at hs
  repeat' (first | (cases hs; done) | split at hs)
theorem ab_inv_ret {call : Nat → List Value → ab_H → Option (Option Value × ab_H)} {own i pc : Nat} {virt : Bool} {L : ab_L} {S : List Value} {h : ab_H} {x : Option Value × ab_H} (hs : ab_inv call own i virt pc L S h = some (.inr x)) : False := by
  unfold ab_inv at hs
  repeat' (first | (cases hs; done) | exact ab_call_ret hs | split at hs)
theorem ab_spc_ret {call : Nat → List Value → ab_H → Option (Option Value × ab_H)} {own i pc : Nat} {L : ab_L} {S : List Value} {h : ab_H} {x : Option Value × ab_H} (hs : ab_spc call own i pc L S h = some (.inr x)) : False := by
  unfold ab_spc at hs
  repeat' (first | (cases hs; done) | exact ab_call_ret hs | split at hs)
/-- how a method ends -/
def ab_Ends (ret : Option FieldType) (ins : Instr) (S : List Value) (h : ab_H) (x : Option Value × ab_H) : Prop :=
  (∃ (v : Int32) (ty : FieldType), ins = .ireturn ∧ S = [.int v] ∧ ret = some ty ∧ narrow ty (.int v) = .int v ∧ x = (some (.int v), h)) ∨ (∃ v : Int64, ins = .lreturn ∧ S = [.long v] ∧ ret = some .long ∧ x = (some (.long v), h)) ∨ (ins = .return_ ∧ S = [] ∧ ret = none ∧ x = (none, h))
set_option maxHeartbeats 4000000 in
theorem ab_step_ret {call : Nat → List Value → ab_H → Option (Option Value × ab_H)} {own len pc : Nat} {ini : Bool} {ret : Option FieldType} {scr : Option (List Int32)} {ins : Instr} {L : ab_L} {S : List Value} {h : ab_H} {x : Option Value × ab_H} (hs : ab_step call own ini ret scr ins len pc L S h = some (.inr x)) : ab_Ends ret ins S h x := by
  cases ins with
  | ireturn =>
    have hs : ab_ret ret S h = some (.inr x) := hs
    obtain ⟨v, ty, e1, e2, e3, e4⟩ := ab_ret_same hs
    exact Or.inl ⟨v, ty, rfl, e1, e2, e3, e4⟩
  | lreturn =>
    unfold ab_step at hs
    dsimp only at hs
    split at hs
    · rename_i v
      split at hs
      · rename_i hr
        cases hs
        exact Or.inr (Or.inl ⟨v, rfl, rfl, hr, rfl⟩)
      · cases hs
    · cases hs
  | return_ =>
    unfold ab_step at hs
    dsimp only at hs
    split at hs
    · split at hs
      · rename_i hr
        cases hs
        exact Or.inr (Or.inr ⟨rfl, rfl, hr, rfl⟩)
      · cases hs
    · cases hs
  | _ =>
    exfalso
    unfold ab_step at hs
    dsimp only at hs
    repeat' (first | (cases hs; done) | exact ab_go_ret hs | exact ab_inv_ret hs | exact ab_spc_ret hs | unfold ab_newarr at hs | split at hs)
section ABL
variable {sc : Option (List Int32)} {p : Program} {l : Launch} {e : Env} {R : Room} {s : State} {m : MethodId} {args : Array Value} {below : List Frame} {meth : Method} {c : Code} {Q : State → Prop} {A : Nat → Prop} {D : va_G} {y : Nat → ClassId} {nL : Nat} {ad0 : Nat → Nat} {h0 : ab_H} {cc : ByteArray} {pc : Nat} {L : ab_L} {S : List Value} {h : ab_H}
/-- a run, but for its end -/
theorem ab_run_sound (hx : p.tables.exec = Jvm.exec) (hb : c.code = cc) (hml : c.maxLocals = nL) {call : Nat → List Value → ab_H → Option (Option Value × ab_H)} {code : Nat → Option (Instr × Nat)} {own fr lc : Nat} {ini : Bool} {ret : Option FieldType} {scr : Option (List Int32)} (hown : s.vm.findClass (ab_C own) = some m.cls) (hts : ∀ w ∈ ab_BIG, w.before args s = true) (hA : ∀ q, s.heap.size ≤ q → A q) (hE : ab_EF D y s) (hT : ab_ST sc ad0 A s s.heap) (hC : ab_CS sc l D y call) (hini : ini = true → meth.name = "<init>")
    (hsc : ∀ xs, scr = some xs → ∃ b, ad0 2000 = b ∧ va_X b xs.length (fun j => xs.getD j 0) s s.heap ∧ b < s.heap.size ∧ ¬ A b) (hcode : ∀ pc ins len, code pc = some (ins, len) → decode cc pc = .ok (ins, len) ∧ ab_lenok ins len = true ∧ ab_cok own fr lc ins = true) (hRf : fr ≤ R.frames) (hRl : lc ≤ R.locals) {x : Option Value × ab_H} (hR : ab_nx x.2 - ab_nx h0 ≤ R.cells ∧ ab_sl x.2 - ab_sl h0 ≤ R.slots)
    (hend : ∀ pc L S h ins len, code pc = some (ins, len) → ab_Ends ret ins S h x → ab_Sim p l e R s m args below meth c Q A D y nL ad0 h0 (pc, L, S, h)) : ∀ (n : Nat) (F : ab_F), ab_loop call code own ini ret scr n F = some x → ab_Sim p l e R s m args below meth c Q A D y nL ad0 h0 F ∧ ab_nx F.2.2.2 ≤ ab_nx x.2 ∧ ab_sl F.2.2.2 ≤ ab_sl x.2 := by
  intro n
  induction n with
  | zero => intro F hF; cases hF
  | succ n ih =>
    intro F hF
    obtain ⟨pc, L, S, h⟩ := F
    unfold ab_loop at hF
    split at hF
    · rename_i ins len hpc
      obtain ⟨g1, g2, g3⟩ := hcode pc ins len hpc
      split at hF
      · rename_i st hst
        obtain ⟨i1, i2, i3⟩ := ih st hF
        have hm := ab_step_mono hst
        have hm1 : ab_nx h ≤ ab_nx st.2.2.2 := hm.1
        have hm2 : ab_sl h ≤ ab_sl st.2.2.2 := hm.2
        refine ⟨ab_step_sound hx hb hml hown hts hA hE hT hC hini hsc g2 g3 hRf hRl g1 hst ⟨?_, ?_⟩ i1, Nat.le_trans hm1 i2, Nat.le_trans hm2 i3⟩
        · have := hR.1
          omega
        · have := hR.2
          omega
      · rename_i r hst
        cases hF
        have he := ab_step_ret hst
        refine ⟨hend pc L S h ins len hpc he, ?_⟩
        rcases he with ⟨v, ty, -, -, -, -, rfl⟩ | ⟨v, -, -, -, rfl⟩ | ⟨-, -, -, rfl⟩ <;> exact ⟨Nat.le_refl _, Nat.le_refl _⟩
      · cases hF
    · cases hF
theorem ab_end_sound (hx : p.tables.exec = Jvm.exec) (hb : c.code = cc) {ret : Option FieldType} (hr : meth.sig.returnType = ret) (hlocks : meth.locks = false) {ins : Instr} {len : Nat} {x : Option Value × ab_H} (hd : decode cc pc = .ok (ins, len)) (hlk : ab_lenok ins len = true) (he : ab_Ends ret ins S h x) : ab_Sim p l e R s m args below meth c (MQ below (ab_Q D y ad0 h0 s.heap.size x.1 x.2) args s (ab_nx x.2 - ab_nx h0) (ab_sl x.2 - ab_sl h0) (va_A (ab_ws y ad0 h0) s.heap.size)) (va_A (ab_ws y ad0 h0) s.heap.size) D y nL ad0 h0 (pc, L, S, h) := by
  intro ad H locs ls hP hD hS hw hl hlen hfix hn1 hn2
  rcases he with ⟨v, ty, rfl, rfl, rfl, hn, rfl⟩ | ⟨v, rfl, rfl, rfl, rfl⟩ | ⟨rfl, rfl, rfl, rfl⟩
  · have hl1 : len = 1 := by simpa [ab_lenok] using hlk
    subst hl1
    exact W.zret hx hb hr hn (fun t ht hW => ⟨⟨ad, hfix, rfl, by rw [ht]; exact hP, hD, hw⟩, hS.F ht⟩) hS.2.2 hd hlocks
  · have hl1 : len = 1 := by simpa [ab_lenok] using hlk
    subst hl1
    exact W.lret hx hb hr (fun t ht hW => ⟨⟨ad, hfix, rfl, by rw [ht]; exact hP, hD, hw⟩, hS.F ht⟩) hS.2.2 hd hlocks
  · have hl1 : len = 1 := by simpa [ab_lenok] using hlk
    subst hl1
    exact W.vret hx hb hr (fun t ht hW => ⟨⟨ad, hfix, rfl, by rw [ht]; exact hP, hD, hw⟩, hS.F ht⟩) hS.2.2 hd hlocks
end ABL
/-- the locals at a method's entry -/
def ab_ent : List Value → ab_L
  | [] => []
  | v :: vs => if v.category = 2 then some v :: none :: ab_ent vs else some v :: ab_ent vs
def ab_entry (n : Nat) (vs : List Value) : ab_L := ab_ent vs ++ List.replicate (n - (ab_ent vs).length) none
theorem ab_ent_mem (ad : Nat → Nat) : ∀ (vs : List Value) (i j : Nat) (v : Value), (ab_ent vs)[j]? = some (some v) → (i + j, ab_cv ad v) ∈ lv_args i (vs.map (ab_cv ad)) := by
  intro vs
  induction vs with
  | nil => intro i j v h; cases h
  | cons v0 vs ih =>
    intro i j v h
    unfold ab_ent at h
    rw [List.map_cons]
    unfold lv_args
    rw [ab_cv_cat]
    by_cases hc : v0.category = 2
    · rw [if_pos hc] at h ⊢
      match j, h with
      | 0, h => cases h; exact List.mem_cons_self
      | 1, h => cases h
      | j + 2, h =>
        have := ih (i + 2) j v h
        rw [show i + (j + 2) = i + 2 + j by omega]
        exact List.mem_cons_of_mem _ this
    · rw [if_neg hc] at h ⊢
      match j, h with
      | 0, h => cases h; exact List.mem_cons_self
      | j + 1, h =>
        have := ih (i + 1) j v h
        rw [show i + (j + 1) = i + 1 + j by omega]
        exact List.mem_cons_of_mem _ this
theorem ab_ent_len (ad : Nat → Nat) (vs : List Value) : (lg_sl (vs.map (ab_cv ad))).length = (ab_ent vs).length := by
  induction vs with
  | nil => rfl
  | cons v vs ih =>
    have ih' : (List.flatMap (fun v => if v.category = 2 then [Slot.val v, .second] else [.val v]) (vs.map (ab_cv ad))).length = (ab_ent vs).length := ih
    unfold lg_sl ab_ent
    rw [List.map_cons, List.flatMap_cons, List.length_append, ih', ab_cv_cat]
    by_cases hc : v.category = 2
    · rw [if_pos hc, if_pos hc]
      simp
      omega
    · rw [if_neg hc, if_neg hc]
      simp
      omega
theorem ab_entry_sub (ad : Nat → Nat) (n : Nat) (vs : List Value) : ∀ q ∈ ab_le ad (ab_entry n vs), q ∈ lv_args 0 (vs.map (ab_cv ad)) := by
  intro q hq
  obtain ⟨v, h1, h2⟩ := ab_le_mem.mp hq
  rw [List.getD_eq_getElem?_getD] at h1
  unfold ab_entry at h1
  have h3 : (ab_ent vs)[q.1]? = some (some v) := by
    rcases Nat.lt_or_ge q.1 (ab_ent vs).length with w | w
    · rw [List.getElem?_append_left w] at h1
      rw [List.getElem?_eq_getElem w] at h1 ⊢
      exact congrArg some h1
    · rw [List.getElem?_append_right w, List.getElem?_replicate] at h1
      split at h1 <;> cases h1
  have := ab_ent_mem ad vs 0 q.1 v h3
  rw [Nat.zero_add, ← h2] at this
  exact this
/-- a method, run: its name, by a number; what calls take of steps, and of depth, is bounded by n -/
def ab_ini (mi : Nat) : Bool := decide ((ab_nm mi).name = "<init>")
def ab_ex (sc : Option (List Int32)) : Nat → Nat → List Value → ab_H → Option (Option Value × ab_H)
  | 0, _, _, _ => none
  | n + 1, mi, vs, h => if mi < ab_M.length ∧ (ab_ent vs).length ≤ ab_mxl mi then ab_loop (ab_ex sc n) (ab_at mi) (ab_own mi) (ab_ini mi) (ab_rt mi) sc n (0, ab_entry (ab_mxl mi) vs, [], h) else none
end
section
theorem ab_ct_spec {mi : Nat} {b : ByteArray} {l : List (Nat × Instr × Nat)} (hct : ab_ct mi b l = true) (hby : ab_by mi = b) {pc : Nat} {x : Instr × Nat} (h : (l.find? (fun e => e.1 == pc)).map (fun e => e.2) = some x) : decode (ab_by mi) pc = .ok x ∧ ab_lenok x.1 x.2 = true ∧ ab_cok (ab_own mi) (ab_fr mi) (ab_lc mi) x.1 = true := by
  rw [Option.map_eq_some_iff] at h
  obtain ⟨e, h1, h2⟩ := h
  obtain ⟨q1, q2⟩ := ab_find h1 hct
  simp only [Bool.and_eq_true, decide_eq_true_eq, beq_iff_eq] at q1 q2
  subst h2
  subst q1
  rw [hby]
  exact ⟨q2.1.1, q2.1.2, q2.2⟩
def ab_CT (mi : Nat) : Prop := ∀ (pc : Nat) (x : Instr × Nat), ((ab_CD.getD mi []).find? (fun e => e.1 == pc)).map (fun e => e.2) = some x → decode (ab_by mi) pc = .ok x ∧ ab_lenok x.1 x.2 = true ∧ ab_cok (ab_own mi) (ab_fr mi) (ab_lc mi) x.1 = true
theorem ab_CT_0_1 : ∀ mi, 0 ≤ mi → mi < 1 → ab_CT mi := fun mi h1 h2 => by
  have e : mi = 0 := by omega
  subst e
  exact fun pc x h => ab_ct_spec ab_c0_ok rfl h
theorem ab_CT_1_2 : ∀ mi, 1 ≤ mi → mi < 2 → ab_CT mi := fun mi h1 h2 => by
  have e : mi = 1 := by omega
  subst e
  exact fun pc x h => ab_ct_spec ab_c1_ok rfl h
theorem ab_CT_0_2 : ∀ mi, 0 ≤ mi → mi < 2 → ab_CT mi := fun mi h1 h2 => (Nat.lt_or_ge mi 1).elim (fun h => ab_CT_0_1 mi h1 h) (fun h => ab_CT_1_2 mi h h2)
theorem ab_CT_2_3 : ∀ mi, 2 ≤ mi → mi < 3 → ab_CT mi := fun mi h1 h2 => by
  have e : mi = 2 := by omega
  subst e
  exact fun pc x h => ab_ct_spec ab_c2_ok rfl h
theorem ab_CT_3_4 : ∀ mi, 3 ≤ mi → mi < 4 → ab_CT mi := fun mi h1 h2 => by
  have e : mi = 3 := by omega
  subst e
  exact fun pc x h => ab_ct_spec ab_c3_ok rfl h
theorem ab_CT_2_4 : ∀ mi, 2 ≤ mi → mi < 4 → ab_CT mi := fun mi h1 h2 => (Nat.lt_or_ge mi 3).elim (fun h => ab_CT_2_3 mi h1 h) (fun h => ab_CT_3_4 mi h h2)
theorem ab_CT_0_4 : ∀ mi, 0 ≤ mi → mi < 4 → ab_CT mi := fun mi h1 h2 => (Nat.lt_or_ge mi 2).elim (fun h => ab_CT_0_2 mi h1 h) (fun h => ab_CT_2_4 mi h h2)
theorem ab_CT_4_5 : ∀ mi, 4 ≤ mi → mi < 5 → ab_CT mi := fun mi h1 h2 => by
  have e : mi = 4 := by omega
  subst e
  exact fun pc x h => ab_ct_spec ab_c4_ok rfl h
theorem ab_CT_5_6 : ∀ mi, 5 ≤ mi → mi < 6 → ab_CT mi := fun mi h1 h2 => by
  have e : mi = 5 := by omega
  subst e
  exact fun pc x h => ab_ct_spec ab_c5_ok rfl h
theorem ab_CT_4_6 : ∀ mi, 4 ≤ mi → mi < 6 → ab_CT mi := fun mi h1 h2 => (Nat.lt_or_ge mi 5).elim (fun h => ab_CT_4_5 mi h1 h) (fun h => ab_CT_5_6 mi h h2)
theorem ab_CT_6_7 : ∀ mi, 6 ≤ mi → mi < 7 → ab_CT mi := fun mi h1 h2 => by
  have e : mi = 6 := by omega
  subst e
  exact fun pc x h => ab_ct_spec ab_c6_ok rfl h
theorem ab_CT_7_8 : ∀ mi, 7 ≤ mi → mi < 8 → ab_CT mi := fun mi h1 h2 => by
  have e : mi = 7 := by omega
  subst e
  exact fun pc x h => ab_ct_spec ab_c7_ok rfl h
theorem ab_CT_8_9 : ∀ mi, 8 ≤ mi → mi < 9 → ab_CT mi := fun mi h1 h2 => by
  have e : mi = 8 := by omega
  subst e
  exact fun pc x h => ab_ct_spec ab_c8_ok rfl h
theorem ab_CT_7_9 : ∀ mi, 7 ≤ mi → mi < 9 → ab_CT mi := fun mi h1 h2 => (Nat.lt_or_ge mi 8).elim (fun h => ab_CT_7_8 mi h1 h) (fun h => ab_CT_8_9 mi h h2)
theorem ab_CT_6_9 : ∀ mi, 6 ≤ mi → mi < 9 → ab_CT mi := fun mi h1 h2 => (Nat.lt_or_ge mi 7).elim (fun h => ab_CT_6_7 mi h1 h) (fun h => ab_CT_7_9 mi h h2)
theorem ab_CT_4_9 : ∀ mi, 4 ≤ mi → mi < 9 → ab_CT mi := fun mi h1 h2 => (Nat.lt_or_ge mi 6).elim (fun h => ab_CT_4_6 mi h1 h) (fun h => ab_CT_6_9 mi h h2)
theorem ab_CT_0_9 : ∀ mi, 0 ≤ mi → mi < 9 → ab_CT mi := fun mi h1 h2 => (Nat.lt_or_ge mi 4).elim (fun h => ab_CT_0_4 mi h1 h) (fun h => ab_CT_4_9 mi h h2)
theorem ab_CT_9_10 : ∀ mi, 9 ≤ mi → mi < 10 → ab_CT mi := fun mi h1 h2 => by
  have e : mi = 9 := by omega
  subst e
  exact fun pc x h => ab_ct_spec ab_c9_ok rfl h
theorem ab_CT_10_11 : ∀ mi, 10 ≤ mi → mi < 11 → ab_CT mi := fun mi h1 h2 => by
  have e : mi = 10 := by omega
  subst e
  exact fun pc x h => ab_ct_spec ab_c10_ok rfl h
theorem ab_CT_9_11 : ∀ mi, 9 ≤ mi → mi < 11 → ab_CT mi := fun mi h1 h2 => (Nat.lt_or_ge mi 10).elim (fun h => ab_CT_9_10 mi h1 h) (fun h => ab_CT_10_11 mi h h2)
theorem ab_CT_11_12 : ∀ mi, 11 ≤ mi → mi < 12 → ab_CT mi := fun mi h1 h2 => by
  have e : mi = 11 := by omega
  subst e
  exact fun pc x h => ab_ct_spec ab_c11_ok rfl h
theorem ab_CT_12_13 : ∀ mi, 12 ≤ mi → mi < 13 → ab_CT mi := fun mi h1 h2 => by
  have e : mi = 12 := by omega
  subst e
  exact fun pc x h => ab_ct_spec ab_c12_ok rfl h
theorem ab_CT_11_13 : ∀ mi, 11 ≤ mi → mi < 13 → ab_CT mi := fun mi h1 h2 => (Nat.lt_or_ge mi 12).elim (fun h => ab_CT_11_12 mi h1 h) (fun h => ab_CT_12_13 mi h h2)
theorem ab_CT_9_13 : ∀ mi, 9 ≤ mi → mi < 13 → ab_CT mi := fun mi h1 h2 => (Nat.lt_or_ge mi 11).elim (fun h => ab_CT_9_11 mi h1 h) (fun h => ab_CT_11_13 mi h h2)
theorem ab_CT_13_14 : ∀ mi, 13 ≤ mi → mi < 14 → ab_CT mi := fun mi h1 h2 => by
  have e : mi = 13 := by omega
  subst e
  exact fun pc x h => ab_ct_spec ab_c13_ok rfl h
theorem ab_CT_14_15 : ∀ mi, 14 ≤ mi → mi < 15 → ab_CT mi := fun mi h1 h2 => by
  have e : mi = 14 := by omega
  subst e
  exact fun pc x h => ab_ct_spec ab_c14_ok rfl h
theorem ab_CT_13_15 : ∀ mi, 13 ≤ mi → mi < 15 → ab_CT mi := fun mi h1 h2 => (Nat.lt_or_ge mi 14).elim (fun h => ab_CT_13_14 mi h1 h) (fun h => ab_CT_14_15 mi h h2)
theorem ab_CT_15_16 : ∀ mi, 15 ≤ mi → mi < 16 → ab_CT mi := fun mi h1 h2 => by
  have e : mi = 15 := by omega
  subst e
  exact fun pc x h => ab_ct_spec ab_c15_ok rfl h
theorem ab_CT_16_17 : ∀ mi, 16 ≤ mi → mi < 17 → ab_CT mi := fun mi h1 h2 => by
  have e : mi = 16 := by omega
  subst e
  exact fun pc x h => ab_ct_spec ab_c16_ok rfl h
theorem ab_CT_17_18 : ∀ mi, 17 ≤ mi → mi < 18 → ab_CT mi := fun mi h1 h2 => by
  have e : mi = 17 := by omega
  subst e
  exact fun pc x h => ab_ct_spec ab_c17_ok rfl h
theorem ab_CT_16_18 : ∀ mi, 16 ≤ mi → mi < 18 → ab_CT mi := fun mi h1 h2 => (Nat.lt_or_ge mi 17).elim (fun h => ab_CT_16_17 mi h1 h) (fun h => ab_CT_17_18 mi h h2)
theorem ab_CT_15_18 : ∀ mi, 15 ≤ mi → mi < 18 → ab_CT mi := fun mi h1 h2 => (Nat.lt_or_ge mi 16).elim (fun h => ab_CT_15_16 mi h1 h) (fun h => ab_CT_16_18 mi h h2)
theorem ab_CT_13_18 : ∀ mi, 13 ≤ mi → mi < 18 → ab_CT mi := fun mi h1 h2 => (Nat.lt_or_ge mi 15).elim (fun h => ab_CT_13_15 mi h1 h) (fun h => ab_CT_15_18 mi h h2)
theorem ab_CT_9_18 : ∀ mi, 9 ≤ mi → mi < 18 → ab_CT mi := fun mi h1 h2 => (Nat.lt_or_ge mi 13).elim (fun h => ab_CT_9_13 mi h1 h) (fun h => ab_CT_13_18 mi h h2)
theorem ab_CT_0_18 : ∀ mi, 0 ≤ mi → mi < 18 → ab_CT mi := fun mi h1 h2 => (Nat.lt_or_ge mi 9).elim (fun h => ab_CT_0_9 mi h1 h) (fun h => ab_CT_9_18 mi h h2)
theorem ab_CT_18_19 : ∀ mi, 18 ≤ mi → mi < 19 → ab_CT mi := fun mi h1 h2 => by
  have e : mi = 18 := by omega
  subst e
  exact fun pc x h => ab_ct_spec ab_c18_ok rfl h
theorem ab_CT_19_20 : ∀ mi, 19 ≤ mi → mi < 20 → ab_CT mi := fun mi h1 h2 => by
  have e : mi = 19 := by omega
  subst e
  exact fun pc x h => ab_ct_spec ab_c19_ok rfl h
theorem ab_CT_18_20 : ∀ mi, 18 ≤ mi → mi < 20 → ab_CT mi := fun mi h1 h2 => (Nat.lt_or_ge mi 19).elim (fun h => ab_CT_18_19 mi h1 h) (fun h => ab_CT_19_20 mi h h2)
theorem ab_CT_20_21 : ∀ mi, 20 ≤ mi → mi < 21 → ab_CT mi := fun mi h1 h2 => by
  have e : mi = 20 := by omega
  subst e
  exact fun pc x h => ab_ct_spec ab_c20_ok rfl h
theorem ab_CT_21_22 : ∀ mi, 21 ≤ mi → mi < 22 → ab_CT mi := fun mi h1 h2 => by
  have e : mi = 21 := by omega
  subst e
  exact fun pc x h => ab_ct_spec ab_c21_ok rfl h
theorem ab_CT_20_22 : ∀ mi, 20 ≤ mi → mi < 22 → ab_CT mi := fun mi h1 h2 => (Nat.lt_or_ge mi 21).elim (fun h => ab_CT_20_21 mi h1 h) (fun h => ab_CT_21_22 mi h h2)
theorem ab_CT_18_22 : ∀ mi, 18 ≤ mi → mi < 22 → ab_CT mi := fun mi h1 h2 => (Nat.lt_or_ge mi 20).elim (fun h => ab_CT_18_20 mi h1 h) (fun h => ab_CT_20_22 mi h h2)
theorem ab_CT_22_23 : ∀ mi, 22 ≤ mi → mi < 23 → ab_CT mi := fun mi h1 h2 => by
  have e : mi = 22 := by omega
  subst e
  exact fun pc x h => ab_ct_spec ab_c22_ok rfl h
theorem ab_CT_23_24 : ∀ mi, 23 ≤ mi → mi < 24 → ab_CT mi := fun mi h1 h2 => by
  have e : mi = 23 := by omega
  subst e
  exact fun pc x h => ab_ct_spec ab_c23_ok rfl h
theorem ab_CT_22_24 : ∀ mi, 22 ≤ mi → mi < 24 → ab_CT mi := fun mi h1 h2 => (Nat.lt_or_ge mi 23).elim (fun h => ab_CT_22_23 mi h1 h) (fun h => ab_CT_23_24 mi h h2)
theorem ab_CT_24_25 : ∀ mi, 24 ≤ mi → mi < 25 → ab_CT mi := fun mi h1 h2 => by
  have e : mi = 24 := by omega
  subst e
  exact fun pc x h => ab_ct_spec ab_c24_ok rfl h
theorem ab_CT_25_26 : ∀ mi, 25 ≤ mi → mi < 26 → ab_CT mi := fun mi h1 h2 => by
  have e : mi = 25 := by omega
  subst e
  exact fun pc x h => ab_ct_spec ab_c25_ok rfl h
theorem ab_CT_26_27 : ∀ mi, 26 ≤ mi → mi < 27 → ab_CT mi := fun mi h1 h2 => by
  have e : mi = 26 := by omega
  subst e
  exact fun pc x h => ab_ct_spec ab_c26_ok rfl h
theorem ab_CT_25_27 : ∀ mi, 25 ≤ mi → mi < 27 → ab_CT mi := fun mi h1 h2 => (Nat.lt_or_ge mi 26).elim (fun h => ab_CT_25_26 mi h1 h) (fun h => ab_CT_26_27 mi h h2)
theorem ab_CT_24_27 : ∀ mi, 24 ≤ mi → mi < 27 → ab_CT mi := fun mi h1 h2 => (Nat.lt_or_ge mi 25).elim (fun h => ab_CT_24_25 mi h1 h) (fun h => ab_CT_25_27 mi h h2)
theorem ab_CT_22_27 : ∀ mi, 22 ≤ mi → mi < 27 → ab_CT mi := fun mi h1 h2 => (Nat.lt_or_ge mi 24).elim (fun h => ab_CT_22_24 mi h1 h) (fun h => ab_CT_24_27 mi h h2)
theorem ab_CT_18_27 : ∀ mi, 18 ≤ mi → mi < 27 → ab_CT mi := fun mi h1 h2 => (Nat.lt_or_ge mi 22).elim (fun h => ab_CT_18_22 mi h1 h) (fun h => ab_CT_22_27 mi h h2)
theorem ab_CT_27_28 : ∀ mi, 27 ≤ mi → mi < 28 → ab_CT mi := fun mi h1 h2 => by
  have e : mi = 27 := by omega
  subst e
  exact fun pc x h => ab_ct_spec ab_c27_ok rfl h
theorem ab_CT_28_29 : ∀ mi, 28 ≤ mi → mi < 29 → ab_CT mi := fun mi h1 h2 => by
  have e : mi = 28 := by omega
  subst e
  exact fun pc x h => ab_ct_spec ab_c28_ok rfl h
theorem ab_CT_27_29 : ∀ mi, 27 ≤ mi → mi < 29 → ab_CT mi := fun mi h1 h2 => (Nat.lt_or_ge mi 28).elim (fun h => ab_CT_27_28 mi h1 h) (fun h => ab_CT_28_29 mi h h2)
theorem ab_CT_29_30 : ∀ mi, 29 ≤ mi → mi < 30 → ab_CT mi := fun mi h1 h2 => by
  have e : mi = 29 := by omega
  subst e
  exact fun pc x h => ab_ct_spec ab_c29_ok rfl h
theorem ab_CT_30_31 : ∀ mi, 30 ≤ mi → mi < 31 → ab_CT mi := fun mi h1 h2 => by
  have e : mi = 30 := by omega
  subst e
  exact fun pc x h => ab_ct_spec ab_c30_ok rfl h
theorem ab_CT_29_31 : ∀ mi, 29 ≤ mi → mi < 31 → ab_CT mi := fun mi h1 h2 => (Nat.lt_or_ge mi 30).elim (fun h => ab_CT_29_30 mi h1 h) (fun h => ab_CT_30_31 mi h h2)
theorem ab_CT_27_31 : ∀ mi, 27 ≤ mi → mi < 31 → ab_CT mi := fun mi h1 h2 => (Nat.lt_or_ge mi 29).elim (fun h => ab_CT_27_29 mi h1 h) (fun h => ab_CT_29_31 mi h h2)
theorem ab_CT_31_32 : ∀ mi, 31 ≤ mi → mi < 32 → ab_CT mi := fun mi h1 h2 => by
  have e : mi = 31 := by omega
  subst e
  exact fun pc x h => ab_ct_spec ab_c31_ok rfl h
theorem ab_CT_32_33 : ∀ mi, 32 ≤ mi → mi < 33 → ab_CT mi := fun mi h1 h2 => by
  have e : mi = 32 := by omega
  subst e
  exact fun pc x h => ab_ct_spec ab_c32_ok rfl h
theorem ab_CT_31_33 : ∀ mi, 31 ≤ mi → mi < 33 → ab_CT mi := fun mi h1 h2 => (Nat.lt_or_ge mi 32).elim (fun h => ab_CT_31_32 mi h1 h) (fun h => ab_CT_32_33 mi h h2)
theorem ab_CT_33_34 : ∀ mi, 33 ≤ mi → mi < 34 → ab_CT mi := fun mi h1 h2 => by
  have e : mi = 33 := by omega
  subst e
  exact fun pc x h => ab_ct_spec ab_c33_ok rfl h
theorem ab_CT_34_35 : ∀ mi, 34 ≤ mi → mi < 35 → ab_CT mi := fun mi h1 h2 => by
  have e : mi = 34 := by omega
  subst e
  exact fun pc x h => ab_ct_spec ab_c34_ok rfl h
theorem ab_CT_35_36 : ∀ mi, 35 ≤ mi → mi < 36 → ab_CT mi := fun mi h1 h2 => by
  have e : mi = 35 := by omega
  subst e
  exact fun pc x h => ab_ct_spec ab_c35_ok rfl h
theorem ab_CT_34_36 : ∀ mi, 34 ≤ mi → mi < 36 → ab_CT mi := fun mi h1 h2 => (Nat.lt_or_ge mi 35).elim (fun h => ab_CT_34_35 mi h1 h) (fun h => ab_CT_35_36 mi h h2)
theorem ab_CT_33_36 : ∀ mi, 33 ≤ mi → mi < 36 → ab_CT mi := fun mi h1 h2 => (Nat.lt_or_ge mi 34).elim (fun h => ab_CT_33_34 mi h1 h) (fun h => ab_CT_34_36 mi h h2)
theorem ab_CT_31_36 : ∀ mi, 31 ≤ mi → mi < 36 → ab_CT mi := fun mi h1 h2 => (Nat.lt_or_ge mi 33).elim (fun h => ab_CT_31_33 mi h1 h) (fun h => ab_CT_33_36 mi h h2)
theorem ab_CT_27_36 : ∀ mi, 27 ≤ mi → mi < 36 → ab_CT mi := fun mi h1 h2 => (Nat.lt_or_ge mi 31).elim (fun h => ab_CT_27_31 mi h1 h) (fun h => ab_CT_31_36 mi h h2)
theorem ab_CT_18_36 : ∀ mi, 18 ≤ mi → mi < 36 → ab_CT mi := fun mi h1 h2 => (Nat.lt_or_ge mi 27).elim (fun h => ab_CT_18_27 mi h1 h) (fun h => ab_CT_27_36 mi h h2)
theorem ab_CT_0_36 : ∀ mi, 0 ≤ mi → mi < 36 → ab_CT mi := fun mi h1 h2 => (Nat.lt_or_ge mi 18).elim (fun h => ab_CT_0_18 mi h1 h) (fun h => ab_CT_18_36 mi h h2)
theorem ab_CT_36_37 : ∀ mi, 36 ≤ mi → mi < 37 → ab_CT mi := fun mi h1 h2 => by
  have e : mi = 36 := by omega
  subst e
  exact fun pc x h => ab_ct_spec ab_c36_ok rfl h
theorem ab_CT_37_38 : ∀ mi, 37 ≤ mi → mi < 38 → ab_CT mi := fun mi h1 h2 => by
  have e : mi = 37 := by omega
  subst e
  exact fun pc x h => ab_ct_spec ab_c37_ok rfl h
theorem ab_CT_36_38 : ∀ mi, 36 ≤ mi → mi < 38 → ab_CT mi := fun mi h1 h2 => (Nat.lt_or_ge mi 37).elim (fun h => ab_CT_36_37 mi h1 h) (fun h => ab_CT_37_38 mi h h2)
theorem ab_CT_38_39 : ∀ mi, 38 ≤ mi → mi < 39 → ab_CT mi := fun mi h1 h2 => by
  have e : mi = 38 := by omega
  subst e
  exact fun pc x h => ab_ct_spec ab_c38_ok rfl h
theorem ab_CT_39_40 : ∀ mi, 39 ≤ mi → mi < 40 → ab_CT mi := fun mi h1 h2 => by
  have e : mi = 39 := by omega
  subst e
  exact fun pc x h => ab_ct_spec ab_c39_ok rfl h
theorem ab_CT_38_40 : ∀ mi, 38 ≤ mi → mi < 40 → ab_CT mi := fun mi h1 h2 => (Nat.lt_or_ge mi 39).elim (fun h => ab_CT_38_39 mi h1 h) (fun h => ab_CT_39_40 mi h h2)
theorem ab_CT_36_40 : ∀ mi, 36 ≤ mi → mi < 40 → ab_CT mi := fun mi h1 h2 => (Nat.lt_or_ge mi 38).elim (fun h => ab_CT_36_38 mi h1 h) (fun h => ab_CT_38_40 mi h h2)
theorem ab_CT_40_41 : ∀ mi, 40 ≤ mi → mi < 41 → ab_CT mi := fun mi h1 h2 => by
  have e : mi = 40 := by omega
  subst e
  exact fun pc x h => ab_ct_spec ab_c40_ok rfl h
theorem ab_CT_41_42 : ∀ mi, 41 ≤ mi → mi < 42 → ab_CT mi := fun mi h1 h2 => by
  have e : mi = 41 := by omega
  subst e
  exact fun pc x h => ab_ct_spec ab_c41_ok rfl h
theorem ab_CT_40_42 : ∀ mi, 40 ≤ mi → mi < 42 → ab_CT mi := fun mi h1 h2 => (Nat.lt_or_ge mi 41).elim (fun h => ab_CT_40_41 mi h1 h) (fun h => ab_CT_41_42 mi h h2)
theorem ab_CT_42_43 : ∀ mi, 42 ≤ mi → mi < 43 → ab_CT mi := fun mi h1 h2 => by
  have e : mi = 42 := by omega
  subst e
  exact fun pc x h => ab_ct_spec ab_c42_ok rfl h
theorem ab_CT_43_44 : ∀ mi, 43 ≤ mi → mi < 44 → ab_CT mi := fun mi h1 h2 => by
  have e : mi = 43 := by omega
  subst e
  exact fun pc x h => ab_ct_spec ab_c43_ok rfl h
theorem ab_CT_44_45 : ∀ mi, 44 ≤ mi → mi < 45 → ab_CT mi := fun mi h1 h2 => by
  have e : mi = 44 := by omega
  subst e
  exact fun pc x h => ab_ct_spec ab_c44_ok rfl h
theorem ab_CT_43_45 : ∀ mi, 43 ≤ mi → mi < 45 → ab_CT mi := fun mi h1 h2 => (Nat.lt_or_ge mi 44).elim (fun h => ab_CT_43_44 mi h1 h) (fun h => ab_CT_44_45 mi h h2)
theorem ab_CT_42_45 : ∀ mi, 42 ≤ mi → mi < 45 → ab_CT mi := fun mi h1 h2 => (Nat.lt_or_ge mi 43).elim (fun h => ab_CT_42_43 mi h1 h) (fun h => ab_CT_43_45 mi h h2)
theorem ab_CT_40_45 : ∀ mi, 40 ≤ mi → mi < 45 → ab_CT mi := fun mi h1 h2 => (Nat.lt_or_ge mi 42).elim (fun h => ab_CT_40_42 mi h1 h) (fun h => ab_CT_42_45 mi h h2)
theorem ab_CT_36_45 : ∀ mi, 36 ≤ mi → mi < 45 → ab_CT mi := fun mi h1 h2 => (Nat.lt_or_ge mi 40).elim (fun h => ab_CT_36_40 mi h1 h) (fun h => ab_CT_40_45 mi h h2)
theorem ab_CT_45_46 : ∀ mi, 45 ≤ mi → mi < 46 → ab_CT mi := fun mi h1 h2 => by
  have e : mi = 45 := by omega
  subst e
  exact fun pc x h => ab_ct_spec ab_c45_ok rfl h
theorem ab_CT_46_47 : ∀ mi, 46 ≤ mi → mi < 47 → ab_CT mi := fun mi h1 h2 => by
  have e : mi = 46 := by omega
  subst e
  exact fun pc x h => ab_ct_spec ab_c46_ok rfl h
theorem ab_CT_45_47 : ∀ mi, 45 ≤ mi → mi < 47 → ab_CT mi := fun mi h1 h2 => (Nat.lt_or_ge mi 46).elim (fun h => ab_CT_45_46 mi h1 h) (fun h => ab_CT_46_47 mi h h2)
theorem ab_CT_47_48 : ∀ mi, 47 ≤ mi → mi < 48 → ab_CT mi := fun mi h1 h2 => by
  have e : mi = 47 := by omega
  subst e
  exact fun pc x h => ab_ct_spec ab_c47_ok rfl h
theorem ab_CT_48_49 : ∀ mi, 48 ≤ mi → mi < 49 → ab_CT mi := fun mi h1 h2 => by
  have e : mi = 48 := by omega
  subst e
  exact fun pc x h => ab_ct_spec ab_c48_ok rfl h
theorem ab_CT_47_49 : ∀ mi, 47 ≤ mi → mi < 49 → ab_CT mi := fun mi h1 h2 => (Nat.lt_or_ge mi 48).elim (fun h => ab_CT_47_48 mi h1 h) (fun h => ab_CT_48_49 mi h h2)
theorem ab_CT_45_49 : ∀ mi, 45 ≤ mi → mi < 49 → ab_CT mi := fun mi h1 h2 => (Nat.lt_or_ge mi 47).elim (fun h => ab_CT_45_47 mi h1 h) (fun h => ab_CT_47_49 mi h h2)
theorem ab_CT_49_50 : ∀ mi, 49 ≤ mi → mi < 50 → ab_CT mi := fun mi h1 h2 => by
  have e : mi = 49 := by omega
  subst e
  exact fun pc x h => ab_ct_spec ab_c49_ok rfl h
theorem ab_CT_50_51 : ∀ mi, 50 ≤ mi → mi < 51 → ab_CT mi := fun mi h1 h2 => by
  have e : mi = 50 := by omega
  subst e
  exact fun pc x h => ab_ct_spec ab_c50_ok rfl h
theorem ab_CT_49_51 : ∀ mi, 49 ≤ mi → mi < 51 → ab_CT mi := fun mi h1 h2 => (Nat.lt_or_ge mi 50).elim (fun h => ab_CT_49_50 mi h1 h) (fun h => ab_CT_50_51 mi h h2)
theorem ab_CT_51_52 : ∀ mi, 51 ≤ mi → mi < 52 → ab_CT mi := fun mi h1 h2 => by
  have e : mi = 51 := by omega
  subst e
  exact fun pc x h => ab_ct_spec ab_c51_ok rfl h
theorem ab_CT_52_53 : ∀ mi, 52 ≤ mi → mi < 53 → ab_CT mi := fun mi h1 h2 => by
  have e : mi = 52 := by omega
  subst e
  exact fun pc x h => ab_ct_spec ab_c52_ok rfl h
theorem ab_CT_53_54 : ∀ mi, 53 ≤ mi → mi < 54 → ab_CT mi := fun mi h1 h2 => by
  have e : mi = 53 := by omega
  subst e
  exact fun pc x h => ab_ct_spec ab_c53_ok rfl h
theorem ab_CT_52_54 : ∀ mi, 52 ≤ mi → mi < 54 → ab_CT mi := fun mi h1 h2 => (Nat.lt_or_ge mi 53).elim (fun h => ab_CT_52_53 mi h1 h) (fun h => ab_CT_53_54 mi h h2)
theorem ab_CT_51_54 : ∀ mi, 51 ≤ mi → mi < 54 → ab_CT mi := fun mi h1 h2 => (Nat.lt_or_ge mi 52).elim (fun h => ab_CT_51_52 mi h1 h) (fun h => ab_CT_52_54 mi h h2)
theorem ab_CT_49_54 : ∀ mi, 49 ≤ mi → mi < 54 → ab_CT mi := fun mi h1 h2 => (Nat.lt_or_ge mi 51).elim (fun h => ab_CT_49_51 mi h1 h) (fun h => ab_CT_51_54 mi h h2)
theorem ab_CT_45_54 : ∀ mi, 45 ≤ mi → mi < 54 → ab_CT mi := fun mi h1 h2 => (Nat.lt_or_ge mi 49).elim (fun h => ab_CT_45_49 mi h1 h) (fun h => ab_CT_49_54 mi h h2)
theorem ab_CT_36_54 : ∀ mi, 36 ≤ mi → mi < 54 → ab_CT mi := fun mi h1 h2 => (Nat.lt_or_ge mi 45).elim (fun h => ab_CT_36_45 mi h1 h) (fun h => ab_CT_45_54 mi h h2)
theorem ab_CT_54_55 : ∀ mi, 54 ≤ mi → mi < 55 → ab_CT mi := fun mi h1 h2 => by
  have e : mi = 54 := by omega
  subst e
  exact fun pc x h => ab_ct_spec ab_c54_ok rfl h
theorem ab_CT_55_56 : ∀ mi, 55 ≤ mi → mi < 56 → ab_CT mi := fun mi h1 h2 => by
  have e : mi = 55 := by omega
  subst e
  exact fun pc x h => ab_ct_spec ab_c55_ok rfl h
theorem ab_CT_54_56 : ∀ mi, 54 ≤ mi → mi < 56 → ab_CT mi := fun mi h1 h2 => (Nat.lt_or_ge mi 55).elim (fun h => ab_CT_54_55 mi h1 h) (fun h => ab_CT_55_56 mi h h2)
theorem ab_CT_56_57 : ∀ mi, 56 ≤ mi → mi < 57 → ab_CT mi := fun mi h1 h2 => by
  have e : mi = 56 := by omega
  subst e
  exact fun pc x h => ab_ct_spec ab_c56_ok rfl h
theorem ab_CT_57_58 : ∀ mi, 57 ≤ mi → mi < 58 → ab_CT mi := fun mi h1 h2 => by
  have e : mi = 57 := by omega
  subst e
  exact fun pc x h => ab_ct_spec ab_c57_ok rfl h
theorem ab_CT_56_58 : ∀ mi, 56 ≤ mi → mi < 58 → ab_CT mi := fun mi h1 h2 => (Nat.lt_or_ge mi 57).elim (fun h => ab_CT_56_57 mi h1 h) (fun h => ab_CT_57_58 mi h h2)
theorem ab_CT_54_58 : ∀ mi, 54 ≤ mi → mi < 58 → ab_CT mi := fun mi h1 h2 => (Nat.lt_or_ge mi 56).elim (fun h => ab_CT_54_56 mi h1 h) (fun h => ab_CT_56_58 mi h h2)
theorem ab_CT_58_59 : ∀ mi, 58 ≤ mi → mi < 59 → ab_CT mi := fun mi h1 h2 => by
  have e : mi = 58 := by omega
  subst e
  exact fun pc x h => ab_ct_spec ab_c58_ok rfl h
theorem ab_CT_59_60 : ∀ mi, 59 ≤ mi → mi < 60 → ab_CT mi := fun mi h1 h2 => by
  have e : mi = 59 := by omega
  subst e
  exact fun pc x h => ab_ct_spec ab_c59_ok rfl h
theorem ab_CT_58_60 : ∀ mi, 58 ≤ mi → mi < 60 → ab_CT mi := fun mi h1 h2 => (Nat.lt_or_ge mi 59).elim (fun h => ab_CT_58_59 mi h1 h) (fun h => ab_CT_59_60 mi h h2)
theorem ab_CT_60_61 : ∀ mi, 60 ≤ mi → mi < 61 → ab_CT mi := fun mi h1 h2 => by
  have e : mi = 60 := by omega
  subst e
  exact fun pc x h => ab_ct_spec ab_c60_ok rfl h
theorem ab_CT_61_62 : ∀ mi, 61 ≤ mi → mi < 62 → ab_CT mi := fun mi h1 h2 => by
  have e : mi = 61 := by omega
  subst e
  exact fun pc x h => ab_ct_spec ab_c61_ok rfl h
theorem ab_CT_62_63 : ∀ mi, 62 ≤ mi → mi < 63 → ab_CT mi := fun mi h1 h2 => by
  have e : mi = 62 := by omega
  subst e
  exact fun pc x h => ab_ct_spec ab_c62_ok rfl h
theorem ab_CT_61_63 : ∀ mi, 61 ≤ mi → mi < 63 → ab_CT mi := fun mi h1 h2 => (Nat.lt_or_ge mi 62).elim (fun h => ab_CT_61_62 mi h1 h) (fun h => ab_CT_62_63 mi h h2)
theorem ab_CT_60_63 : ∀ mi, 60 ≤ mi → mi < 63 → ab_CT mi := fun mi h1 h2 => (Nat.lt_or_ge mi 61).elim (fun h => ab_CT_60_61 mi h1 h) (fun h => ab_CT_61_63 mi h h2)
theorem ab_CT_58_63 : ∀ mi, 58 ≤ mi → mi < 63 → ab_CT mi := fun mi h1 h2 => (Nat.lt_or_ge mi 60).elim (fun h => ab_CT_58_60 mi h1 h) (fun h => ab_CT_60_63 mi h h2)
theorem ab_CT_54_63 : ∀ mi, 54 ≤ mi → mi < 63 → ab_CT mi := fun mi h1 h2 => (Nat.lt_or_ge mi 58).elim (fun h => ab_CT_54_58 mi h1 h) (fun h => ab_CT_58_63 mi h h2)
theorem ab_CT_63_64 : ∀ mi, 63 ≤ mi → mi < 64 → ab_CT mi := fun mi h1 h2 => by
  have e : mi = 63 := by omega
  subst e
  exact fun pc x h => ab_ct_spec ab_c63_ok rfl h
theorem ab_CT_64_65 : ∀ mi, 64 ≤ mi → mi < 65 → ab_CT mi := fun mi h1 h2 => by
  have e : mi = 64 := by omega
  subst e
  exact fun pc x h => ab_ct_spec ab_c64_ok rfl h
theorem ab_CT_63_65 : ∀ mi, 63 ≤ mi → mi < 65 → ab_CT mi := fun mi h1 h2 => (Nat.lt_or_ge mi 64).elim (fun h => ab_CT_63_64 mi h1 h) (fun h => ab_CT_64_65 mi h h2)
theorem ab_CT_65_66 : ∀ mi, 65 ≤ mi → mi < 66 → ab_CT mi := fun mi h1 h2 => by
  have e : mi = 65 := by omega
  subst e
  exact fun pc x h => ab_ct_spec ab_c65_ok rfl h
theorem ab_CT_66_67 : ∀ mi, 66 ≤ mi → mi < 67 → ab_CT mi := fun mi h1 h2 => by
  have e : mi = 66 := by omega
  subst e
  exact fun pc x h => ab_ct_spec ab_c66_ok rfl h
theorem ab_CT_67_68 : ∀ mi, 67 ≤ mi → mi < 68 → ab_CT mi := fun mi h1 h2 => by
  have e : mi = 67 := by omega
  subst e
  exact fun pc x h => ab_ct_spec ab_c67_ok rfl h
theorem ab_CT_66_68 : ∀ mi, 66 ≤ mi → mi < 68 → ab_CT mi := fun mi h1 h2 => (Nat.lt_or_ge mi 67).elim (fun h => ab_CT_66_67 mi h1 h) (fun h => ab_CT_67_68 mi h h2)
theorem ab_CT_65_68 : ∀ mi, 65 ≤ mi → mi < 68 → ab_CT mi := fun mi h1 h2 => (Nat.lt_or_ge mi 66).elim (fun h => ab_CT_65_66 mi h1 h) (fun h => ab_CT_66_68 mi h h2)
theorem ab_CT_63_68 : ∀ mi, 63 ≤ mi → mi < 68 → ab_CT mi := fun mi h1 h2 => (Nat.lt_or_ge mi 65).elim (fun h => ab_CT_63_65 mi h1 h) (fun h => ab_CT_65_68 mi h h2)
theorem ab_CT_68_69 : ∀ mi, 68 ≤ mi → mi < 69 → ab_CT mi := fun mi h1 h2 => by
  have e : mi = 68 := by omega
  subst e
  exact fun pc x h => ab_ct_spec ab_c68_ok rfl h
theorem ab_CT_69_70 : ∀ mi, 69 ≤ mi → mi < 70 → ab_CT mi := fun mi h1 h2 => by
  have e : mi = 69 := by omega
  subst e
  exact fun pc x h => ab_ct_spec ab_c69_ok rfl h
theorem ab_CT_68_70 : ∀ mi, 68 ≤ mi → mi < 70 → ab_CT mi := fun mi h1 h2 => (Nat.lt_or_ge mi 69).elim (fun h => ab_CT_68_69 mi h1 h) (fun h => ab_CT_69_70 mi h h2)
theorem ab_CT_70_71 : ∀ mi, 70 ≤ mi → mi < 71 → ab_CT mi := fun mi h1 h2 => by
  have e : mi = 70 := by omega
  subst e
  exact fun pc x h => ab_ct_spec ab_c70_ok rfl h
theorem ab_CT_71_72 : ∀ mi, 71 ≤ mi → mi < 72 → ab_CT mi := fun mi h1 h2 => by
  have e : mi = 71 := by omega
  subst e
  exact fun pc x h => ab_ct_spec ab_c71_ok rfl h
theorem ab_CT_72_73 : ∀ mi, 72 ≤ mi → mi < 73 → ab_CT mi := fun mi h1 h2 => by
  have e : mi = 72 := by omega
  subst e
  exact fun pc x h => ab_ct_spec ab_c72_ok rfl h
theorem ab_CT_71_73 : ∀ mi, 71 ≤ mi → mi < 73 → ab_CT mi := fun mi h1 h2 => (Nat.lt_or_ge mi 72).elim (fun h => ab_CT_71_72 mi h1 h) (fun h => ab_CT_72_73 mi h h2)
theorem ab_CT_70_73 : ∀ mi, 70 ≤ mi → mi < 73 → ab_CT mi := fun mi h1 h2 => (Nat.lt_or_ge mi 71).elim (fun h => ab_CT_70_71 mi h1 h) (fun h => ab_CT_71_73 mi h h2)
theorem ab_CT_68_73 : ∀ mi, 68 ≤ mi → mi < 73 → ab_CT mi := fun mi h1 h2 => (Nat.lt_or_ge mi 70).elim (fun h => ab_CT_68_70 mi h1 h) (fun h => ab_CT_70_73 mi h h2)
theorem ab_CT_63_73 : ∀ mi, 63 ≤ mi → mi < 73 → ab_CT mi := fun mi h1 h2 => (Nat.lt_or_ge mi 68).elim (fun h => ab_CT_63_68 mi h1 h) (fun h => ab_CT_68_73 mi h h2)
theorem ab_CT_54_73 : ∀ mi, 54 ≤ mi → mi < 73 → ab_CT mi := fun mi h1 h2 => (Nat.lt_or_ge mi 63).elim (fun h => ab_CT_54_63 mi h1 h) (fun h => ab_CT_63_73 mi h h2)
theorem ab_CT_36_73 : ∀ mi, 36 ≤ mi → mi < 73 → ab_CT mi := fun mi h1 h2 => (Nat.lt_or_ge mi 54).elim (fun h => ab_CT_36_54 mi h1 h) (fun h => ab_CT_54_73 mi h h2)
theorem ab_CT_0_73 : ∀ mi, 0 ≤ mi → mi < 73 → ab_CT mi := fun mi h1 h2 => (Nat.lt_or_ge mi 36).elim (fun h => ab_CT_0_36 mi h1 h) (fun h => ab_CT_36_73 mi h h2)
theorem ab_CT_73_74 : ∀ mi, 73 ≤ mi → mi < 74 → ab_CT mi := fun mi h1 h2 => by
  have e : mi = 73 := by omega
  subst e
  exact fun pc x h => ab_ct_spec ab_c73_ok rfl h
theorem ab_CT_74_75 : ∀ mi, 74 ≤ mi → mi < 75 → ab_CT mi := fun mi h1 h2 => by
  have e : mi = 74 := by omega
  subst e
  exact fun pc x h => ab_ct_spec ab_c74_ok rfl h
theorem ab_CT_73_75 : ∀ mi, 73 ≤ mi → mi < 75 → ab_CT mi := fun mi h1 h2 => (Nat.lt_or_ge mi 74).elim (fun h => ab_CT_73_74 mi h1 h) (fun h => ab_CT_74_75 mi h h2)
theorem ab_CT_75_76 : ∀ mi, 75 ≤ mi → mi < 76 → ab_CT mi := fun mi h1 h2 => by
  have e : mi = 75 := by omega
  subst e
  exact fun pc x h => ab_ct_spec ab_c75_ok rfl h
theorem ab_CT_76_77 : ∀ mi, 76 ≤ mi → mi < 77 → ab_CT mi := fun mi h1 h2 => by
  have e : mi = 76 := by omega
  subst e
  exact fun pc x h => ab_ct_spec ab_c76_ok rfl h
theorem ab_CT_75_77 : ∀ mi, 75 ≤ mi → mi < 77 → ab_CT mi := fun mi h1 h2 => (Nat.lt_or_ge mi 76).elim (fun h => ab_CT_75_76 mi h1 h) (fun h => ab_CT_76_77 mi h h2)
theorem ab_CT_73_77 : ∀ mi, 73 ≤ mi → mi < 77 → ab_CT mi := fun mi h1 h2 => (Nat.lt_or_ge mi 75).elim (fun h => ab_CT_73_75 mi h1 h) (fun h => ab_CT_75_77 mi h h2)
theorem ab_CT_77_78 : ∀ mi, 77 ≤ mi → mi < 78 → ab_CT mi := fun mi h1 h2 => by
  have e : mi = 77 := by omega
  subst e
  exact fun pc x h => ab_ct_spec ab_c77_ok rfl h
theorem ab_CT_78_79 : ∀ mi, 78 ≤ mi → mi < 79 → ab_CT mi := fun mi h1 h2 => by
  have e : mi = 78 := by omega
  subst e
  exact fun pc x h => ab_ct_spec ab_c78_ok rfl h
theorem ab_CT_77_79 : ∀ mi, 77 ≤ mi → mi < 79 → ab_CT mi := fun mi h1 h2 => (Nat.lt_or_ge mi 78).elim (fun h => ab_CT_77_78 mi h1 h) (fun h => ab_CT_78_79 mi h h2)
theorem ab_CT_79_80 : ∀ mi, 79 ≤ mi → mi < 80 → ab_CT mi := fun mi h1 h2 => by
  have e : mi = 79 := by omega
  subst e
  exact fun pc x h => ab_ct_spec ab_c79_ok rfl h
theorem ab_CT_80_81 : ∀ mi, 80 ≤ mi → mi < 81 → ab_CT mi := fun mi h1 h2 => by
  have e : mi = 80 := by omega
  subst e
  exact fun pc x h => ab_ct_spec ab_c80_ok rfl h
theorem ab_CT_81_82 : ∀ mi, 81 ≤ mi → mi < 82 → ab_CT mi := fun mi h1 h2 => by
  have e : mi = 81 := by omega
  subst e
  exact fun pc x h => ab_ct_spec ab_c81_ok rfl h
theorem ab_CT_80_82 : ∀ mi, 80 ≤ mi → mi < 82 → ab_CT mi := fun mi h1 h2 => (Nat.lt_or_ge mi 81).elim (fun h => ab_CT_80_81 mi h1 h) (fun h => ab_CT_81_82 mi h h2)
theorem ab_CT_79_82 : ∀ mi, 79 ≤ mi → mi < 82 → ab_CT mi := fun mi h1 h2 => (Nat.lt_or_ge mi 80).elim (fun h => ab_CT_79_80 mi h1 h) (fun h => ab_CT_80_82 mi h h2)
theorem ab_CT_77_82 : ∀ mi, 77 ≤ mi → mi < 82 → ab_CT mi := fun mi h1 h2 => (Nat.lt_or_ge mi 79).elim (fun h => ab_CT_77_79 mi h1 h) (fun h => ab_CT_79_82 mi h h2)
theorem ab_CT_73_82 : ∀ mi, 73 ≤ mi → mi < 82 → ab_CT mi := fun mi h1 h2 => (Nat.lt_or_ge mi 77).elim (fun h => ab_CT_73_77 mi h1 h) (fun h => ab_CT_77_82 mi h h2)
theorem ab_CT_82_83 : ∀ mi, 82 ≤ mi → mi < 83 → ab_CT mi := fun mi h1 h2 => by
  have e : mi = 82 := by omega
  subst e
  exact fun pc x h => ab_ct_spec ab_c82_ok rfl h
theorem ab_CT_83_84 : ∀ mi, 83 ≤ mi → mi < 84 → ab_CT mi := fun mi h1 h2 => by
  have e : mi = 83 := by omega
  subst e
  exact fun pc x h => ab_ct_spec ab_c83_ok rfl h
theorem ab_CT_82_84 : ∀ mi, 82 ≤ mi → mi < 84 → ab_CT mi := fun mi h1 h2 => (Nat.lt_or_ge mi 83).elim (fun h => ab_CT_82_83 mi h1 h) (fun h => ab_CT_83_84 mi h h2)
theorem ab_CT_84_85 : ∀ mi, 84 ≤ mi → mi < 85 → ab_CT mi := fun mi h1 h2 => by
  have e : mi = 84 := by omega
  subst e
  exact fun pc x h => ab_ct_spec ab_c84_ok rfl h
theorem ab_CT_85_86 : ∀ mi, 85 ≤ mi → mi < 86 → ab_CT mi := fun mi h1 h2 => by
  have e : mi = 85 := by omega
  subst e
  exact fun pc x h => ab_ct_spec ab_c85_ok rfl h
theorem ab_CT_84_86 : ∀ mi, 84 ≤ mi → mi < 86 → ab_CT mi := fun mi h1 h2 => (Nat.lt_or_ge mi 85).elim (fun h => ab_CT_84_85 mi h1 h) (fun h => ab_CT_85_86 mi h h2)
theorem ab_CT_82_86 : ∀ mi, 82 ≤ mi → mi < 86 → ab_CT mi := fun mi h1 h2 => (Nat.lt_or_ge mi 84).elim (fun h => ab_CT_82_84 mi h1 h) (fun h => ab_CT_84_86 mi h h2)
theorem ab_CT_86_87 : ∀ mi, 86 ≤ mi → mi < 87 → ab_CT mi := fun mi h1 h2 => by
  have e : mi = 86 := by omega
  subst e
  exact fun pc x h => ab_ct_spec ab_c86_ok rfl h
theorem ab_CT_87_88 : ∀ mi, 87 ≤ mi → mi < 88 → ab_CT mi := fun mi h1 h2 => by
  have e : mi = 87 := by omega
  subst e
  exact fun pc x h => ab_ct_spec ab_c87_ok rfl h
theorem ab_CT_86_88 : ∀ mi, 86 ≤ mi → mi < 88 → ab_CT mi := fun mi h1 h2 => (Nat.lt_or_ge mi 87).elim (fun h => ab_CT_86_87 mi h1 h) (fun h => ab_CT_87_88 mi h h2)
theorem ab_CT_88_89 : ∀ mi, 88 ≤ mi → mi < 89 → ab_CT mi := fun mi h1 h2 => by
  have e : mi = 88 := by omega
  subst e
  exact fun pc x h => ab_ct_spec ab_c88_ok rfl h
theorem ab_CT_89_90 : ∀ mi, 89 ≤ mi → mi < 90 → ab_CT mi := fun mi h1 h2 => by
  have e : mi = 89 := by omega
  subst e
  exact fun pc x h => ab_ct_spec ab_c89_ok rfl h
theorem ab_CT_90_91 : ∀ mi, 90 ≤ mi → mi < 91 → ab_CT mi := fun mi h1 h2 => by
  have e : mi = 90 := by omega
  subst e
  exact fun pc x h => ab_ct_spec ab_c90_ok rfl h
theorem ab_CT_89_91 : ∀ mi, 89 ≤ mi → mi < 91 → ab_CT mi := fun mi h1 h2 => (Nat.lt_or_ge mi 90).elim (fun h => ab_CT_89_90 mi h1 h) (fun h => ab_CT_90_91 mi h h2)
theorem ab_CT_88_91 : ∀ mi, 88 ≤ mi → mi < 91 → ab_CT mi := fun mi h1 h2 => (Nat.lt_or_ge mi 89).elim (fun h => ab_CT_88_89 mi h1 h) (fun h => ab_CT_89_91 mi h h2)
theorem ab_CT_86_91 : ∀ mi, 86 ≤ mi → mi < 91 → ab_CT mi := fun mi h1 h2 => (Nat.lt_or_ge mi 88).elim (fun h => ab_CT_86_88 mi h1 h) (fun h => ab_CT_88_91 mi h h2)
theorem ab_CT_82_91 : ∀ mi, 82 ≤ mi → mi < 91 → ab_CT mi := fun mi h1 h2 => (Nat.lt_or_ge mi 86).elim (fun h => ab_CT_82_86 mi h1 h) (fun h => ab_CT_86_91 mi h h2)
theorem ab_CT_73_91 : ∀ mi, 73 ≤ mi → mi < 91 → ab_CT mi := fun mi h1 h2 => (Nat.lt_or_ge mi 82).elim (fun h => ab_CT_73_82 mi h1 h) (fun h => ab_CT_82_91 mi h h2)
theorem ab_CT_91_92 : ∀ mi, 91 ≤ mi → mi < 92 → ab_CT mi := fun mi h1 h2 => by
  have e : mi = 91 := by omega
  subst e
  exact fun pc x h => ab_ct_spec ab_c91_ok rfl h
theorem ab_CT_92_93 : ∀ mi, 92 ≤ mi → mi < 93 → ab_CT mi := fun mi h1 h2 => by
  have e : mi = 92 := by omega
  subst e
  exact fun pc x h => ab_ct_spec ab_c92_ok rfl h
theorem ab_CT_91_93 : ∀ mi, 91 ≤ mi → mi < 93 → ab_CT mi := fun mi h1 h2 => (Nat.lt_or_ge mi 92).elim (fun h => ab_CT_91_92 mi h1 h) (fun h => ab_CT_92_93 mi h h2)
theorem ab_CT_93_94 : ∀ mi, 93 ≤ mi → mi < 94 → ab_CT mi := fun mi h1 h2 => by
  have e : mi = 93 := by omega
  subst e
  exact fun pc x h => ab_ct_spec ab_c93_ok rfl h
theorem ab_CT_94_95 : ∀ mi, 94 ≤ mi → mi < 95 → ab_CT mi := fun mi h1 h2 => by
  have e : mi = 94 := by omega
  subst e
  exact fun pc x h => ab_ct_spec ab_c94_ok rfl h
theorem ab_CT_93_95 : ∀ mi, 93 ≤ mi → mi < 95 → ab_CT mi := fun mi h1 h2 => (Nat.lt_or_ge mi 94).elim (fun h => ab_CT_93_94 mi h1 h) (fun h => ab_CT_94_95 mi h h2)
theorem ab_CT_91_95 : ∀ mi, 91 ≤ mi → mi < 95 → ab_CT mi := fun mi h1 h2 => (Nat.lt_or_ge mi 93).elim (fun h => ab_CT_91_93 mi h1 h) (fun h => ab_CT_93_95 mi h h2)
theorem ab_CT_95_96 : ∀ mi, 95 ≤ mi → mi < 96 → ab_CT mi := fun mi h1 h2 => by
  have e : mi = 95 := by omega
  subst e
  exact fun pc x h => ab_ct_spec ab_c95_ok rfl h
theorem ab_CT_96_97 : ∀ mi, 96 ≤ mi → mi < 97 → ab_CT mi := fun mi h1 h2 => by
  have e : mi = 96 := by omega
  subst e
  exact fun pc x h => ab_ct_spec ab_c96_ok rfl h
theorem ab_CT_95_97 : ∀ mi, 95 ≤ mi → mi < 97 → ab_CT mi := fun mi h1 h2 => (Nat.lt_or_ge mi 96).elim (fun h => ab_CT_95_96 mi h1 h) (fun h => ab_CT_96_97 mi h h2)
theorem ab_CT_97_98 : ∀ mi, 97 ≤ mi → mi < 98 → ab_CT mi := fun mi h1 h2 => by
  have e : mi = 97 := by omega
  subst e
  exact fun pc x h => ab_ct_spec ab_c97_ok rfl h
theorem ab_CT_98_99 : ∀ mi, 98 ≤ mi → mi < 99 → ab_CT mi := fun mi h1 h2 => by
  have e : mi = 98 := by omega
  subst e
  exact fun pc x h => ab_ct_spec ab_c98_ok rfl h
theorem ab_CT_99_100 : ∀ mi, 99 ≤ mi → mi < 100 → ab_CT mi := fun mi h1 h2 => by
  have e : mi = 99 := by omega
  subst e
  exact fun pc x h => ab_ct_spec ab_c99_ok rfl h
theorem ab_CT_98_100 : ∀ mi, 98 ≤ mi → mi < 100 → ab_CT mi := fun mi h1 h2 => (Nat.lt_or_ge mi 99).elim (fun h => ab_CT_98_99 mi h1 h) (fun h => ab_CT_99_100 mi h h2)
theorem ab_CT_97_100 : ∀ mi, 97 ≤ mi → mi < 100 → ab_CT mi := fun mi h1 h2 => (Nat.lt_or_ge mi 98).elim (fun h => ab_CT_97_98 mi h1 h) (fun h => ab_CT_98_100 mi h h2)
theorem ab_CT_95_100 : ∀ mi, 95 ≤ mi → mi < 100 → ab_CT mi := fun mi h1 h2 => (Nat.lt_or_ge mi 97).elim (fun h => ab_CT_95_97 mi h1 h) (fun h => ab_CT_97_100 mi h h2)
theorem ab_CT_91_100 : ∀ mi, 91 ≤ mi → mi < 100 → ab_CT mi := fun mi h1 h2 => (Nat.lt_or_ge mi 95).elim (fun h => ab_CT_91_95 mi h1 h) (fun h => ab_CT_95_100 mi h h2)
theorem ab_CT_100_101 : ∀ mi, 100 ≤ mi → mi < 101 → ab_CT mi := fun mi h1 h2 => by
  have e : mi = 100 := by omega
  subst e
  exact fun pc x h => ab_ct_spec ab_c100_ok rfl h
theorem ab_CT_101_102 : ∀ mi, 101 ≤ mi → mi < 102 → ab_CT mi := fun mi h1 h2 => by
  have e : mi = 101 := by omega
  subst e
  exact fun pc x h => ab_ct_spec ab_c101_ok rfl h
theorem ab_CT_100_102 : ∀ mi, 100 ≤ mi → mi < 102 → ab_CT mi := fun mi h1 h2 => (Nat.lt_or_ge mi 101).elim (fun h => ab_CT_100_101 mi h1 h) (fun h => ab_CT_101_102 mi h h2)
theorem ab_CT_102_103 : ∀ mi, 102 ≤ mi → mi < 103 → ab_CT mi := fun mi h1 h2 => by
  have e : mi = 102 := by omega
  subst e
  exact fun pc x h => ab_ct_spec ab_c102_ok rfl h
theorem ab_CT_103_104 : ∀ mi, 103 ≤ mi → mi < 104 → ab_CT mi := fun mi h1 h2 => by
  have e : mi = 103 := by omega
  subst e
  exact fun pc x h => ab_ct_spec ab_c103_ok rfl h
theorem ab_CT_102_104 : ∀ mi, 102 ≤ mi → mi < 104 → ab_CT mi := fun mi h1 h2 => (Nat.lt_or_ge mi 103).elim (fun h => ab_CT_102_103 mi h1 h) (fun h => ab_CT_103_104 mi h h2)
theorem ab_CT_100_104 : ∀ mi, 100 ≤ mi → mi < 104 → ab_CT mi := fun mi h1 h2 => (Nat.lt_or_ge mi 102).elim (fun h => ab_CT_100_102 mi h1 h) (fun h => ab_CT_102_104 mi h h2)
theorem ab_CT_104_105 : ∀ mi, 104 ≤ mi → mi < 105 → ab_CT mi := fun mi h1 h2 => by
  have e : mi = 104 := by omega
  subst e
  exact fun pc x h => ab_ct_spec ab_c104_ok rfl h
theorem ab_CT_105_106 : ∀ mi, 105 ≤ mi → mi < 106 → ab_CT mi := fun mi h1 h2 => by
  have e : mi = 105 := by omega
  subst e
  exact fun pc x h => ab_ct_spec ab_c105_ok rfl h
theorem ab_CT_104_106 : ∀ mi, 104 ≤ mi → mi < 106 → ab_CT mi := fun mi h1 h2 => (Nat.lt_or_ge mi 105).elim (fun h => ab_CT_104_105 mi h1 h) (fun h => ab_CT_105_106 mi h h2)
theorem ab_CT_106_107 : ∀ mi, 106 ≤ mi → mi < 107 → ab_CT mi := fun mi h1 h2 => by
  have e : mi = 106 := by omega
  subst e
  exact fun pc x h => ab_ct_spec ab_c106_ok rfl h
theorem ab_CT_107_108 : ∀ mi, 107 ≤ mi → mi < 108 → ab_CT mi := fun mi h1 h2 => by
  have e : mi = 107 := by omega
  subst e
  exact fun pc x h => ab_ct_spec ab_c107_ok rfl h
theorem ab_CT_108_109 : ∀ mi, 108 ≤ mi → mi < 109 → ab_CT mi := fun mi h1 h2 => by
  have e : mi = 108 := by omega
  subst e
  exact fun pc x h => ab_ct_spec ab_c108_ok rfl h
theorem ab_CT_107_109 : ∀ mi, 107 ≤ mi → mi < 109 → ab_CT mi := fun mi h1 h2 => (Nat.lt_or_ge mi 108).elim (fun h => ab_CT_107_108 mi h1 h) (fun h => ab_CT_108_109 mi h h2)
theorem ab_CT_106_109 : ∀ mi, 106 ≤ mi → mi < 109 → ab_CT mi := fun mi h1 h2 => (Nat.lt_or_ge mi 107).elim (fun h => ab_CT_106_107 mi h1 h) (fun h => ab_CT_107_109 mi h h2)
theorem ab_CT_104_109 : ∀ mi, 104 ≤ mi → mi < 109 → ab_CT mi := fun mi h1 h2 => (Nat.lt_or_ge mi 106).elim (fun h => ab_CT_104_106 mi h1 h) (fun h => ab_CT_106_109 mi h h2)
theorem ab_CT_100_109 : ∀ mi, 100 ≤ mi → mi < 109 → ab_CT mi := fun mi h1 h2 => (Nat.lt_or_ge mi 104).elim (fun h => ab_CT_100_104 mi h1 h) (fun h => ab_CT_104_109 mi h h2)
theorem ab_CT_91_109 : ∀ mi, 91 ≤ mi → mi < 109 → ab_CT mi := fun mi h1 h2 => (Nat.lt_or_ge mi 100).elim (fun h => ab_CT_91_100 mi h1 h) (fun h => ab_CT_100_109 mi h h2)
theorem ab_CT_73_109 : ∀ mi, 73 ≤ mi → mi < 109 → ab_CT mi := fun mi h1 h2 => (Nat.lt_or_ge mi 91).elim (fun h => ab_CT_73_91 mi h1 h) (fun h => ab_CT_91_109 mi h h2)
theorem ab_CT_109_110 : ∀ mi, 109 ≤ mi → mi < 110 → ab_CT mi := fun mi h1 h2 => by
  have e : mi = 109 := by omega
  subst e
  exact fun pc x h => ab_ct_spec ab_c109_ok rfl h
theorem ab_CT_110_111 : ∀ mi, 110 ≤ mi → mi < 111 → ab_CT mi := fun mi h1 h2 => by
  have e : mi = 110 := by omega
  subst e
  exact fun pc x h => ab_ct_spec ab_c110_ok rfl h
theorem ab_CT_109_111 : ∀ mi, 109 ≤ mi → mi < 111 → ab_CT mi := fun mi h1 h2 => (Nat.lt_or_ge mi 110).elim (fun h => ab_CT_109_110 mi h1 h) (fun h => ab_CT_110_111 mi h h2)
theorem ab_CT_111_112 : ∀ mi, 111 ≤ mi → mi < 112 → ab_CT mi := fun mi h1 h2 => by
  have e : mi = 111 := by omega
  subst e
  exact fun pc x h => ab_ct_spec ab_c111_ok rfl h
theorem ab_CT_112_113 : ∀ mi, 112 ≤ mi → mi < 113 → ab_CT mi := fun mi h1 h2 => by
  have e : mi = 112 := by omega
  subst e
  exact fun pc x h => ab_ct_spec ab_c112_ok rfl h
theorem ab_CT_111_113 : ∀ mi, 111 ≤ mi → mi < 113 → ab_CT mi := fun mi h1 h2 => (Nat.lt_or_ge mi 112).elim (fun h => ab_CT_111_112 mi h1 h) (fun h => ab_CT_112_113 mi h h2)
theorem ab_CT_109_113 : ∀ mi, 109 ≤ mi → mi < 113 → ab_CT mi := fun mi h1 h2 => (Nat.lt_or_ge mi 111).elim (fun h => ab_CT_109_111 mi h1 h) (fun h => ab_CT_111_113 mi h h2)
theorem ab_CT_113_114 : ∀ mi, 113 ≤ mi → mi < 114 → ab_CT mi := fun mi h1 h2 => by
  have e : mi = 113 := by omega
  subst e
  exact fun pc x h => ab_ct_spec ab_c113_ok rfl h
theorem ab_CT_114_115 : ∀ mi, 114 ≤ mi → mi < 115 → ab_CT mi := fun mi h1 h2 => by
  have e : mi = 114 := by omega
  subst e
  exact fun pc x h => ab_ct_spec ab_c114_ok rfl h
theorem ab_CT_113_115 : ∀ mi, 113 ≤ mi → mi < 115 → ab_CT mi := fun mi h1 h2 => (Nat.lt_or_ge mi 114).elim (fun h => ab_CT_113_114 mi h1 h) (fun h => ab_CT_114_115 mi h h2)
theorem ab_CT_115_116 : ∀ mi, 115 ≤ mi → mi < 116 → ab_CT mi := fun mi h1 h2 => by
  have e : mi = 115 := by omega
  subst e
  exact fun pc x h => ab_ct_spec ab_c115_ok rfl h
theorem ab_CT_116_117 : ∀ mi, 116 ≤ mi → mi < 117 → ab_CT mi := fun mi h1 h2 => by
  have e : mi = 116 := by omega
  subst e
  exact fun pc x h => ab_ct_spec ab_c116_ok rfl h
theorem ab_CT_117_118 : ∀ mi, 117 ≤ mi → mi < 118 → ab_CT mi := fun mi h1 h2 => by
  have e : mi = 117 := by omega
  subst e
  exact fun pc x h => ab_ct_spec ab_c117_ok rfl h
theorem ab_CT_116_118 : ∀ mi, 116 ≤ mi → mi < 118 → ab_CT mi := fun mi h1 h2 => (Nat.lt_or_ge mi 117).elim (fun h => ab_CT_116_117 mi h1 h) (fun h => ab_CT_117_118 mi h h2)
theorem ab_CT_115_118 : ∀ mi, 115 ≤ mi → mi < 118 → ab_CT mi := fun mi h1 h2 => (Nat.lt_or_ge mi 116).elim (fun h => ab_CT_115_116 mi h1 h) (fun h => ab_CT_116_118 mi h h2)
theorem ab_CT_113_118 : ∀ mi, 113 ≤ mi → mi < 118 → ab_CT mi := fun mi h1 h2 => (Nat.lt_or_ge mi 115).elim (fun h => ab_CT_113_115 mi h1 h) (fun h => ab_CT_115_118 mi h h2)
theorem ab_CT_109_118 : ∀ mi, 109 ≤ mi → mi < 118 → ab_CT mi := fun mi h1 h2 => (Nat.lt_or_ge mi 113).elim (fun h => ab_CT_109_113 mi h1 h) (fun h => ab_CT_113_118 mi h h2)
theorem ab_CT_118_119 : ∀ mi, 118 ≤ mi → mi < 119 → ab_CT mi := fun mi h1 h2 => by
  have e : mi = 118 := by omega
  subst e
  exact fun pc x h => ab_ct_spec ab_c118_ok rfl h
theorem ab_CT_119_120 : ∀ mi, 119 ≤ mi → mi < 120 → ab_CT mi := fun mi h1 h2 => by
  have e : mi = 119 := by omega
  subst e
  exact fun pc x h => ab_ct_spec ab_c119_ok rfl h
theorem ab_CT_118_120 : ∀ mi, 118 ≤ mi → mi < 120 → ab_CT mi := fun mi h1 h2 => (Nat.lt_or_ge mi 119).elim (fun h => ab_CT_118_119 mi h1 h) (fun h => ab_CT_119_120 mi h h2)
theorem ab_CT_120_121 : ∀ mi, 120 ≤ mi → mi < 121 → ab_CT mi := fun mi h1 h2 => by
  have e : mi = 120 := by omega
  subst e
  exact fun pc x h => ab_ct_spec ab_c120_ok rfl h
theorem ab_CT_121_122 : ∀ mi, 121 ≤ mi → mi < 122 → ab_CT mi := fun mi h1 h2 => by
  have e : mi = 121 := by omega
  subst e
  exact fun pc x h => ab_ct_spec ab_c121_ok rfl h
theorem ab_CT_120_122 : ∀ mi, 120 ≤ mi → mi < 122 → ab_CT mi := fun mi h1 h2 => (Nat.lt_or_ge mi 121).elim (fun h => ab_CT_120_121 mi h1 h) (fun h => ab_CT_121_122 mi h h2)
theorem ab_CT_118_122 : ∀ mi, 118 ≤ mi → mi < 122 → ab_CT mi := fun mi h1 h2 => (Nat.lt_or_ge mi 120).elim (fun h => ab_CT_118_120 mi h1 h) (fun h => ab_CT_120_122 mi h h2)
theorem ab_CT_122_123 : ∀ mi, 122 ≤ mi → mi < 123 → ab_CT mi := fun mi h1 h2 => by
  have e : mi = 122 := by omega
  subst e
  exact fun pc x h => ab_ct_spec ab_c122_ok rfl h
theorem ab_CT_123_124 : ∀ mi, 123 ≤ mi → mi < 124 → ab_CT mi := fun mi h1 h2 => by
  have e : mi = 123 := by omega
  subst e
  exact fun pc x h => ab_ct_spec ab_c123_ok rfl h
theorem ab_CT_122_124 : ∀ mi, 122 ≤ mi → mi < 124 → ab_CT mi := fun mi h1 h2 => (Nat.lt_or_ge mi 123).elim (fun h => ab_CT_122_123 mi h1 h) (fun h => ab_CT_123_124 mi h h2)
theorem ab_CT_124_125 : ∀ mi, 124 ≤ mi → mi < 125 → ab_CT mi := fun mi h1 h2 => by
  have e : mi = 124 := by omega
  subst e
  exact fun pc x h => ab_ct_spec ab_c124_ok rfl h
theorem ab_CT_125_126 : ∀ mi, 125 ≤ mi → mi < 126 → ab_CT mi := fun mi h1 h2 => by
  have e : mi = 125 := by omega
  subst e
  exact fun pc x h => ab_ct_spec ab_c125_ok rfl h
theorem ab_CT_126_127 : ∀ mi, 126 ≤ mi → mi < 127 → ab_CT mi := fun mi h1 h2 => by
  have e : mi = 126 := by omega
  subst e
  exact fun pc x h => ab_ct_spec ab_c126_ok rfl h
theorem ab_CT_125_127 : ∀ mi, 125 ≤ mi → mi < 127 → ab_CT mi := fun mi h1 h2 => (Nat.lt_or_ge mi 126).elim (fun h => ab_CT_125_126 mi h1 h) (fun h => ab_CT_126_127 mi h h2)
theorem ab_CT_124_127 : ∀ mi, 124 ≤ mi → mi < 127 → ab_CT mi := fun mi h1 h2 => (Nat.lt_or_ge mi 125).elim (fun h => ab_CT_124_125 mi h1 h) (fun h => ab_CT_125_127 mi h h2)
theorem ab_CT_122_127 : ∀ mi, 122 ≤ mi → mi < 127 → ab_CT mi := fun mi h1 h2 => (Nat.lt_or_ge mi 124).elim (fun h => ab_CT_122_124 mi h1 h) (fun h => ab_CT_124_127 mi h h2)
theorem ab_CT_118_127 : ∀ mi, 118 ≤ mi → mi < 127 → ab_CT mi := fun mi h1 h2 => (Nat.lt_or_ge mi 122).elim (fun h => ab_CT_118_122 mi h1 h) (fun h => ab_CT_122_127 mi h h2)
theorem ab_CT_109_127 : ∀ mi, 109 ≤ mi → mi < 127 → ab_CT mi := fun mi h1 h2 => (Nat.lt_or_ge mi 118).elim (fun h => ab_CT_109_118 mi h1 h) (fun h => ab_CT_118_127 mi h h2)
theorem ab_CT_127_128 : ∀ mi, 127 ≤ mi → mi < 128 → ab_CT mi := fun mi h1 h2 => by
  have e : mi = 127 := by omega
  subst e
  exact fun pc x h => ab_ct_spec ab_c127_ok rfl h
theorem ab_CT_128_129 : ∀ mi, 128 ≤ mi → mi < 129 → ab_CT mi := fun mi h1 h2 => by
  have e : mi = 128 := by omega
  subst e
  exact fun pc x h => ab_ct_spec ab_c128_ok rfl h
theorem ab_CT_127_129 : ∀ mi, 127 ≤ mi → mi < 129 → ab_CT mi := fun mi h1 h2 => (Nat.lt_or_ge mi 128).elim (fun h => ab_CT_127_128 mi h1 h) (fun h => ab_CT_128_129 mi h h2)
theorem ab_CT_129_130 : ∀ mi, 129 ≤ mi → mi < 130 → ab_CT mi := fun mi h1 h2 => by
  have e : mi = 129 := by omega
  subst e
  exact fun pc x h => ab_ct_spec ab_c129_ok rfl h
theorem ab_CT_130_131 : ∀ mi, 130 ≤ mi → mi < 131 → ab_CT mi := fun mi h1 h2 => by
  have e : mi = 130 := by omega
  subst e
  exact fun pc x h => ab_ct_spec ab_c130_ok rfl h
theorem ab_CT_129_131 : ∀ mi, 129 ≤ mi → mi < 131 → ab_CT mi := fun mi h1 h2 => (Nat.lt_or_ge mi 130).elim (fun h => ab_CT_129_130 mi h1 h) (fun h => ab_CT_130_131 mi h h2)
theorem ab_CT_127_131 : ∀ mi, 127 ≤ mi → mi < 131 → ab_CT mi := fun mi h1 h2 => (Nat.lt_or_ge mi 129).elim (fun h => ab_CT_127_129 mi h1 h) (fun h => ab_CT_129_131 mi h h2)
theorem ab_CT_131_132 : ∀ mi, 131 ≤ mi → mi < 132 → ab_CT mi := fun mi h1 h2 => by
  have e : mi = 131 := by omega
  subst e
  exact fun pc x h => ab_ct_spec ab_c131_ok rfl h
theorem ab_CT_132_133 : ∀ mi, 132 ≤ mi → mi < 133 → ab_CT mi := fun mi h1 h2 => by
  have e : mi = 132 := by omega
  subst e
  exact fun pc x h => ab_ct_spec ab_c132_ok rfl h
theorem ab_CT_131_133 : ∀ mi, 131 ≤ mi → mi < 133 → ab_CT mi := fun mi h1 h2 => (Nat.lt_or_ge mi 132).elim (fun h => ab_CT_131_132 mi h1 h) (fun h => ab_CT_132_133 mi h h2)
theorem ab_CT_133_134 : ∀ mi, 133 ≤ mi → mi < 134 → ab_CT mi := fun mi h1 h2 => by
  have e : mi = 133 := by omega
  subst e
  exact fun pc x h => ab_ct_spec ab_c133_ok rfl h
theorem ab_CT_134_135 : ∀ mi, 134 ≤ mi → mi < 135 → ab_CT mi := fun mi h1 h2 => by
  have e : mi = 134 := by omega
  subst e
  exact fun pc x h => ab_ct_spec ab_c134_ok rfl h
theorem ab_CT_135_136 : ∀ mi, 135 ≤ mi → mi < 136 → ab_CT mi := fun mi h1 h2 => by
  have e : mi = 135 := by omega
  subst e
  exact fun pc x h => ab_ct_spec ab_c135_ok rfl h
theorem ab_CT_134_136 : ∀ mi, 134 ≤ mi → mi < 136 → ab_CT mi := fun mi h1 h2 => (Nat.lt_or_ge mi 135).elim (fun h => ab_CT_134_135 mi h1 h) (fun h => ab_CT_135_136 mi h h2)
theorem ab_CT_133_136 : ∀ mi, 133 ≤ mi → mi < 136 → ab_CT mi := fun mi h1 h2 => (Nat.lt_or_ge mi 134).elim (fun h => ab_CT_133_134 mi h1 h) (fun h => ab_CT_134_136 mi h h2)
theorem ab_CT_131_136 : ∀ mi, 131 ≤ mi → mi < 136 → ab_CT mi := fun mi h1 h2 => (Nat.lt_or_ge mi 133).elim (fun h => ab_CT_131_133 mi h1 h) (fun h => ab_CT_133_136 mi h h2)
theorem ab_CT_127_136 : ∀ mi, 127 ≤ mi → mi < 136 → ab_CT mi := fun mi h1 h2 => (Nat.lt_or_ge mi 131).elim (fun h => ab_CT_127_131 mi h1 h) (fun h => ab_CT_131_136 mi h h2)
theorem ab_CT_136_137 : ∀ mi, 136 ≤ mi → mi < 137 → ab_CT mi := fun mi h1 h2 => by
  have e : mi = 136 := by omega
  subst e
  exact fun pc x h => ab_ct_spec ab_c136_ok rfl h
theorem ab_CT_137_138 : ∀ mi, 137 ≤ mi → mi < 138 → ab_CT mi := fun mi h1 h2 => by
  have e : mi = 137 := by omega
  subst e
  exact fun pc x h => ab_ct_spec ab_c137_ok rfl h
theorem ab_CT_136_138 : ∀ mi, 136 ≤ mi → mi < 138 → ab_CT mi := fun mi h1 h2 => (Nat.lt_or_ge mi 137).elim (fun h => ab_CT_136_137 mi h1 h) (fun h => ab_CT_137_138 mi h h2)
theorem ab_CT_138_139 : ∀ mi, 138 ≤ mi → mi < 139 → ab_CT mi := fun mi h1 h2 => by
  have e : mi = 138 := by omega
  subst e
  exact fun pc x h => ab_ct_spec ab_c138_ok rfl h
theorem ab_CT_139_140 : ∀ mi, 139 ≤ mi → mi < 140 → ab_CT mi := fun mi h1 h2 => by
  have e : mi = 139 := by omega
  subst e
  exact fun pc x h => ab_ct_spec ab_c139_ok rfl h
theorem ab_CT_140_141 : ∀ mi, 140 ≤ mi → mi < 141 → ab_CT mi := fun mi h1 h2 => by
  have e : mi = 140 := by omega
  subst e
  exact fun pc x h => ab_ct_spec ab_c140_ok rfl h
theorem ab_CT_139_141 : ∀ mi, 139 ≤ mi → mi < 141 → ab_CT mi := fun mi h1 h2 => (Nat.lt_or_ge mi 140).elim (fun h => ab_CT_139_140 mi h1 h) (fun h => ab_CT_140_141 mi h h2)
theorem ab_CT_138_141 : ∀ mi, 138 ≤ mi → mi < 141 → ab_CT mi := fun mi h1 h2 => (Nat.lt_or_ge mi 139).elim (fun h => ab_CT_138_139 mi h1 h) (fun h => ab_CT_139_141 mi h h2)
theorem ab_CT_136_141 : ∀ mi, 136 ≤ mi → mi < 141 → ab_CT mi := fun mi h1 h2 => (Nat.lt_or_ge mi 138).elim (fun h => ab_CT_136_138 mi h1 h) (fun h => ab_CT_138_141 mi h h2)
theorem ab_CT_141_142 : ∀ mi, 141 ≤ mi → mi < 142 → ab_CT mi := fun mi h1 h2 => by
  have e : mi = 141 := by omega
  subst e
  exact fun pc x h => ab_ct_spec ab_c141_ok rfl h
theorem ab_CT_142_143 : ∀ mi, 142 ≤ mi → mi < 143 → ab_CT mi := fun mi h1 h2 => by
  have e : mi = 142 := by omega
  subst e
  exact fun pc x h => ab_ct_spec ab_c142_ok rfl h
theorem ab_CT_141_143 : ∀ mi, 141 ≤ mi → mi < 143 → ab_CT mi := fun mi h1 h2 => (Nat.lt_or_ge mi 142).elim (fun h => ab_CT_141_142 mi h1 h) (fun h => ab_CT_142_143 mi h h2)
theorem ab_CT_143_144 : ∀ mi, 143 ≤ mi → mi < 144 → ab_CT mi := fun mi h1 h2 => by
  have e : mi = 143 := by omega
  subst e
  exact fun pc x h => ab_ct_spec ab_c143_ok rfl h
theorem ab_CT_144_145 : ∀ mi, 144 ≤ mi → mi < 145 → ab_CT mi := fun mi h1 h2 => by
  have e : mi = 144 := by omega
  subst e
  exact fun pc x h => ab_ct_spec ab_c144_ok rfl h
theorem ab_CT_145_146 : ∀ mi, 145 ≤ mi → mi < 146 → ab_CT mi := fun mi h1 h2 => by
  have e : mi = 145 := by omega
  subst e
  exact fun pc x h => ab_ct_spec ab_c145_ok rfl h
theorem ab_CT_144_146 : ∀ mi, 144 ≤ mi → mi < 146 → ab_CT mi := fun mi h1 h2 => (Nat.lt_or_ge mi 145).elim (fun h => ab_CT_144_145 mi h1 h) (fun h => ab_CT_145_146 mi h h2)
theorem ab_CT_143_146 : ∀ mi, 143 ≤ mi → mi < 146 → ab_CT mi := fun mi h1 h2 => (Nat.lt_or_ge mi 144).elim (fun h => ab_CT_143_144 mi h1 h) (fun h => ab_CT_144_146 mi h h2)
theorem ab_CT_141_146 : ∀ mi, 141 ≤ mi → mi < 146 → ab_CT mi := fun mi h1 h2 => (Nat.lt_or_ge mi 143).elim (fun h => ab_CT_141_143 mi h1 h) (fun h => ab_CT_143_146 mi h h2)
theorem ab_CT_136_146 : ∀ mi, 136 ≤ mi → mi < 146 → ab_CT mi := fun mi h1 h2 => (Nat.lt_or_ge mi 141).elim (fun h => ab_CT_136_141 mi h1 h) (fun h => ab_CT_141_146 mi h h2)
theorem ab_CT_127_146 : ∀ mi, 127 ≤ mi → mi < 146 → ab_CT mi := fun mi h1 h2 => (Nat.lt_or_ge mi 136).elim (fun h => ab_CT_127_136 mi h1 h) (fun h => ab_CT_136_146 mi h h2)
theorem ab_CT_109_146 : ∀ mi, 109 ≤ mi → mi < 146 → ab_CT mi := fun mi h1 h2 => (Nat.lt_or_ge mi 127).elim (fun h => ab_CT_109_127 mi h1 h) (fun h => ab_CT_127_146 mi h h2)
theorem ab_CT_73_146 : ∀ mi, 73 ≤ mi → mi < 146 → ab_CT mi := fun mi h1 h2 => (Nat.lt_or_ge mi 109).elim (fun h => ab_CT_73_109 mi h1 h) (fun h => ab_CT_109_146 mi h h2)
theorem ab_CT_0_146 : ∀ mi, 0 ≤ mi → mi < 146 → ab_CT mi := fun mi h1 h2 => (Nat.lt_or_ge mi 73).elim (fun h => ab_CT_0_73 mi h1 h) (fun h => ab_CT_73_146 mi h h2)
end
section
/-! SOUNDNESS: what ab_ex says a method does, the machine does -/
theorem ab_M_len : ab_M.length = 146 := by decide +kernel
theorem ab_entry_len {n : Nat} {vs : List Value} (h : (ab_ent vs).length ≤ n) : (ab_entry n vs).length = n := by
  unfold ab_entry
  rw [List.length_append, List.length_replicate]
  omega
theorem ab_ex_sound (sc : Option (List Int32)) (l : Launch) (D : va_G) (y : Nat → ClassId) : ∀ n, ab_CS sc l D y (ab_ex sc n) := by
  intro n
  induction n with
  | zero => intro mi vs h r h' hx; cases hx
  | succ n ih =>
    intro mi vs h r h' hx hwf ad sz
    unfold ab_ex at hx
    split at hx
    · rename_i hc
      obtain ⟨u1, u2, u3, u4, u5, u6, u7⟩ := ab_M_use hc.1
      refine Met.ofW (cc := ab_by mi) (maxL := ab_mxl mi) (ret := ab_rt mi) u4 rfl ?_
      intro p e s m args below meth c s₁ B hml hv
      obtain ⟨rfl, hsz, hE, hP, hD0, hT⟩ := hv
      have hx0 := B.exec
      have hb := B.bytes
      have hr := B.returns
      have hts0 := atoms_spec (ws := ab_w mi) B.pre
      have hts : ∀ w ∈ ab_BIG, w.before ((vs.map (ab_cv ad)).toArray) s = true := fun w hw => hts0 w (List.mem_cons_of_mem _ hw)
      have hown : s.vm.findClass (ab_nm mi).cls = some m.cls := findClass_of_methodNamed B.named
      rw [u3] at hown
      have hlocks := B.notSynchronized
      have hin : meth.name = (ab_nm mi).name := (name_of_methodNamed B.named B.method).1
      subst hsz
      have hD := hD0.self (sz := s.heap.size)
      have hA : ∀ q, s.heap.size ≤ q → va_A (ab_ws y ad h) s.heap.size q := fun q h => Or.inr h
      have hS : va_S (va_A (ab_ws y ad h) s.heap.size) s.heap s.heap [] := va_S.rf
      have hl := lv_entry (vs.map (ab_cv ad)) (n := ab_mxl mi) (by rw [ab_ent_len]; exact hc.2)
      rw [lg_entry_eq]
      have hcode : ∀ pc ins len, ab_at mi pc = some (ins, len) → decode (ab_by mi) pc = .ok (ins, len) ∧ ab_lenok ins len = true ∧ ab_cok (ab_own mi) (ab_fr mi) (ab_lc mi) ins = true := fun pc ins len h => ab_CT_0_146 mi (Nat.zero_le _) (by rw [← ab_M_len]; exact hc.1) pc (ins, len) h
      have hrun := (ab_run_sound (p := p) (e := e) (R := (headSpec (ab_w mi) (ab_rm mi h h')).room) (below := below) (meth := meth) (c := c) (Q := MQ below (ab_Q D y ad h s.heap.size r h') ((vs.map (ab_cv ad)).toArray) s (ab_nx h' - ab_nx h) (ab_sl h' - ab_sl h) (va_A (ab_ws y ad h) s.heap.size)) (A := va_A (ab_ws y ad h) s.heap.size) (ad0 := ad) (h0 := h) (x := (r, h')) (fr := ab_fr mi) (lc := ab_lc mi) hx0 hb hml hown hts hA hE hT ih (fun hi => hin.trans (of_decide_eq_true hi)) (fun xs hxs => hT.2.2.2.2 xs hxs) hcode (Nat.le_refl _) (Nat.le_refl _) ⟨Nat.le_refl _, Nat.le_refl _⟩ (fun pc L S hh ins len hpc he => ab_end_sound (x := (r, h')) hx0 hb hr hlocks (hcode pc ins len hpc).1 (hcode pc ins len hpc).2.1 he) n _ hx).1
      have k := hrun ad s.heap [] _ hP hD hS hwf (ab_has_weak hl (ab_entry_sub ad _ vs)) (ab_entry_len hc.2) ⟨fun _ _ => rfl, fun _ => rfl⟩ (Nat.le_refl _) (Nat.le_refl _)
      have e1 : ab_nx (0, ab_entry (ab_mxl mi) vs, ([] : List Value), h).2.2.2 - ab_nx h = 0 := Nat.sub_self _
      have e2 : ab_sl (0, ab_entry (ab_mxl mi) vs, ([] : List Value), h).2.2.2 - ab_sl h = 0 := Nat.sub_self _
      rw [e1, e2] at k
      exact k
    · cases hx
end
section
/-! WHAT RUNS: rules over the abstract machine -/
def ab_leC (f g : Nat → List Value → ab_H → Option (Option Value × ab_H)) : Prop := ∀ mi vs h x, f mi vs h = some x → g mi vs h = some x
theorem ab_call_le {f g : Nat → List Value → ab_H → Option (Option Value × ab_H)} (hfg : ab_leC f g) {mi pc : Nat} {vs rest : List Value} {L : ab_L} {h : ab_H} {r : ab_F ⊕ (Option Value × ab_H)} (hs : ab_call f mi vs pc L rest h = some r) : ab_call g mi vs pc L rest h = some r := by
  unfold ab_call at hs ⊢
  split at hs
  · rename_i hc
    rw [if_pos hc]
    cases hf : f mi vs h with
    | none => rw [hf] at hs; cases hs
    | some x =>
      rw [hf] at hs
      rw [hfg _ _ _ _ hf]
      exact hs
  · cases hs
theorem ab_inv_le {f g : Nat → List Value → ab_H → Option (Option Value × ab_H)} (hfg : ab_leC f g) {own i pc : Nat} {virt : Bool} {L : ab_L} {S : List Value} {h : ab_H} {r : ab_F ⊕ (Option Value × ab_H)} (hs : ab_inv f own i virt pc L S h = some r) : ab_inv g own i virt pc L S h = some r := by
  unfold ab_inv at hs ⊢
  cases hm : ab_ml own i with
  | none => rw [hm] at hs; exact hs
  | some x =>
    obtain ⟨mi, kd⟩ := x
    rw [hm] at hs
    simp only at hs ⊢
    cases virt with
    | true =>
      simp only [if_true] at hs ⊢
      by_cases hk : kd = 0
      · simp only [if_pos hk] at hs ⊢
        cases hd : S.drop (ab_np mi) with
        | nil => rw [hd] at hs; exact hs
        | cons b rest =>
          rw [hd] at hs
          cases b <;> first | exact hs | skip
          rename_i b
          simp only at hs ⊢
          by_cases hc : (ab_ref h b (ab_own mi) && decide (ab_own mi < 8) && (S.take (ab_np mi)).all (ab_ok (ab_nx h))) = true
          · rw [if_pos hc] at hs ⊢
            exact ab_call_le hfg hs
          · rw [if_neg hc] at hs
            cases hs
      · simp only [if_neg hk] at hs ⊢
        exact hs
    | false =>
      simp only [Bool.false_eq_true, if_false] at hs ⊢
      by_cases hk : kd = 1 ∨ kd = 2
      · simp only [if_pos hk] at hs ⊢
        by_cases hc : ab_np mi ≤ S.length ∧ (S.take (ab_np mi)).all (ab_ok (ab_nx h)) = true
        · rw [if_pos hc] at hs ⊢
          exact ab_call_le hfg hs
        · rw [if_neg hc] at hs
          cases hs
      · simp only [if_neg hk] at hs ⊢
        exact hs
theorem ab_spc_le {f g : Nat → List Value → ab_H → Option (Option Value × ab_H)} (hfg : ab_leC f g) {own i pc : Nat} {L : ab_L} {S : List Value} {h : ab_H} {r : ab_F ⊕ (Option Value × ab_H)} (hs : ab_spc f own i pc L S h = some r) : ab_spc g own i pc L S h = some r := by
  unfold ab_spc at hs ⊢
  cases hm : ab_ml own i with
  | none => rw [hm] at hs; exact hs
  | some x =>
    obtain ⟨mi, kd⟩ := x
    rw [hm] at hs
    simp only at hs ⊢
    by_cases hk5 : kd = 5
    · simp only [if_pos hk5] at hs ⊢
      exact hs
    · simp only [if_neg hk5] at hs ⊢
      by_cases hk : kd = 3 ∨ kd = 4
      · simp only [if_pos hk] at hs ⊢
        cases S with
        | nil => exact hs
        | cons b rest =>
          cases b <;> first | exact hs | skip
          rename_i b
          simp only at hs ⊢
          by_cases hc : ab_np mi = 0 ∧ ab_ref h b (ab_own mi) = true ∧ ab_own mi < 8
          · rw [if_pos hc] at hs ⊢
            exact ab_call_le hfg hs
          · rw [if_neg hc] at hs
            cases hs
      · simp only [if_neg hk] at hs
        cases hs
theorem ab_step_le {f g : Nat → List Value → ab_H → Option (Option Value × ab_H)} (hfg : ab_leC f g) {own len pc : Nat} {ini : Bool} {ret : Option FieldType} {scr : Option (List Int32)} {ins : Instr} {L : ab_L} {S : List Value} {h : ab_H} {r : ab_F ⊕ (Option Value × ab_H)} (hs : ab_step f own ini ret scr ins len pc L S h = some r) : ab_step g own ini ret scr ins len pc L S h = some r := by
  cases ins with
  | invokevirtual i => exact ab_inv_le hfg hs
  | invokestatic i => exact ab_inv_le hfg hs
  | invokespecial i => exact ab_spc_le hfg hs
  | _ => exact hs
theorem ab_loop_le {f g : Nat → List Value → ab_H → Option (Option Value × ab_H)} (hfg : ab_leC f g) {code : Nat → Option (Instr × Nat)} {own : Nat} {ini : Bool} {ret : Option FieldType} {scr : Option (List Int32)} {x : Option Value × ab_H} : ∀ (n k : Nat) (F : ab_F), n ≤ k → ab_loop f code own ini ret scr n F = some x → ab_loop g code own ini ret scr k F = some x := by
  intro n
  induction n with
  | zero => intro k F _ h; cases h
  | succ n ih =>
    intro k F hk h
    obtain ⟨pc, L, S, hp⟩ := F
    obtain ⟨j, rfl⟩ : ∃ j, k = j + 1 := ⟨k - 1, by omega⟩
    unfold ab_loop at h ⊢
    cases hc : code pc with
    | none => rw [hc] at h; cases h
    | some q =>
      obtain ⟨ins, len⟩ := q
      rw [hc] at h
      simp only at h ⊢
      cases hst : ab_step f own ini ret scr ins len pc L S hp with
      | none => rw [hst] at h; cases h
      | some r =>
        rw [hst] at h
        rw [ab_step_le hfg hst]
        cases r with
        | inl st => exact ih j st (by omega) h
        | inr r => exact h
theorem ab_ex_le {sc : Option (List Int32)} : ∀ (n k : Nat), n ≤ k → ab_leC (ab_ex sc n) (ab_ex sc k) := by
  intro n
  induction n with
  | zero => intro k _ mi vs h x hx; cases hx
  | succ n ih =>
    intro k hk mi vs h x hx
    obtain ⟨j, rfl⟩ : ∃ j, k = j + 1 := ⟨k - 1, by omega⟩
    unfold ab_ex at hx ⊢
    split at hx
    · rename_i hc
      rw [if_pos hc]
      exact ab_loop_le (ih j (by omega)) n j _ (by omega) hx
    · cases hx
/-- a method, called so, comes to an end with Q -/
def Ex (mi : Nat) (vs : List Value) (h : ab_H) (Q : Option Value → ab_H → Prop) : Prop := ∃ (n : Nat) (r : Option Value) (h' : ab_H), ab_ex none n mi vs h = some (r, h') ∧ Q r h'
/-- from here a method comes to an end with Q -/
def Rn (mi : Nat) (F : ab_F) (Q : Option Value → ab_H → Prop) : Prop := ∃ (n : Nat) (r : Option Value) (h' : ab_H), ab_loop (ab_ex none n) (ab_at mi) (ab_own mi) (ab_ini mi) (ab_rt mi) none n F = some (r, h') ∧ Q r h'
/-- .. the next instruction being this one -/
def Go (x : Option (Instr × Nat)) (mi pc : Nat) (L : ab_L) (S : List Value) (h : ab_H) (Q : Option Value → ab_H → Prop) : Prop := match x with
  | some (ins, len) => ∃ n : Nat, match ab_step (ab_ex none n) (ab_own mi) (ab_ini mi) (ab_rt mi) none ins len pc L S h with
    | some (.inl F) => ∃ (r : Option Value) (h' : ab_H), ab_loop (ab_ex none n) (ab_at mi) (ab_own mi) (ab_ini mi) (ab_rt mi) none n F = some (r, h') ∧ Q r h'
    | some (.inr r) => Q r.1 r.2
    | none => False
  | none => False
theorem Rn_Go {mi pc : Nat} {L : ab_L} {S : List Value} {h : ab_H} {Q : Option Value → ab_H → Prop} : Rn mi (pc, L, S, h) Q ↔ Go (ab_at mi pc) mi pc L S h Q := by
  unfold Rn Go
  cases hc : ab_at mi pc with
  | none =>
    constructor
    · rintro ⟨n, r, h', h1, -⟩
      cases n with
      | zero => cases h1
      | succ n => unfold ab_loop at h1; rw [hc] at h1; cases h1
    · intro z; exact z.elim
  | some q =>
    obtain ⟨ins, len⟩ := q
    simp only
    constructor
    · rintro ⟨n, r, h', h1, hq⟩
      cases n with
      | zero => cases h1
      | succ n =>
        unfold ab_loop at h1
        rw [hc] at h1
        simp only at h1
        refine ⟨n + 1, ?_⟩
        cases hst : ab_step (ab_ex none (n + 1)) (ab_own mi) (ab_ini mi) (ab_rt mi) none ins len pc L S h with
        | none => rw [hst] at h1; cases h1
        | some x =>
          rw [hst] at h1
          cases x with
          | inl F =>
            simp only at h1 ⊢
            exact ⟨r, h', ab_loop_le (fun _ _ _ _ z => z) n (n + 1) F (by omega) h1, hq⟩
          | inr x =>
            simp only at h1 ⊢
            cases h1
            exact hq
    · rintro ⟨n, hn⟩
      cases hst : ab_step (ab_ex none n) (ab_own mi) (ab_ini mi) (ab_rt mi) none ins len pc L S h with
      | none => rw [hst] at hn; exact hn.elim
      | some x =>
        rw [hst] at hn
        have hst2 := ab_step_le (ab_ex_le n (n + 1) (by omega)) hst
        cases x with
        | inl F =>
          simp only at hn
          obtain ⟨r, h', h1, hq⟩ := hn
          refine ⟨n + 1, r, h', ?_, hq⟩
          unfold ab_loop
          rw [hc]
          simp only
          rw [hst2]
          exact ab_loop_le (ab_ex_le n (n + 1) (by omega)) n n F (Nat.le_refl _) h1
        | inr x =>
          simp only at hn
          refine ⟨n + 1, x.1, x.2, ?_, hn⟩
          unfold ab_loop
          rw [hc]
          simp only
          rw [hst2]
theorem Ex_Go {mi : Nat} {vs : List Value} {h : ab_H} {Q : Option Value → ab_H → Prop} (hm : mi < ab_M.length ∧ (ab_ent vs).length ≤ ab_mxl mi) : Ex mi vs h Q ↔ Go (ab_at mi 0) mi 0 (ab_entry (ab_mxl mi) vs) [] h Q := by
  rw [← Rn_Go]
  unfold Ex Rn
  constructor
  · rintro ⟨n, r, h', h1, hq⟩
    cases n with
    | zero => cases h1
    | succ n =>
      unfold ab_ex at h1
      rw [if_pos hm] at h1
      exact ⟨n, r, h', h1, hq⟩
  · rintro ⟨n, r, h', h1, hq⟩
    refine ⟨n + 1, r, h', ?_, hq⟩
    unfold ab_ex
    rw [if_pos hm]
    exact h1
theorem Go_next {mi pc pc' len : Nat} {ins : Instr} {L L' : ab_L} {S S' : List Value} {h h' : ab_H} {Q : Option Value → ab_H → Prop} (hst : ∀ call, ab_step call (ab_own mi) (ab_ini mi) (ab_rt mi) none ins len pc L S h = some (.inl (pc', L', S', h'))) : Go (some (ins, len)) mi pc L S h Q = Go (ab_at mi pc') mi pc' L' S' h' Q := by
  apply propext
  rw [← Rn_Go]
  unfold Go Rn
  simp only [hst]
theorem Go_stuck {mi pc len : Nat} {ins : Instr} {L : ab_L} {S : List Value} {h : ab_H} {Q : Option Value → ab_H → Prop} (hst : ∀ call, ab_step call (ab_own mi) (ab_ini mi) (ab_rt mi) none ins len pc L S h = none) : Go (some (ins, len)) mi pc L S h Q = False := by
  apply propext
  unfold Go
  simp only [hst]
  constructor
  · rintro ⟨n, hn⟩; exact hn
  · intro z; exact z.elim
theorem Go_end {mi pc len : Nat} {ins : Instr} {L : ab_L} {S : List Value} {h : ab_H} {r : Option Value × ab_H} {Q : Option Value → ab_H → Prop} (hst : ∀ call, ab_step call (ab_own mi) (ab_ini mi) (ab_rt mi) none ins len pc L S h = some (.inr r)) : Go (some (ins, len)) mi pc L S h Q = Q r.1 r.2 := by
  apply propext
  unfold Go
  simp only [hst]
  constructor
  · rintro ⟨n, hn⟩; exact hn
  · intro z; exact ⟨0, z⟩
end
section
/-! RULES: what an instruction asks, and where it leads -/
section RUL
variable {mi pc len : Nat} {L : ab_L} {S : List Value} {h : ab_H} {Q : Option Value → ab_H → Prop}
theorem Go_iconst {n : Int} : Go (some (.iconst n, len)) mi pc (L) (S) h Q = Go (ab_at mi (pc + 1)) mi (pc + 1) (L) (.int (Int32.ofInt n) :: S) h Q := Go_next fun _ => rfl
theorem Go_bipush {n : Int} : Go (some (.bipush n, len)) mi pc (L) (S) h Q = Go (ab_at mi (pc + 2)) mi (pc + 2) (L) (.int (Int8.ofInt n).toInt32 :: S) h Q := Go_next fun _ => rfl
theorem Go_sipush {n : Int} : Go (some (.sipush n, len)) mi pc (L) (S) h Q = Go (ab_at mi (pc + 3)) mi (pc + 3) (L) (.int (Int16.ofInt n).toInt32 :: S) h Q := Go_next fun _ => rfl
theorem Go_lconst {n : Fin 2} : Go (some (.lconst n, len)) mi pc (L) (S) h Q = Go (ab_at mi (pc + 1)) mi (pc + 1) (L) (.long (Int64.ofNat n) :: S) h Q := Go_next fun _ => rfl
theorem Go_iload_0 {x : Int32} : Go (some (.iload_n 0, len)) mi pc (some (.int x) :: L) (S) h Q = Go (ab_at mi (pc + 1)) mi (pc + 1) (some (.int x) :: L) (.int x :: S) h Q := Go_next fun _ => rfl
theorem Go_lload_0 {x : Int64} : Go (some (.lload_n 0, len)) mi pc (some (.long x) :: L) (S) h Q = Go (ab_at mi (pc + 1)) mi (pc + 1) (some (.long x) :: L) (.long x :: S) h Q := Go_next fun _ => rfl
theorem Go_aload_0 {x : Nat} : Go (some (.aload_n 0, len)) mi pc (some (.ref x) :: L) (S) h Q = Go (ab_at mi (pc + 1)) mi (pc + 1) (some (.ref x) :: L) (.ref x :: S) h Q := Go_next fun _ => rfl
theorem Go_istore_0 {b : Option Value} {x : Int32} : Go (some (.istore_n 0, len)) mi pc (b :: L) (.int x :: S) h Q = Go (ab_at mi (pc + 1)) mi (pc + 1) (ab_put 0 (.int x) (b :: L)) (S) h Q := Go_next fun _ => by unfold ab_step; exact if_pos (show 0 < List.length (b :: L) by simp)
theorem Go_astore_0 {b : Option Value} {x : Nat} : Go (some (.astore_n 0, len)) mi pc (b :: L) (.ref x :: S) h Q = Go (ab_at mi (pc + 1)) mi (pc + 1) (ab_put 0 (.ref x) (b :: L)) (S) h Q := Go_next fun _ => by unfold ab_step; exact if_pos (show 0 < List.length (b :: L) by simp)
theorem Go_lstore_0 {b b2 : Option Value} {x : Int64} : Go (some (.lstore_n 0, len)) mi pc (b :: b2 :: L) (.long x :: S) h Q = Go (ab_at mi (pc + 1)) mi (pc + 1) (ab_put 0 (.long x) (b :: b2 :: L)) (S) h Q := Go_next fun _ => by unfold ab_step; exact if_pos (show 1 < List.length (b :: b2 :: L) by simp)
theorem Go_iinc_0 {x : Int32} {n : Int} : Go (some (.iinc 0 n, len)) mi pc (some (.int x) :: L) (S) h Q = Go (ab_at mi (pc + 3)) mi (pc + 3) (ab_put 0 (.int (x + Int32.ofInt n)) (some (.int x) :: L)) (S) h Q := Go_next fun _ => by unfold ab_step; exact if_pos (show 0 < List.length (some (.int x) :: L) by simp)
theorem Go_iload_1 {a0 : Option Value} {x : Int32} : Go (some (.iload_n 1, len)) mi pc (a0 :: some (.int x) :: L) (S) h Q = Go (ab_at mi (pc + 1)) mi (pc + 1) (a0 :: some (.int x) :: L) (.int x :: S) h Q := Go_next fun _ => rfl
theorem Go_lload_1 {a0 : Option Value} {x : Int64} : Go (some (.lload_n 1, len)) mi pc (a0 :: some (.long x) :: L) (S) h Q = Go (ab_at mi (pc + 1)) mi (pc + 1) (a0 :: some (.long x) :: L) (.long x :: S) h Q := Go_next fun _ => rfl
theorem Go_aload_1 {a0 : Option Value} {x : Nat} : Go (some (.aload_n 1, len)) mi pc (a0 :: some (.ref x) :: L) (S) h Q = Go (ab_at mi (pc + 1)) mi (pc + 1) (a0 :: some (.ref x) :: L) (.ref x :: S) h Q := Go_next fun _ => rfl
theorem Go_istore_1 {a0 : Option Value} {b : Option Value} {x : Int32} : Go (some (.istore_n 1, len)) mi pc (a0 :: b :: L) (.int x :: S) h Q = Go (ab_at mi (pc + 1)) mi (pc + 1) (ab_put 1 (.int x) (a0 :: b :: L)) (S) h Q := Go_next fun _ => by unfold ab_step; exact if_pos (show 1 < List.length (a0 :: b :: L) by simp)
theorem Go_astore_1 {a0 : Option Value} {b : Option Value} {x : Nat} : Go (some (.astore_n 1, len)) mi pc (a0 :: b :: L) (.ref x :: S) h Q = Go (ab_at mi (pc + 1)) mi (pc + 1) (ab_put 1 (.ref x) (a0 :: b :: L)) (S) h Q := Go_next fun _ => by unfold ab_step; exact if_pos (show 1 < List.length (a0 :: b :: L) by simp)
theorem Go_lstore_1 {a0 : Option Value} {b b2 : Option Value} {x : Int64} : Go (some (.lstore_n 1, len)) mi pc (a0 :: b :: b2 :: L) (.long x :: S) h Q = Go (ab_at mi (pc + 1)) mi (pc + 1) (ab_put 1 (.long x) (a0 :: b :: b2 :: L)) (S) h Q := Go_next fun _ => by unfold ab_step; exact if_pos (show 2 < List.length (a0 :: b :: b2 :: L) by simp)
theorem Go_iinc_1 {a0 : Option Value} {x : Int32} {n : Int} : Go (some (.iinc 1 n, len)) mi pc (a0 :: some (.int x) :: L) (S) h Q = Go (ab_at mi (pc + 3)) mi (pc + 3) (ab_put 1 (.int (x + Int32.ofInt n)) (a0 :: some (.int x) :: L)) (S) h Q := Go_next fun _ => by unfold ab_step; exact if_pos (show 1 < List.length (a0 :: some (.int x) :: L) by simp)
theorem Go_iload_2 {a0 a1 : Option Value} {x : Int32} : Go (some (.iload_n 2, len)) mi pc (a0 :: a1 :: some (.int x) :: L) (S) h Q = Go (ab_at mi (pc + 1)) mi (pc + 1) (a0 :: a1 :: some (.int x) :: L) (.int x :: S) h Q := Go_next fun _ => rfl
theorem Go_lload_2 {a0 a1 : Option Value} {x : Int64} : Go (some (.lload_n 2, len)) mi pc (a0 :: a1 :: some (.long x) :: L) (S) h Q = Go (ab_at mi (pc + 1)) mi (pc + 1) (a0 :: a1 :: some (.long x) :: L) (.long x :: S) h Q := Go_next fun _ => rfl
theorem Go_aload_2 {a0 a1 : Option Value} {x : Nat} : Go (some (.aload_n 2, len)) mi pc (a0 :: a1 :: some (.ref x) :: L) (S) h Q = Go (ab_at mi (pc + 1)) mi (pc + 1) (a0 :: a1 :: some (.ref x) :: L) (.ref x :: S) h Q := Go_next fun _ => rfl
theorem Go_istore_2 {a0 a1 : Option Value} {b : Option Value} {x : Int32} : Go (some (.istore_n 2, len)) mi pc (a0 :: a1 :: b :: L) (.int x :: S) h Q = Go (ab_at mi (pc + 1)) mi (pc + 1) (ab_put 2 (.int x) (a0 :: a1 :: b :: L)) (S) h Q := Go_next fun _ => by unfold ab_step; exact if_pos (show 2 < List.length (a0 :: a1 :: b :: L) by simp)
theorem Go_astore_2 {a0 a1 : Option Value} {b : Option Value} {x : Nat} : Go (some (.astore_n 2, len)) mi pc (a0 :: a1 :: b :: L) (.ref x :: S) h Q = Go (ab_at mi (pc + 1)) mi (pc + 1) (ab_put 2 (.ref x) (a0 :: a1 :: b :: L)) (S) h Q := Go_next fun _ => by unfold ab_step; exact if_pos (show 2 < List.length (a0 :: a1 :: b :: L) by simp)
theorem Go_lstore_2 {a0 a1 : Option Value} {b b2 : Option Value} {x : Int64} : Go (some (.lstore_n 2, len)) mi pc (a0 :: a1 :: b :: b2 :: L) (.long x :: S) h Q = Go (ab_at mi (pc + 1)) mi (pc + 1) (ab_put 2 (.long x) (a0 :: a1 :: b :: b2 :: L)) (S) h Q := Go_next fun _ => by unfold ab_step; exact if_pos (show 3 < List.length (a0 :: a1 :: b :: b2 :: L) by simp)
theorem Go_iinc_2 {a0 a1 : Option Value} {x : Int32} {n : Int} : Go (some (.iinc 2 n, len)) mi pc (a0 :: a1 :: some (.int x) :: L) (S) h Q = Go (ab_at mi (pc + 3)) mi (pc + 3) (ab_put 2 (.int (x + Int32.ofInt n)) (a0 :: a1 :: some (.int x) :: L)) (S) h Q := Go_next fun _ => by unfold ab_step; exact if_pos (show 2 < List.length (a0 :: a1 :: some (.int x) :: L) by simp)
theorem Go_iload_3 {a0 a1 a2 : Option Value} {x : Int32} : Go (some (.iload_n 3, len)) mi pc (a0 :: a1 :: a2 :: some (.int x) :: L) (S) h Q = Go (ab_at mi (pc + 1)) mi (pc + 1) (a0 :: a1 :: a2 :: some (.int x) :: L) (.int x :: S) h Q := Go_next fun _ => rfl
theorem Go_lload_3 {a0 a1 a2 : Option Value} {x : Int64} : Go (some (.lload_n 3, len)) mi pc (a0 :: a1 :: a2 :: some (.long x) :: L) (S) h Q = Go (ab_at mi (pc + 1)) mi (pc + 1) (a0 :: a1 :: a2 :: some (.long x) :: L) (.long x :: S) h Q := Go_next fun _ => rfl
theorem Go_aload_3 {a0 a1 a2 : Option Value} {x : Nat} : Go (some (.aload_n 3, len)) mi pc (a0 :: a1 :: a2 :: some (.ref x) :: L) (S) h Q = Go (ab_at mi (pc + 1)) mi (pc + 1) (a0 :: a1 :: a2 :: some (.ref x) :: L) (.ref x :: S) h Q := Go_next fun _ => rfl
theorem Go_istore_3 {a0 a1 a2 : Option Value} {b : Option Value} {x : Int32} : Go (some (.istore_n 3, len)) mi pc (a0 :: a1 :: a2 :: b :: L) (.int x :: S) h Q = Go (ab_at mi (pc + 1)) mi (pc + 1) (ab_put 3 (.int x) (a0 :: a1 :: a2 :: b :: L)) (S) h Q := Go_next fun _ => by unfold ab_step; exact if_pos (show 3 < List.length (a0 :: a1 :: a2 :: b :: L) by simp)
theorem Go_astore_3 {a0 a1 a2 : Option Value} {b : Option Value} {x : Nat} : Go (some (.astore_n 3, len)) mi pc (a0 :: a1 :: a2 :: b :: L) (.ref x :: S) h Q = Go (ab_at mi (pc + 1)) mi (pc + 1) (ab_put 3 (.ref x) (a0 :: a1 :: a2 :: b :: L)) (S) h Q := Go_next fun _ => by unfold ab_step; exact if_pos (show 3 < List.length (a0 :: a1 :: a2 :: b :: L) by simp)
theorem Go_lstore_3 {a0 a1 a2 : Option Value} {b b2 : Option Value} {x : Int64} : Go (some (.lstore_n 3, len)) mi pc (a0 :: a1 :: a2 :: b :: b2 :: L) (.long x :: S) h Q = Go (ab_at mi (pc + 1)) mi (pc + 1) (ab_put 3 (.long x) (a0 :: a1 :: a2 :: b :: b2 :: L)) (S) h Q := Go_next fun _ => by unfold ab_step; exact if_pos (show 4 < List.length (a0 :: a1 :: a2 :: b :: b2 :: L) by simp)
theorem Go_iinc_3 {a0 a1 a2 : Option Value} {x : Int32} {n : Int} : Go (some (.iinc 3 n, len)) mi pc (a0 :: a1 :: a2 :: some (.int x) :: L) (S) h Q = Go (ab_at mi (pc + 3)) mi (pc + 3) (ab_put 3 (.int (x + Int32.ofInt n)) (a0 :: a1 :: a2 :: some (.int x) :: L)) (S) h Q := Go_next fun _ => by unfold ab_step; exact if_pos (show 3 < List.length (a0 :: a1 :: a2 :: some (.int x) :: L) by simp)
theorem Go_iload_4 {a0 a1 a2 a3 : Option Value} {x : Int32} : Go (some (.iload 4, len)) mi pc (a0 :: a1 :: a2 :: a3 :: some (.int x) :: L) (S) h Q = Go (ab_at mi (pc + 2)) mi (pc + 2) (a0 :: a1 :: a2 :: a3 :: some (.int x) :: L) (.int x :: S) h Q := Go_next fun _ => rfl
theorem Go_lload_4 {a0 a1 a2 a3 : Option Value} {x : Int64} : Go (some (.lload 4, len)) mi pc (a0 :: a1 :: a2 :: a3 :: some (.long x) :: L) (S) h Q = Go (ab_at mi (pc + 2)) mi (pc + 2) (a0 :: a1 :: a2 :: a3 :: some (.long x) :: L) (.long x :: S) h Q := Go_next fun _ => rfl
theorem Go_istore_4 {a0 a1 a2 a3 : Option Value} {b : Option Value} {x : Int32} : Go (some (.istore 4, len)) mi pc (a0 :: a1 :: a2 :: a3 :: b :: L) (.int x :: S) h Q = Go (ab_at mi (pc + 2)) mi (pc + 2) (ab_put 4 (.int x) (a0 :: a1 :: a2 :: a3 :: b :: L)) (S) h Q := Go_next fun _ => by unfold ab_step; exact if_pos (show 4 < List.length (a0 :: a1 :: a2 :: a3 :: b :: L) by simp)
theorem Go_lstore_4 {a0 a1 a2 a3 : Option Value} {b b2 : Option Value} {x : Int64} : Go (some (.lstore 4, len)) mi pc (a0 :: a1 :: a2 :: a3 :: b :: b2 :: L) (.long x :: S) h Q = Go (ab_at mi (pc + 2)) mi (pc + 2) (ab_put 4 (.long x) (a0 :: a1 :: a2 :: a3 :: b :: b2 :: L)) (S) h Q := Go_next fun _ => by unfold ab_step; exact if_pos (show 5 < List.length (a0 :: a1 :: a2 :: a3 :: b :: b2 :: L) by simp)
theorem Go_iinc_4 {a0 a1 a2 a3 : Option Value} {x : Int32} {n : Int} : Go (some (.iinc 4 n, len)) mi pc (a0 :: a1 :: a2 :: a3 :: some (.int x) :: L) (S) h Q = Go (ab_at mi (pc + 3)) mi (pc + 3) (ab_put 4 (.int (x + Int32.ofInt n)) (a0 :: a1 :: a2 :: a3 :: some (.int x) :: L)) (S) h Q := Go_next fun _ => by unfold ab_step; exact if_pos (show 4 < List.length (a0 :: a1 :: a2 :: a3 :: some (.int x) :: L) by simp)
theorem Go_iload_5 {a0 a1 a2 a3 a4 : Option Value} {x : Int32} : Go (some (.iload 5, len)) mi pc (a0 :: a1 :: a2 :: a3 :: a4 :: some (.int x) :: L) (S) h Q = Go (ab_at mi (pc + 2)) mi (pc + 2) (a0 :: a1 :: a2 :: a3 :: a4 :: some (.int x) :: L) (.int x :: S) h Q := Go_next fun _ => rfl
theorem Go_lload_5 {a0 a1 a2 a3 a4 : Option Value} {x : Int64} : Go (some (.lload 5, len)) mi pc (a0 :: a1 :: a2 :: a3 :: a4 :: some (.long x) :: L) (S) h Q = Go (ab_at mi (pc + 2)) mi (pc + 2) (a0 :: a1 :: a2 :: a3 :: a4 :: some (.long x) :: L) (.long x :: S) h Q := Go_next fun _ => rfl
theorem Go_istore_5 {a0 a1 a2 a3 a4 : Option Value} {b : Option Value} {x : Int32} : Go (some (.istore 5, len)) mi pc (a0 :: a1 :: a2 :: a3 :: a4 :: b :: L) (.int x :: S) h Q = Go (ab_at mi (pc + 2)) mi (pc + 2) (ab_put 5 (.int x) (a0 :: a1 :: a2 :: a3 :: a4 :: b :: L)) (S) h Q := Go_next fun _ => by unfold ab_step; exact if_pos (show 5 < List.length (a0 :: a1 :: a2 :: a3 :: a4 :: b :: L) by simp)
theorem Go_lstore_5 {a0 a1 a2 a3 a4 : Option Value} {b b2 : Option Value} {x : Int64} : Go (some (.lstore 5, len)) mi pc (a0 :: a1 :: a2 :: a3 :: a4 :: b :: b2 :: L) (.long x :: S) h Q = Go (ab_at mi (pc + 2)) mi (pc + 2) (ab_put 5 (.long x) (a0 :: a1 :: a2 :: a3 :: a4 :: b :: b2 :: L)) (S) h Q := Go_next fun _ => by unfold ab_step; exact if_pos (show 6 < List.length (a0 :: a1 :: a2 :: a3 :: a4 :: b :: b2 :: L) by simp)
theorem Go_iinc_5 {a0 a1 a2 a3 a4 : Option Value} {x : Int32} {n : Int} : Go (some (.iinc 5 n, len)) mi pc (a0 :: a1 :: a2 :: a3 :: a4 :: some (.int x) :: L) (S) h Q = Go (ab_at mi (pc + 3)) mi (pc + 3) (ab_put 5 (.int (x + Int32.ofInt n)) (a0 :: a1 :: a2 :: a3 :: a4 :: some (.int x) :: L)) (S) h Q := Go_next fun _ => by unfold ab_step; exact if_pos (show 5 < List.length (a0 :: a1 :: a2 :: a3 :: a4 :: some (.int x) :: L) by simp)
theorem Go_iload_6 {a0 a1 a2 a3 a4 a5 : Option Value} {x : Int32} : Go (some (.iload 6, len)) mi pc (a0 :: a1 :: a2 :: a3 :: a4 :: a5 :: some (.int x) :: L) (S) h Q = Go (ab_at mi (pc + 2)) mi (pc + 2) (a0 :: a1 :: a2 :: a3 :: a4 :: a5 :: some (.int x) :: L) (.int x :: S) h Q := Go_next fun _ => rfl
theorem Go_lload_6 {a0 a1 a2 a3 a4 a5 : Option Value} {x : Int64} : Go (some (.lload 6, len)) mi pc (a0 :: a1 :: a2 :: a3 :: a4 :: a5 :: some (.long x) :: L) (S) h Q = Go (ab_at mi (pc + 2)) mi (pc + 2) (a0 :: a1 :: a2 :: a3 :: a4 :: a5 :: some (.long x) :: L) (.long x :: S) h Q := Go_next fun _ => rfl
theorem Go_istore_6 {a0 a1 a2 a3 a4 a5 : Option Value} {b : Option Value} {x : Int32} : Go (some (.istore 6, len)) mi pc (a0 :: a1 :: a2 :: a3 :: a4 :: a5 :: b :: L) (.int x :: S) h Q = Go (ab_at mi (pc + 2)) mi (pc + 2) (ab_put 6 (.int x) (a0 :: a1 :: a2 :: a3 :: a4 :: a5 :: b :: L)) (S) h Q := Go_next fun _ => by unfold ab_step; exact if_pos (show 6 < List.length (a0 :: a1 :: a2 :: a3 :: a4 :: a5 :: b :: L) by simp)
theorem Go_lstore_6 {a0 a1 a2 a3 a4 a5 : Option Value} {b b2 : Option Value} {x : Int64} : Go (some (.lstore 6, len)) mi pc (a0 :: a1 :: a2 :: a3 :: a4 :: a5 :: b :: b2 :: L) (.long x :: S) h Q = Go (ab_at mi (pc + 2)) mi (pc + 2) (ab_put 6 (.long x) (a0 :: a1 :: a2 :: a3 :: a4 :: a5 :: b :: b2 :: L)) (S) h Q := Go_next fun _ => by unfold ab_step; exact if_pos (show 7 < List.length (a0 :: a1 :: a2 :: a3 :: a4 :: a5 :: b :: b2 :: L) by simp)
theorem Go_iinc_6 {a0 a1 a2 a3 a4 a5 : Option Value} {x : Int32} {n : Int} : Go (some (.iinc 6 n, len)) mi pc (a0 :: a1 :: a2 :: a3 :: a4 :: a5 :: some (.int x) :: L) (S) h Q = Go (ab_at mi (pc + 3)) mi (pc + 3) (ab_put 6 (.int (x + Int32.ofInt n)) (a0 :: a1 :: a2 :: a3 :: a4 :: a5 :: some (.int x) :: L)) (S) h Q := Go_next fun _ => by unfold ab_step; exact if_pos (show 6 < List.length (a0 :: a1 :: a2 :: a3 :: a4 :: a5 :: some (.int x) :: L) by simp)
theorem Go_iload_7 {a0 a1 a2 a3 a4 a5 a6 : Option Value} {x : Int32} : Go (some (.iload 7, len)) mi pc (a0 :: a1 :: a2 :: a3 :: a4 :: a5 :: a6 :: some (.int x) :: L) (S) h Q = Go (ab_at mi (pc + 2)) mi (pc + 2) (a0 :: a1 :: a2 :: a3 :: a4 :: a5 :: a6 :: some (.int x) :: L) (.int x :: S) h Q := Go_next fun _ => rfl
theorem Go_lload_7 {a0 a1 a2 a3 a4 a5 a6 : Option Value} {x : Int64} : Go (some (.lload 7, len)) mi pc (a0 :: a1 :: a2 :: a3 :: a4 :: a5 :: a6 :: some (.long x) :: L) (S) h Q = Go (ab_at mi (pc + 2)) mi (pc + 2) (a0 :: a1 :: a2 :: a3 :: a4 :: a5 :: a6 :: some (.long x) :: L) (.long x :: S) h Q := Go_next fun _ => rfl
theorem Go_istore_7 {a0 a1 a2 a3 a4 a5 a6 : Option Value} {b : Option Value} {x : Int32} : Go (some (.istore 7, len)) mi pc (a0 :: a1 :: a2 :: a3 :: a4 :: a5 :: a6 :: b :: L) (.int x :: S) h Q = Go (ab_at mi (pc + 2)) mi (pc + 2) (ab_put 7 (.int x) (a0 :: a1 :: a2 :: a3 :: a4 :: a5 :: a6 :: b :: L)) (S) h Q := Go_next fun _ => by unfold ab_step; exact if_pos (show 7 < List.length (a0 :: a1 :: a2 :: a3 :: a4 :: a5 :: a6 :: b :: L) by simp)
theorem Go_lstore_7 {a0 a1 a2 a3 a4 a5 a6 : Option Value} {b b2 : Option Value} {x : Int64} : Go (some (.lstore 7, len)) mi pc (a0 :: a1 :: a2 :: a3 :: a4 :: a5 :: a6 :: b :: b2 :: L) (.long x :: S) h Q = Go (ab_at mi (pc + 2)) mi (pc + 2) (ab_put 7 (.long x) (a0 :: a1 :: a2 :: a3 :: a4 :: a5 :: a6 :: b :: b2 :: L)) (S) h Q := Go_next fun _ => by unfold ab_step; exact if_pos (show 8 < List.length (a0 :: a1 :: a2 :: a3 :: a4 :: a5 :: a6 :: b :: b2 :: L) by simp)
theorem Go_iinc_7 {a0 a1 a2 a3 a4 a5 a6 : Option Value} {x : Int32} {n : Int} : Go (some (.iinc 7 n, len)) mi pc (a0 :: a1 :: a2 :: a3 :: a4 :: a5 :: a6 :: some (.int x) :: L) (S) h Q = Go (ab_at mi (pc + 3)) mi (pc + 3) (ab_put 7 (.int (x + Int32.ofInt n)) (a0 :: a1 :: a2 :: a3 :: a4 :: a5 :: a6 :: some (.int x) :: L)) (S) h Q := Go_next fun _ => by unfold ab_step; exact if_pos (show 7 < List.length (a0 :: a1 :: a2 :: a3 :: a4 :: a5 :: a6 :: some (.int x) :: L) by simp)
theorem Go_iload_8 {a0 a1 a2 a3 a4 a5 a6 a7 : Option Value} {x : Int32} : Go (some (.iload 8, len)) mi pc (a0 :: a1 :: a2 :: a3 :: a4 :: a5 :: a6 :: a7 :: some (.int x) :: L) (S) h Q = Go (ab_at mi (pc + 2)) mi (pc + 2) (a0 :: a1 :: a2 :: a3 :: a4 :: a5 :: a6 :: a7 :: some (.int x) :: L) (.int x :: S) h Q := Go_next fun _ => rfl
theorem Go_lload_8 {a0 a1 a2 a3 a4 a5 a6 a7 : Option Value} {x : Int64} : Go (some (.lload 8, len)) mi pc (a0 :: a1 :: a2 :: a3 :: a4 :: a5 :: a6 :: a7 :: some (.long x) :: L) (S) h Q = Go (ab_at mi (pc + 2)) mi (pc + 2) (a0 :: a1 :: a2 :: a3 :: a4 :: a5 :: a6 :: a7 :: some (.long x) :: L) (.long x :: S) h Q := Go_next fun _ => rfl
theorem Go_istore_8 {a0 a1 a2 a3 a4 a5 a6 a7 : Option Value} {b : Option Value} {x : Int32} : Go (some (.istore 8, len)) mi pc (a0 :: a1 :: a2 :: a3 :: a4 :: a5 :: a6 :: a7 :: b :: L) (.int x :: S) h Q = Go (ab_at mi (pc + 2)) mi (pc + 2) (ab_put 8 (.int x) (a0 :: a1 :: a2 :: a3 :: a4 :: a5 :: a6 :: a7 :: b :: L)) (S) h Q := Go_next fun _ => by unfold ab_step; exact if_pos (show 8 < List.length (a0 :: a1 :: a2 :: a3 :: a4 :: a5 :: a6 :: a7 :: b :: L) by simp)
theorem Go_lstore_8 {a0 a1 a2 a3 a4 a5 a6 a7 : Option Value} {b b2 : Option Value} {x : Int64} : Go (some (.lstore 8, len)) mi pc (a0 :: a1 :: a2 :: a3 :: a4 :: a5 :: a6 :: a7 :: b :: b2 :: L) (.long x :: S) h Q = Go (ab_at mi (pc + 2)) mi (pc + 2) (ab_put 8 (.long x) (a0 :: a1 :: a2 :: a3 :: a4 :: a5 :: a6 :: a7 :: b :: b2 :: L)) (S) h Q := Go_next fun _ => by unfold ab_step; exact if_pos (show 9 < List.length (a0 :: a1 :: a2 :: a3 :: a4 :: a5 :: a6 :: a7 :: b :: b2 :: L) by simp)
theorem Go_iinc_8 {a0 a1 a2 a3 a4 a5 a6 a7 : Option Value} {x : Int32} {n : Int} : Go (some (.iinc 8 n, len)) mi pc (a0 :: a1 :: a2 :: a3 :: a4 :: a5 :: a6 :: a7 :: some (.int x) :: L) (S) h Q = Go (ab_at mi (pc + 3)) mi (pc + 3) (ab_put 8 (.int (x + Int32.ofInt n)) (a0 :: a1 :: a2 :: a3 :: a4 :: a5 :: a6 :: a7 :: some (.int x) :: L)) (S) h Q := Go_next fun _ => by unfold ab_step; exact if_pos (show 8 < List.length (a0 :: a1 :: a2 :: a3 :: a4 :: a5 :: a6 :: a7 :: some (.int x) :: L) by simp)
theorem Go_iload_9 {a0 a1 a2 a3 a4 a5 a6 a7 a8 : Option Value} {x : Int32} : Go (some (.iload 9, len)) mi pc (a0 :: a1 :: a2 :: a3 :: a4 :: a5 :: a6 :: a7 :: a8 :: some (.int x) :: L) (S) h Q = Go (ab_at mi (pc + 2)) mi (pc + 2) (a0 :: a1 :: a2 :: a3 :: a4 :: a5 :: a6 :: a7 :: a8 :: some (.int x) :: L) (.int x :: S) h Q := Go_next fun _ => rfl
theorem Go_lload_9 {a0 a1 a2 a3 a4 a5 a6 a7 a8 : Option Value} {x : Int64} : Go (some (.lload 9, len)) mi pc (a0 :: a1 :: a2 :: a3 :: a4 :: a5 :: a6 :: a7 :: a8 :: some (.long x) :: L) (S) h Q = Go (ab_at mi (pc + 2)) mi (pc + 2) (a0 :: a1 :: a2 :: a3 :: a4 :: a5 :: a6 :: a7 :: a8 :: some (.long x) :: L) (.long x :: S) h Q := Go_next fun _ => rfl
theorem Go_istore_9 {a0 a1 a2 a3 a4 a5 a6 a7 a8 : Option Value} {b : Option Value} {x : Int32} : Go (some (.istore 9, len)) mi pc (a0 :: a1 :: a2 :: a3 :: a4 :: a5 :: a6 :: a7 :: a8 :: b :: L) (.int x :: S) h Q = Go (ab_at mi (pc + 2)) mi (pc + 2) (ab_put 9 (.int x) (a0 :: a1 :: a2 :: a3 :: a4 :: a5 :: a6 :: a7 :: a8 :: b :: L)) (S) h Q := Go_next fun _ => by unfold ab_step; exact if_pos (show 9 < List.length (a0 :: a1 :: a2 :: a3 :: a4 :: a5 :: a6 :: a7 :: a8 :: b :: L) by simp)
theorem Go_lstore_9 {a0 a1 a2 a3 a4 a5 a6 a7 a8 : Option Value} {b b2 : Option Value} {x : Int64} : Go (some (.lstore 9, len)) mi pc (a0 :: a1 :: a2 :: a3 :: a4 :: a5 :: a6 :: a7 :: a8 :: b :: b2 :: L) (.long x :: S) h Q = Go (ab_at mi (pc + 2)) mi (pc + 2) (ab_put 9 (.long x) (a0 :: a1 :: a2 :: a3 :: a4 :: a5 :: a6 :: a7 :: a8 :: b :: b2 :: L)) (S) h Q := Go_next fun _ => by unfold ab_step; exact if_pos (show 10 < List.length (a0 :: a1 :: a2 :: a3 :: a4 :: a5 :: a6 :: a7 :: a8 :: b :: b2 :: L) by simp)
theorem Go_iinc_9 {a0 a1 a2 a3 a4 a5 a6 a7 a8 : Option Value} {x : Int32} {n : Int} : Go (some (.iinc 9 n, len)) mi pc (a0 :: a1 :: a2 :: a3 :: a4 :: a5 :: a6 :: a7 :: a8 :: some (.int x) :: L) (S) h Q = Go (ab_at mi (pc + 3)) mi (pc + 3) (ab_put 9 (.int (x + Int32.ofInt n)) (a0 :: a1 :: a2 :: a3 :: a4 :: a5 :: a6 :: a7 :: a8 :: some (.int x) :: L)) (S) h Q := Go_next fun _ => by unfold ab_step; exact if_pos (show 9 < List.length (a0 :: a1 :: a2 :: a3 :: a4 :: a5 :: a6 :: a7 :: a8 :: some (.int x) :: L) by simp)
theorem Go_iload_10 {a0 a1 a2 a3 a4 a5 a6 a7 a8 a9 : Option Value} {x : Int32} : Go (some (.iload 10, len)) mi pc (a0 :: a1 :: a2 :: a3 :: a4 :: a5 :: a6 :: a7 :: a8 :: a9 :: some (.int x) :: L) (S) h Q = Go (ab_at mi (pc + 2)) mi (pc + 2) (a0 :: a1 :: a2 :: a3 :: a4 :: a5 :: a6 :: a7 :: a8 :: a9 :: some (.int x) :: L) (.int x :: S) h Q := Go_next fun _ => rfl
theorem Go_lload_10 {a0 a1 a2 a3 a4 a5 a6 a7 a8 a9 : Option Value} {x : Int64} : Go (some (.lload 10, len)) mi pc (a0 :: a1 :: a2 :: a3 :: a4 :: a5 :: a6 :: a7 :: a8 :: a9 :: some (.long x) :: L) (S) h Q = Go (ab_at mi (pc + 2)) mi (pc + 2) (a0 :: a1 :: a2 :: a3 :: a4 :: a5 :: a6 :: a7 :: a8 :: a9 :: some (.long x) :: L) (.long x :: S) h Q := Go_next fun _ => rfl
theorem Go_istore_10 {a0 a1 a2 a3 a4 a5 a6 a7 a8 a9 : Option Value} {b : Option Value} {x : Int32} : Go (some (.istore 10, len)) mi pc (a0 :: a1 :: a2 :: a3 :: a4 :: a5 :: a6 :: a7 :: a8 :: a9 :: b :: L) (.int x :: S) h Q = Go (ab_at mi (pc + 2)) mi (pc + 2) (ab_put 10 (.int x) (a0 :: a1 :: a2 :: a3 :: a4 :: a5 :: a6 :: a7 :: a8 :: a9 :: b :: L)) (S) h Q := Go_next fun _ => by unfold ab_step; exact if_pos (show 10 < List.length (a0 :: a1 :: a2 :: a3 :: a4 :: a5 :: a6 :: a7 :: a8 :: a9 :: b :: L) by simp)
theorem Go_lstore_10 {a0 a1 a2 a3 a4 a5 a6 a7 a8 a9 : Option Value} {b b2 : Option Value} {x : Int64} : Go (some (.lstore 10, len)) mi pc (a0 :: a1 :: a2 :: a3 :: a4 :: a5 :: a6 :: a7 :: a8 :: a9 :: b :: b2 :: L) (.long x :: S) h Q = Go (ab_at mi (pc + 2)) mi (pc + 2) (ab_put 10 (.long x) (a0 :: a1 :: a2 :: a3 :: a4 :: a5 :: a6 :: a7 :: a8 :: a9 :: b :: b2 :: L)) (S) h Q := Go_next fun _ => by unfold ab_step; exact if_pos (show 11 < List.length (a0 :: a1 :: a2 :: a3 :: a4 :: a5 :: a6 :: a7 :: a8 :: a9 :: b :: b2 :: L) by simp)
theorem Go_iinc_10 {a0 a1 a2 a3 a4 a5 a6 a7 a8 a9 : Option Value} {x : Int32} {n : Int} : Go (some (.iinc 10 n, len)) mi pc (a0 :: a1 :: a2 :: a3 :: a4 :: a5 :: a6 :: a7 :: a8 :: a9 :: some (.int x) :: L) (S) h Q = Go (ab_at mi (pc + 3)) mi (pc + 3) (ab_put 10 (.int (x + Int32.ofInt n)) (a0 :: a1 :: a2 :: a3 :: a4 :: a5 :: a6 :: a7 :: a8 :: a9 :: some (.int x) :: L)) (S) h Q := Go_next fun _ => by unfold ab_step; exact if_pos (show 10 < List.length (a0 :: a1 :: a2 :: a3 :: a4 :: a5 :: a6 :: a7 :: a8 :: a9 :: some (.int x) :: L) by simp)
theorem Go_iload_11 {a0 a1 a2 a3 a4 a5 a6 a7 a8 a9 a10 : Option Value} {x : Int32} : Go (some (.iload 11, len)) mi pc (a0 :: a1 :: a2 :: a3 :: a4 :: a5 :: a6 :: a7 :: a8 :: a9 :: a10 :: some (.int x) :: L) (S) h Q = Go (ab_at mi (pc + 2)) mi (pc + 2) (a0 :: a1 :: a2 :: a3 :: a4 :: a5 :: a6 :: a7 :: a8 :: a9 :: a10 :: some (.int x) :: L) (.int x :: S) h Q := Go_next fun _ => rfl
theorem Go_lload_11 {a0 a1 a2 a3 a4 a5 a6 a7 a8 a9 a10 : Option Value} {x : Int64} : Go (some (.lload 11, len)) mi pc (a0 :: a1 :: a2 :: a3 :: a4 :: a5 :: a6 :: a7 :: a8 :: a9 :: a10 :: some (.long x) :: L) (S) h Q = Go (ab_at mi (pc + 2)) mi (pc + 2) (a0 :: a1 :: a2 :: a3 :: a4 :: a5 :: a6 :: a7 :: a8 :: a9 :: a10 :: some (.long x) :: L) (.long x :: S) h Q := Go_next fun _ => rfl
theorem Go_istore_11 {a0 a1 a2 a3 a4 a5 a6 a7 a8 a9 a10 : Option Value} {b : Option Value} {x : Int32} : Go (some (.istore 11, len)) mi pc (a0 :: a1 :: a2 :: a3 :: a4 :: a5 :: a6 :: a7 :: a8 :: a9 :: a10 :: b :: L) (.int x :: S) h Q = Go (ab_at mi (pc + 2)) mi (pc + 2) (ab_put 11 (.int x) (a0 :: a1 :: a2 :: a3 :: a4 :: a5 :: a6 :: a7 :: a8 :: a9 :: a10 :: b :: L)) (S) h Q := Go_next fun _ => by unfold ab_step; exact if_pos (show 11 < List.length (a0 :: a1 :: a2 :: a3 :: a4 :: a5 :: a6 :: a7 :: a8 :: a9 :: a10 :: b :: L) by simp)
theorem Go_lstore_11 {a0 a1 a2 a3 a4 a5 a6 a7 a8 a9 a10 : Option Value} {b b2 : Option Value} {x : Int64} : Go (some (.lstore 11, len)) mi pc (a0 :: a1 :: a2 :: a3 :: a4 :: a5 :: a6 :: a7 :: a8 :: a9 :: a10 :: b :: b2 :: L) (.long x :: S) h Q = Go (ab_at mi (pc + 2)) mi (pc + 2) (ab_put 11 (.long x) (a0 :: a1 :: a2 :: a3 :: a4 :: a5 :: a6 :: a7 :: a8 :: a9 :: a10 :: b :: b2 :: L)) (S) h Q := Go_next fun _ => by unfold ab_step; exact if_pos (show 12 < List.length (a0 :: a1 :: a2 :: a3 :: a4 :: a5 :: a6 :: a7 :: a8 :: a9 :: a10 :: b :: b2 :: L) by simp)
theorem Go_iinc_11 {a0 a1 a2 a3 a4 a5 a6 a7 a8 a9 a10 : Option Value} {x : Int32} {n : Int} : Go (some (.iinc 11 n, len)) mi pc (a0 :: a1 :: a2 :: a3 :: a4 :: a5 :: a6 :: a7 :: a8 :: a9 :: a10 :: some (.int x) :: L) (S) h Q = Go (ab_at mi (pc + 3)) mi (pc + 3) (ab_put 11 (.int (x + Int32.ofInt n)) (a0 :: a1 :: a2 :: a3 :: a4 :: a5 :: a6 :: a7 :: a8 :: a9 :: a10 :: some (.int x) :: L)) (S) h Q := Go_next fun _ => by unfold ab_step; exact if_pos (show 11 < List.length (a0 :: a1 :: a2 :: a3 :: a4 :: a5 :: a6 :: a7 :: a8 :: a9 :: a10 :: some (.int x) :: L) by simp)
/-- what a store leaves of the local ahead of it -/
def ab_kl : Option Value → Option Value
  | some (.long _) => none
  | some (.double _) => none
  | a => a
theorem ab_kl_n : ab_kl none = none := rfl
theorem ab_kl_i (x : Int32) : ab_kl (some (.int x)) = some (.int x) := rfl
theorem ab_kl_r (x : Nat) : ab_kl (some (.ref x)) = some (.ref x) := rfl
theorem ab_kl_l (x : Int64) : ab_kl (some (.long x)) = none := rfl
theorem ab_put_int_0 {b : Option Value} {x : Int32} : ab_put 0 (.int x) (b :: L) = some (.int x) :: L := rfl
theorem ab_put_ref_0 {b : Option Value} {x : Nat} : ab_put 0 (.ref x) (b :: L) = some (.ref x) :: L := rfl
theorem ab_put_long_0 {b b2 : Option Value} {x : Int64} : ab_put 0 (.long x) (b :: b2 :: L) = some (.long x) :: none :: L := rfl
theorem ab_put_int_1 {a0 : Option Value} {b : Option Value} {x : Int32} : ab_put 1 (.int x) (a0 :: b :: L) = ab_kl a0 :: some (.int x) :: L := by
  rcases a0 with _ | v
  · rfl
  · cases v <;> rfl
theorem ab_put_ref_1 {a0 : Option Value} {b : Option Value} {x : Nat} : ab_put 1 (.ref x) (a0 :: b :: L) = ab_kl a0 :: some (.ref x) :: L := by
  rcases a0 with _ | v
  · rfl
  · cases v <;> rfl
theorem ab_put_long_1 {a0 : Option Value} {b b2 : Option Value} {x : Int64} : ab_put 1 (.long x) (a0 :: b :: b2 :: L) = ab_kl a0 :: some (.long x) :: none :: L := by
  rcases a0 with _ | v
  · rfl
  · cases v <;> rfl
theorem ab_put_int_2 {a0 a1 : Option Value} {b : Option Value} {x : Int32} : ab_put 2 (.int x) (a0 :: a1 :: b :: L) = a0 :: ab_kl a1 :: some (.int x) :: L := by
  rcases a1 with _ | v
  · rfl
  · cases v <;> rfl
theorem ab_put_ref_2 {a0 a1 : Option Value} {b : Option Value} {x : Nat} : ab_put 2 (.ref x) (a0 :: a1 :: b :: L) = a0 :: ab_kl a1 :: some (.ref x) :: L := by
  rcases a1 with _ | v
  · rfl
  · cases v <;> rfl
theorem ab_put_long_2 {a0 a1 : Option Value} {b b2 : Option Value} {x : Int64} : ab_put 2 (.long x) (a0 :: a1 :: b :: b2 :: L) = a0 :: ab_kl a1 :: some (.long x) :: none :: L := by
  rcases a1 with _ | v
  · rfl
  · cases v <;> rfl
theorem ab_put_int_3 {a0 a1 a2 : Option Value} {b : Option Value} {x : Int32} : ab_put 3 (.int x) (a0 :: a1 :: a2 :: b :: L) = a0 :: a1 :: ab_kl a2 :: some (.int x) :: L := by
  rcases a2 with _ | v
  · rfl
  · cases v <;> rfl
theorem ab_put_ref_3 {a0 a1 a2 : Option Value} {b : Option Value} {x : Nat} : ab_put 3 (.ref x) (a0 :: a1 :: a2 :: b :: L) = a0 :: a1 :: ab_kl a2 :: some (.ref x) :: L := by
  rcases a2 with _ | v
  · rfl
  · cases v <;> rfl
theorem ab_put_long_3 {a0 a1 a2 : Option Value} {b b2 : Option Value} {x : Int64} : ab_put 3 (.long x) (a0 :: a1 :: a2 :: b :: b2 :: L) = a0 :: a1 :: ab_kl a2 :: some (.long x) :: none :: L := by
  rcases a2 with _ | v
  · rfl
  · cases v <;> rfl
theorem ab_put_int_4 {a0 a1 a2 a3 : Option Value} {b : Option Value} {x : Int32} : ab_put 4 (.int x) (a0 :: a1 :: a2 :: a3 :: b :: L) = a0 :: a1 :: a2 :: ab_kl a3 :: some (.int x) :: L := by
  rcases a3 with _ | v
  · rfl
  · cases v <;> rfl
theorem ab_put_ref_4 {a0 a1 a2 a3 : Option Value} {b : Option Value} {x : Nat} : ab_put 4 (.ref x) (a0 :: a1 :: a2 :: a3 :: b :: L) = a0 :: a1 :: a2 :: ab_kl a3 :: some (.ref x) :: L := by
  rcases a3 with _ | v
  · rfl
  · cases v <;> rfl
theorem ab_put_long_4 {a0 a1 a2 a3 : Option Value} {b b2 : Option Value} {x : Int64} : ab_put 4 (.long x) (a0 :: a1 :: a2 :: a3 :: b :: b2 :: L) = a0 :: a1 :: a2 :: ab_kl a3 :: some (.long x) :: none :: L := by
  rcases a3 with _ | v
  · rfl
  · cases v <;> rfl
theorem ab_put_int_5 {a0 a1 a2 a3 a4 : Option Value} {b : Option Value} {x : Int32} : ab_put 5 (.int x) (a0 :: a1 :: a2 :: a3 :: a4 :: b :: L) = a0 :: a1 :: a2 :: a3 :: ab_kl a4 :: some (.int x) :: L := by
  rcases a4 with _ | v
  · rfl
  · cases v <;> rfl
theorem ab_put_ref_5 {a0 a1 a2 a3 a4 : Option Value} {b : Option Value} {x : Nat} : ab_put 5 (.ref x) (a0 :: a1 :: a2 :: a3 :: a4 :: b :: L) = a0 :: a1 :: a2 :: a3 :: ab_kl a4 :: some (.ref x) :: L := by
  rcases a4 with _ | v
  · rfl
  · cases v <;> rfl
theorem ab_put_long_5 {a0 a1 a2 a3 a4 : Option Value} {b b2 : Option Value} {x : Int64} : ab_put 5 (.long x) (a0 :: a1 :: a2 :: a3 :: a4 :: b :: b2 :: L) = a0 :: a1 :: a2 :: a3 :: ab_kl a4 :: some (.long x) :: none :: L := by
  rcases a4 with _ | v
  · rfl
  · cases v <;> rfl
theorem ab_put_int_6 {a0 a1 a2 a3 a4 a5 : Option Value} {b : Option Value} {x : Int32} : ab_put 6 (.int x) (a0 :: a1 :: a2 :: a3 :: a4 :: a5 :: b :: L) = a0 :: a1 :: a2 :: a3 :: a4 :: ab_kl a5 :: some (.int x) :: L := by
  rcases a5 with _ | v
  · rfl
  · cases v <;> rfl
theorem ab_put_ref_6 {a0 a1 a2 a3 a4 a5 : Option Value} {b : Option Value} {x : Nat} : ab_put 6 (.ref x) (a0 :: a1 :: a2 :: a3 :: a4 :: a5 :: b :: L) = a0 :: a1 :: a2 :: a3 :: a4 :: ab_kl a5 :: some (.ref x) :: L := by
  rcases a5 with _ | v
  · rfl
  · cases v <;> rfl
theorem ab_put_long_6 {a0 a1 a2 a3 a4 a5 : Option Value} {b b2 : Option Value} {x : Int64} : ab_put 6 (.long x) (a0 :: a1 :: a2 :: a3 :: a4 :: a5 :: b :: b2 :: L) = a0 :: a1 :: a2 :: a3 :: a4 :: ab_kl a5 :: some (.long x) :: none :: L := by
  rcases a5 with _ | v
  · rfl
  · cases v <;> rfl
theorem ab_put_int_7 {a0 a1 a2 a3 a4 a5 a6 : Option Value} {b : Option Value} {x : Int32} : ab_put 7 (.int x) (a0 :: a1 :: a2 :: a3 :: a4 :: a5 :: a6 :: b :: L) = a0 :: a1 :: a2 :: a3 :: a4 :: a5 :: ab_kl a6 :: some (.int x) :: L := by
  rcases a6 with _ | v
  · rfl
  · cases v <;> rfl
theorem ab_put_ref_7 {a0 a1 a2 a3 a4 a5 a6 : Option Value} {b : Option Value} {x : Nat} : ab_put 7 (.ref x) (a0 :: a1 :: a2 :: a3 :: a4 :: a5 :: a6 :: b :: L) = a0 :: a1 :: a2 :: a3 :: a4 :: a5 :: ab_kl a6 :: some (.ref x) :: L := by
  rcases a6 with _ | v
  · rfl
  · cases v <;> rfl
theorem ab_put_long_7 {a0 a1 a2 a3 a4 a5 a6 : Option Value} {b b2 : Option Value} {x : Int64} : ab_put 7 (.long x) (a0 :: a1 :: a2 :: a3 :: a4 :: a5 :: a6 :: b :: b2 :: L) = a0 :: a1 :: a2 :: a3 :: a4 :: a5 :: ab_kl a6 :: some (.long x) :: none :: L := by
  rcases a6 with _ | v
  · rfl
  · cases v <;> rfl
theorem ab_put_int_8 {a0 a1 a2 a3 a4 a5 a6 a7 : Option Value} {b : Option Value} {x : Int32} : ab_put 8 (.int x) (a0 :: a1 :: a2 :: a3 :: a4 :: a5 :: a6 :: a7 :: b :: L) = a0 :: a1 :: a2 :: a3 :: a4 :: a5 :: a6 :: ab_kl a7 :: some (.int x) :: L := by
  rcases a7 with _ | v
  · rfl
  · cases v <;> rfl
theorem ab_put_ref_8 {a0 a1 a2 a3 a4 a5 a6 a7 : Option Value} {b : Option Value} {x : Nat} : ab_put 8 (.ref x) (a0 :: a1 :: a2 :: a3 :: a4 :: a5 :: a6 :: a7 :: b :: L) = a0 :: a1 :: a2 :: a3 :: a4 :: a5 :: a6 :: ab_kl a7 :: some (.ref x) :: L := by
  rcases a7 with _ | v
  · rfl
  · cases v <;> rfl
theorem ab_put_long_8 {a0 a1 a2 a3 a4 a5 a6 a7 : Option Value} {b b2 : Option Value} {x : Int64} : ab_put 8 (.long x) (a0 :: a1 :: a2 :: a3 :: a4 :: a5 :: a6 :: a7 :: b :: b2 :: L) = a0 :: a1 :: a2 :: a3 :: a4 :: a5 :: a6 :: ab_kl a7 :: some (.long x) :: none :: L := by
  rcases a7 with _ | v
  · rfl
  · cases v <;> rfl
theorem ab_put_int_9 {a0 a1 a2 a3 a4 a5 a6 a7 a8 : Option Value} {b : Option Value} {x : Int32} : ab_put 9 (.int x) (a0 :: a1 :: a2 :: a3 :: a4 :: a5 :: a6 :: a7 :: a8 :: b :: L) = a0 :: a1 :: a2 :: a3 :: a4 :: a5 :: a6 :: a7 :: ab_kl a8 :: some (.int x) :: L := by
  rcases a8 with _ | v
  · rfl
  · cases v <;> rfl
theorem ab_put_ref_9 {a0 a1 a2 a3 a4 a5 a6 a7 a8 : Option Value} {b : Option Value} {x : Nat} : ab_put 9 (.ref x) (a0 :: a1 :: a2 :: a3 :: a4 :: a5 :: a6 :: a7 :: a8 :: b :: L) = a0 :: a1 :: a2 :: a3 :: a4 :: a5 :: a6 :: a7 :: ab_kl a8 :: some (.ref x) :: L := by
  rcases a8 with _ | v
  · rfl
  · cases v <;> rfl
theorem ab_put_long_9 {a0 a1 a2 a3 a4 a5 a6 a7 a8 : Option Value} {b b2 : Option Value} {x : Int64} : ab_put 9 (.long x) (a0 :: a1 :: a2 :: a3 :: a4 :: a5 :: a6 :: a7 :: a8 :: b :: b2 :: L) = a0 :: a1 :: a2 :: a3 :: a4 :: a5 :: a6 :: a7 :: ab_kl a8 :: some (.long x) :: none :: L := by
  rcases a8 with _ | v
  · rfl
  · cases v <;> rfl
theorem ab_put_int_10 {a0 a1 a2 a3 a4 a5 a6 a7 a8 a9 : Option Value} {b : Option Value} {x : Int32} : ab_put 10 (.int x) (a0 :: a1 :: a2 :: a3 :: a4 :: a5 :: a6 :: a7 :: a8 :: a9 :: b :: L) = a0 :: a1 :: a2 :: a3 :: a4 :: a5 :: a6 :: a7 :: a8 :: ab_kl a9 :: some (.int x) :: L := by
  rcases a9 with _ | v
  · rfl
  · cases v <;> rfl
theorem ab_put_ref_10 {a0 a1 a2 a3 a4 a5 a6 a7 a8 a9 : Option Value} {b : Option Value} {x : Nat} : ab_put 10 (.ref x) (a0 :: a1 :: a2 :: a3 :: a4 :: a5 :: a6 :: a7 :: a8 :: a9 :: b :: L) = a0 :: a1 :: a2 :: a3 :: a4 :: a5 :: a6 :: a7 :: a8 :: ab_kl a9 :: some (.ref x) :: L := by
  rcases a9 with _ | v
  · rfl
  · cases v <;> rfl
theorem ab_put_long_10 {a0 a1 a2 a3 a4 a5 a6 a7 a8 a9 : Option Value} {b b2 : Option Value} {x : Int64} : ab_put 10 (.long x) (a0 :: a1 :: a2 :: a3 :: a4 :: a5 :: a6 :: a7 :: a8 :: a9 :: b :: b2 :: L) = a0 :: a1 :: a2 :: a3 :: a4 :: a5 :: a6 :: a7 :: a8 :: ab_kl a9 :: some (.long x) :: none :: L := by
  rcases a9 with _ | v
  · rfl
  · cases v <;> rfl
theorem ab_put_int_11 {a0 a1 a2 a3 a4 a5 a6 a7 a8 a9 a10 : Option Value} {b : Option Value} {x : Int32} : ab_put 11 (.int x) (a0 :: a1 :: a2 :: a3 :: a4 :: a5 :: a6 :: a7 :: a8 :: a9 :: a10 :: b :: L) = a0 :: a1 :: a2 :: a3 :: a4 :: a5 :: a6 :: a7 :: a8 :: a9 :: ab_kl a10 :: some (.int x) :: L := by
  rcases a10 with _ | v
  · rfl
  · cases v <;> rfl
theorem ab_put_ref_11 {a0 a1 a2 a3 a4 a5 a6 a7 a8 a9 a10 : Option Value} {b : Option Value} {x : Nat} : ab_put 11 (.ref x) (a0 :: a1 :: a2 :: a3 :: a4 :: a5 :: a6 :: a7 :: a8 :: a9 :: a10 :: b :: L) = a0 :: a1 :: a2 :: a3 :: a4 :: a5 :: a6 :: a7 :: a8 :: a9 :: ab_kl a10 :: some (.ref x) :: L := by
  rcases a10 with _ | v
  · rfl
  · cases v <;> rfl
theorem ab_put_long_11 {a0 a1 a2 a3 a4 a5 a6 a7 a8 a9 a10 : Option Value} {b b2 : Option Value} {x : Int64} : ab_put 11 (.long x) (a0 :: a1 :: a2 :: a3 :: a4 :: a5 :: a6 :: a7 :: a8 :: a9 :: a10 :: b :: b2 :: L) = a0 :: a1 :: a2 :: a3 :: a4 :: a5 :: a6 :: a7 :: a8 :: a9 :: ab_kl a10 :: some (.long x) :: none :: L := by
  rcases a10 with _ | v
  · rfl
  · cases v <;> rfl
theorem Go_iadd {x z : Int32} : Go (some (.iadd, len)) mi pc (L) (.int z :: .int x :: S) h Q = Go (ab_at mi (pc + 1)) mi (pc + 1) (L) (.int (x + z) :: S) h Q := Go_next fun _ => rfl
theorem Go_isub {x z : Int32} : Go (some (.isub, len)) mi pc (L) (.int z :: .int x :: S) h Q = Go (ab_at mi (pc + 1)) mi (pc + 1) (L) (.int (x - z) :: S) h Q := Go_next fun _ => rfl
theorem Go_imul {x z : Int32} : Go (some (.imul, len)) mi pc (L) (.int z :: .int x :: S) h Q = Go (ab_at mi (pc + 1)) mi (pc + 1) (L) (.int (x * z) :: S) h Q := Go_next fun _ => rfl
theorem Go_iand {x z : Int32} : Go (some (.iand, len)) mi pc (L) (.int z :: .int x :: S) h Q = Go (ab_at mi (pc + 1)) mi (pc + 1) (L) (.int (x &&& z) :: S) h Q := Go_next fun _ => rfl
theorem Go_ior {x z : Int32} : Go (some (.ior, len)) mi pc (L) (.int z :: .int x :: S) h Q = Go (ab_at mi (pc + 1)) mi (pc + 1) (L) (.int (x ||| z) :: S) h Q := Go_next fun _ => rfl
theorem Go_ixor {x z : Int32} : Go (some (.ixor, len)) mi pc (L) (.int z :: .int x :: S) h Q = Go (ab_at mi (pc + 1)) mi (pc + 1) (L) (.int (x ^^^ z) :: S) h Q := Go_next fun _ => rfl
theorem Go_ishl {x z : Int32} : Go (some (.ishl, len)) mi pc (L) (.int z :: .int x :: S) h Q = Go (ab_at mi (pc + 1)) mi (pc + 1) (L) (.int (x <<< (z &&& 31)) :: S) h Q := Go_next fun _ => rfl
theorem Go_ishr {x z : Int32} : Go (some (.ishr, len)) mi pc (L) (.int z :: .int x :: S) h Q = Go (ab_at mi (pc + 1)) mi (pc + 1) (L) (.int (x >>> (z &&& 31)) :: S) h Q := Go_next fun _ => rfl
theorem Go_iushr {x z : Int32} : Go (some (.iushr, len)) mi pc (L) (.int z :: .int x :: S) h Q = Go (ab_at mi (pc + 1)) mi (pc + 1) (L) (.int ((x.toUInt32 >>> (z.toUInt32 &&& Int32.toUInt32 31)).toInt32) :: S) h Q := Go_next fun _ => rfl
theorem Go_ladd {x z : Int64} : Go (some (.ladd, len)) mi pc (L) (.long z :: .long x :: S) h Q = Go (ab_at mi (pc + 1)) mi (pc + 1) (L) (.long (x + z) :: S) h Q := Go_next fun _ => rfl
theorem Go_lsub {x z : Int64} : Go (some (.lsub, len)) mi pc (L) (.long z :: .long x :: S) h Q = Go (ab_at mi (pc + 1)) mi (pc + 1) (L) (.long (x - z) :: S) h Q := Go_next fun _ => rfl
theorem Go_lmul {x z : Int64} : Go (some (.lmul, len)) mi pc (L) (.long z :: .long x :: S) h Q = Go (ab_at mi (pc + 1)) mi (pc + 1) (L) (.long (x * z) :: S) h Q := Go_next fun _ => rfl
theorem Go_lneg {x : Int64} : Go (some (.lneg, len)) mi pc (L) (.long x :: S) h Q = Go (ab_at mi (pc + 1)) mi (pc + 1) (L) (.long (-x) :: S) h Q := Go_next fun _ => rfl
theorem Go_lcmp {x z : Int64} : Go (some (.lcmp, len)) mi pc (L) (.long z :: .long x :: S) h Q = Go (ab_at mi (pc + 1)) mi (pc + 1) (L) (.int (lg_cmp x z) :: S) h Q := Go_next fun _ => rfl
theorem Go_i2l {x : Int32} : Go (some (.i2l, len)) mi pc (L) (.int x :: S) h Q = Go (ab_at mi (pc + 1)) mi (pc + 1) (L) (.long x.toInt64 :: S) h Q := Go_next fun _ => rfl
theorem Go_l2i {x : Int64} : Go (some (.l2i, len)) mi pc (L) (.long x :: S) h Q = Go (ab_at mi (pc + 1)) mi (pc + 1) (L) (.int x.toInt32 :: S) h Q := Go_next fun _ => rfl
theorem Go_i2b {x : Int32} : Go (some (.i2b, len)) mi pc (L) (.int x :: S) h Q = Go (ab_at mi (pc + 1)) mi (pc + 1) (L) (.int x.toInt8.toInt32 :: S) h Q := Go_next fun _ => rfl
theorem Go_i2s {x : Int32} : Go (some (.i2s, len)) mi pc (L) (.int x :: S) h Q = Go (ab_at mi (pc + 1)) mi (pc + 1) (L) (.int x.toInt16.toInt32 :: S) h Q := Go_next fun _ => rfl
theorem Go_dup_int {x : Int32} : Go (some (.dup, len)) mi pc (L) (.int x :: S) h Q = Go (ab_at mi (pc + 1)) mi (pc + 1) (L) (.int x :: .int x :: S) h Q := Go_next fun _ => rfl
theorem Go_pop_int {x : Int32} : Go (some (.pop, len)) mi pc (L) (.int x :: S) h Q = Go (ab_at mi (pc + 1)) mi (pc + 1) (L) (S) h Q := Go_next fun _ => rfl
theorem Go_dup_ref {x : Nat} : Go (some (.dup, len)) mi pc (L) (.ref x :: S) h Q = Go (ab_at mi (pc + 1)) mi (pc + 1) (L) (.ref x :: .ref x :: S) h Q := Go_next fun _ => rfl
theorem Go_pop_ref {x : Nat} : Go (some (.pop, len)) mi pc (L) (.ref x :: S) h Q = Go (ab_at mi (pc + 1)) mi (pc + 1) (L) (S) h Q := Go_next fun _ => rfl
theorem Go_pop2 {x : Int64} : Go (some (.pop2, len)) mi pc (L) (.long x :: S) h Q = Go (ab_at mi (pc + 1)) mi (pc + 1) (L) (S) h Q := Go_next fun _ => rfl
theorem Go_dup2 {x : Int32} {z : Nat} : Go (some (.dup2, len)) mi pc (L) (.int x :: .ref z :: S) h Q = Go (ab_at mi (pc + 1)) mi (pc + 1) (L) (.int x :: .ref z :: .int x :: .ref z :: S) h Q := Go_next fun _ => rfl
theorem Go_cond {ins : Instr} {P : Prop} {q : Decidable P} {pc' : Nat} {L' : ab_L} {S' : List Value} {h' : ab_H} (hst : ∀ call, ab_step call (ab_own mi) (ab_ini mi) (ab_rt mi) none ins len pc L S h = if P then some (.inl (pc', L', S', h')) else none) : Go (some (ins, len)) mi pc L S h Q = (P ∧ Go (ab_at mi pc') mi pc' L' S' h' Q) := by
  by_cases hP : P
  · rw [Go_next (fun call => (hst call).trans (if_pos hP))]
    exact propext ⟨fun z => ⟨hP, z⟩, fun z => z.2⟩
  · rw [Go_stuck (fun call => (hst call).trans (if_neg hP))]
    exact propext ⟨fun z => z.elim, fun z => hP z.1⟩
theorem Go_irem {x z : Int32} : Go (some (.irem, len)) mi pc L (.int z :: .int x :: S) h Q = (¬ z = 0 ∧ Go (ab_at mi (pc + 1)) mi (pc + 1) L (.int (x - x / z * z) :: S) h Q) := by
  by_cases hz : z = 0
  · rw [Go_stuck (mi := mi) (pc := pc) (len := len) (ins := .irem) (L := L) (S := .int z :: .int x :: S) (h := h) (Q := Q) (fun call => if_pos hz)]
    exact propext ⟨fun w => w.elim, fun w => w.1 hz⟩
  · rw [Go_next (mi := mi) (pc := pc) (len := len) (ins := .irem) (L := L) (S := .int z :: .int x :: S) (h := h) (Q := Q) (fun call => if_neg hz)]
    exact propext ⟨fun w => ⟨hz, w⟩, fun w => w.2⟩
theorem Go_ldiv {x z : Int64} : Go (some (.ldiv, len)) mi pc L (.long z :: .long x :: S) h Q = (¬ z = 0 ∧ Go (ab_at mi (pc + 1)) mi (pc + 1) L (.long (x / z) :: S) h Q) := by
  by_cases hz : z = 0
  · rw [Go_stuck (mi := mi) (pc := pc) (len := len) (ins := .ldiv) (L := L) (S := .long z :: .long x :: S) (h := h) (Q := Q) (fun call => if_pos hz)]
    exact propext ⟨fun w => w.elim, fun w => w.1 hz⟩
  · rw [Go_next (mi := mi) (pc := pc) (len := len) (ins := .ldiv) (L := L) (S := .long z :: .long x :: S) (h := h) (Q := Q) (fun call => if_neg hz)]
    exact propext ⟨fun w => ⟨hz, w⟩, fun w => w.2⟩
theorem Go_ite {P : Prop} {q : Decidable P} {a b : Nat} : Go (ab_at mi (if P then a else b)) mi (if P then a else b) L S h Q = if P then Go (ab_at mi a) mi a L S h Q else Go (ab_at mi b) mi b L S h Q := by
  split <;> rfl
theorem Go_icmp {c : Jvm.ClassFile.Cond} {off : Int} {x z : Int32} : Go (some (.if_icmp c off, len)) mi pc L (.int z :: .int x :: S) h Q = (0 ≤ (pc : Int) + off ∧ if ab_cmp c x z = true then Go (ab_at mi ((pc : Int) + off).toNat) mi ((pc : Int) + off).toNat L S h Q else Go (ab_at mi (pc + 3)) mi (pc + 3) L S h Q) := by
  rw [Go_cond (mi := mi) (pc := pc) (len := len) (ins := .if_icmp c off) (L := L) (S := .int z :: .int x :: S) (h := h) (Q := Q) (fun _ => rfl), Go_ite]
theorem Go_if {c : Jvm.ClassFile.Cond} {off : Int} {x : Int32} : Go (some (.ifCond c off, len)) mi pc L (.int x :: S) h Q = (0 ≤ (pc : Int) + off ∧ if ab_cmp c x 0 = true then Go (ab_at mi ((pc : Int) + off).toNat) mi ((pc : Int) + off).toNat L S h Q else Go (ab_at mi (pc + 3)) mi (pc + 3) L S h Q) := by
  rw [Go_cond (mi := mi) (pc := pc) (len := len) (ins := .ifCond c off) (L := L) (S := .int x :: S) (h := h) (Q := Q) (fun _ => rfl), Go_ite]
theorem Go_goto {off : Int} : Go (some (.goto off, len)) mi pc L S h Q = (0 ≤ (pc : Int) + off ∧ Go (ab_at mi ((pc : Int) + off).toNat) mi ((pc : Int) + off).toNat L S h Q) := Go_cond fun _ => rfl
theorem ab_cmp_eq (x z : Int32) : (ab_cmp .eq x z = true) = (x = z) := by simp [ab_cmp]
theorem ab_cmp_ne (x z : Int32) : (ab_cmp .ne x z = true) = (¬ x = z) := by simp [ab_cmp]
theorem ab_cmp_lt (x z : Int32) : (ab_cmp .lt x z = true) = (x < z) := by simp [ab_cmp]
theorem ab_cmp_ge (x z : Int32) : (ab_cmp .ge x z = true) = (z ≤ x) := by simp [ab_cmp]
theorem ab_cmp_gt (x z : Int32) : (ab_cmp .gt x z = true) = (z < x) := by simp [ab_cmp]
theorem ab_cmp_le (x z : Int32) : (ab_cmp .le x z = true) = (x ≤ z) := by simp [ab_cmp]
/-- a switch -/
theorem Go_table {dflt lo hi : Int} {offs : Array Int} {x : Int32} : Go (some (.tableswitch dflt lo hi offs, len)) mi pc L (.int x :: S) h Q = if x.toInt < lo ∨ hi < x.toInt then Go (some (.goto dflt, len)) mi pc L S h Q else match offs[(x.toInt - lo).toNat]? with | some off => Go (some (.goto off, len)) mi pc L S h Q | none => False := by
  by_cases hc : x.toInt < lo ∨ hi < x.toInt
  · rw [if_pos hc, Go_goto, Go_cond (mi := mi) (pc := pc) (len := len) (ins := .tableswitch dflt lo hi offs) (L := L) (S := .int x :: S) (h := h) (Q := Q) (fun _ => if_pos hc)]
  · rw [if_neg hc]
    cases ho : offs[(x.toInt - lo).toNat]? with
    | none =>
      rw [Go_stuck (mi := mi) (pc := pc) (len := len) (ins := .tableswitch dflt lo hi offs) (L := L) (S := .int x :: S) (h := h) (Q := Q) (fun _ => by unfold ab_step; simp only; rw [if_neg hc, ho])]
    | some off =>
      simp only
      rw [Go_goto, Go_cond (mi := mi) (pc := pc) (len := len) (ins := .tableswitch dflt lo hi offs) (L := L) (S := .int x :: S) (h := h) (Q := Q) (P := 0 ≤ (pc : Int) + off) (fun _ => by unfold ab_step; simp only; rw [if_neg hc, ho]; rfl)]
/-- fields -/
def GoG (x : Option (Nat × Nat)) (mi pc : Nat) (L : ab_L) (o : Nat) (S : List Value) (h : ab_H) (Q : Option Value → ab_H → Prop) : Prop := match x with
  | some (ci, k) => ab_ref h o ci = true ∧ k < ab_N ci ∧ ci < 8 ∧ Go (ab_at mi (pc + 3)) mi (pc + 3) L (ab_gv h o k (ab_ty ci k) :: S) h Q
  | none => False
theorem Go_getf {i o : Nat} : Go (some (.getfield i, len)) mi pc L (.ref o :: S) h Q = GoG (ab_fl (ab_own mi) i) mi pc L o S h Q := by
  cases hf : ab_fl (ab_own mi) i with
  | none =>
    rw [Go_stuck (mi := mi) (pc := pc) (len := len) (ins := .getfield i) (L := L) (S := .ref o :: S) (h := h) (Q := Q) (fun _ => by unfold ab_step; simp only; rw [hf])]
    rfl
  | some x =>
    obtain ⟨ci, k⟩ := x
    rw [Go_cond (mi := mi) (pc := pc) (len := len) (ins := .getfield i) (L := L) (S := .ref o :: S) (h := h) (Q := Q) (P := (ab_ref h o ci && decide (k < ab_N ci) && decide (ci < 8)) = true) (fun _ => by unfold ab_step; simp only; rw [hf])]
    simp only [GoG, Bool.and_eq_true, decide_eq_true_eq, and_assoc]
def GoP (x : Option (Nat × Nat)) (mi pc : Nat) (L : ab_L) (o : Nat) (v : Value) (S : List Value) (h : ab_H) (Q : Option Value → ab_H → Prop) : Prop := match x with
  | some (ci, k) => ab_ref h o ci = true ∧ k < ab_N ci ∧ ci < 8 ∧ ab_fit (ab_ty ci k) v = true ∧ ab_rlok h o k v = true ∧ ab_lt (ab_nx h) v = true ∧ ((ab_T ci k).2.2.2 = false ∨ (ab_ini mi = true ∧ ab_own mi = ci)) ∧ Go (ab_at mi (pc + 3)) mi (pc + 3) L S (ab_setv h o k v) Q
  | none => False
theorem Go_putf {i o : Nat} {v : Value} : Go (some (.putfield i, len)) mi pc L (v :: .ref o :: S) h Q = GoP (ab_fl (ab_own mi) i) mi pc L o v S h Q := by
  cases hf : ab_fl (ab_own mi) i with
  | none =>
    rw [Go_stuck (mi := mi) (pc := pc) (len := len) (ins := .putfield i) (L := L) (S := v :: .ref o :: S) (h := h) (Q := Q) (fun _ => by unfold ab_step; simp only; rw [hf])]
    rfl
  | some x =>
    obtain ⟨ci, k⟩ := x
    rw [Go_cond (mi := mi) (pc := pc) (len := len) (ins := .putfield i) (L := L) (S := v :: .ref o :: S) (h := h) (Q := Q) (P := (ab_ref h o ci && decide (k < ab_N ci) && decide (ci < 8) && ab_fit (ab_ty ci k) v && ab_rlok h o k v && ab_lt (ab_nx h) v && (!(ab_T ci k).2.2.2 || (ab_ini mi && decide (ab_own mi = ci)))) = true) (fun _ => by unfold ab_step; simp only; rw [hf])]
    simp only [GoP, Bool.and_eq_true, Bool.or_eq_true, Bool.not_eq_true', decide_eq_true_eq, and_assoc]
/-- arrays -/
theorem Go_iaload {i : Int32} {o : Nat} (ho : o < 2000) : Go (some (.iaload, len)) mi pc L (.int i :: .ref o :: S) h Q = (ab_ref h o 10 = true ∧ ab_in i (ab_ln h o) = true ∧ Go (ab_at mi (pc + 1)) mi (pc + 1) L (.int (h.2.1 o i.toNatClampNeg) :: S) h Q) := by
  rw [Go_cond (mi := mi) (pc := pc) (len := len) (ins := .iaload) (L := L) (S := .int i :: .ref o :: S) (h := h) (Q := Q) (P := (ab_ref h o 10 && ab_in i (ab_ln h o)) = true) (fun _ => if_neg (show ¬ o = 2000 by omega)), Bool.and_eq_true, and_assoc]
theorem Go_baload {i : Int32} {o : Nat} : Go (some (.baload, len)) mi pc L (.int i :: .ref o :: S) h Q = ((ab_ref h o 12 || ab_ref h o 13) = true ∧ ab_in i (ab_ln h o) = true ∧ Go (ab_at mi (pc + 1)) mi (pc + 1) L (.int (h.2.1 o i.toNatClampNeg) :: S) h Q) := by
  rw [Go_cond (mi := mi) (pc := pc) (len := len) (ins := .baload) (L := L) (S := .int i :: .ref o :: S) (h := h) (Q := Q) (P := ((ab_ref h o 12 || ab_ref h o 13) && ab_in i (ab_ln h o)) = true) (fun _ => rfl), Bool.and_eq_true, and_assoc]
theorem Go_laload {i : Int32} {o : Nat} : Go (some (.laload, len)) mi pc L (.int i :: .ref o :: S) h Q = (ab_ref h o 11 = true ∧ ab_in i (ab_ln h o) = true ∧ Go (ab_at mi (pc + 1)) mi (pc + 1) L (.long (h.2.2 o i.toNatClampNeg) :: S) h Q) := by
  rw [Go_cond (mi := mi) (pc := pc) (len := len) (ins := .laload) (L := L) (S := .int i :: .ref o :: S) (h := h) (Q := Q) (P := (ab_ref h o 11 && ab_in i (ab_ln h o)) = true) (fun _ => rfl), Bool.and_eq_true, and_assoc]
theorem Go_aaload {i : Int32} {o : Nat} : Go (some (.aaload, len)) mi pc L (.int i :: .ref o :: S) h Q = ((ab_ref h o 14 || ab_ref h o 15) = true ∧ ab_in i (ab_ln h o) = true ∧ Go (ab_at mi (pc + 1)) mi (pc + 1) L (va_rf (ab_rf h o i.toNatClampNeg) :: S) h Q) := by
  rw [Go_cond (mi := mi) (pc := pc) (len := len) (ins := .aaload) (L := L) (S := .int i :: .ref o :: S) (h := h) (Q := Q) (P := ((ab_ref h o 14 || ab_ref h o 15) && ab_in i (ab_ln h o)) = true) (fun _ => rfl), Bool.and_eq_true, and_assoc]
theorem Go_iastore {i x : Int32} {o : Nat} : Go (some (.iastore, len)) mi pc L (.int x :: .int i :: .ref o :: S) h Q = (ab_ref h o 10 = true ∧ ab_in i (ab_ln h o) = true ∧ Go (ab_at mi (pc + 1)) mi (pc + 1) L S (ab_seti h o i.toNatClampNeg x) Q) := by
  rw [Go_cond (mi := mi) (pc := pc) (len := len) (ins := .iastore) (L := L) (S := .int x :: .int i :: .ref o :: S) (h := h) (Q := Q) (P := (ab_ref h o 10 && ab_in i (ab_ln h o)) = true) (fun _ => rfl), Bool.and_eq_true, and_assoc]
theorem Go_lastore {i : Int32} {x : Int64} {o : Nat} : Go (some (.lastore, len)) mi pc L (.long x :: .int i :: .ref o :: S) h Q = (ab_ref h o 11 = true ∧ ab_in i (ab_ln h o) = true ∧ Go (ab_at mi (pc + 1)) mi (pc + 1) L S (ab_setl h o i.toNatClampNeg x) Q) := by
  rw [Go_cond (mi := mi) (pc := pc) (len := len) (ins := .lastore) (L := L) (S := .long x :: .int i :: .ref o :: S) (h := h) (Q := Q) (P := (ab_ref h o 11 && ab_in i (ab_ln h o)) = true) (fun _ => rfl), Bool.and_eq_true, and_assoc]
theorem Go_bastore {i x : Int32} {o : Nat} : Go (some (.bastore, len)) mi pc L (.int x :: .int i :: .ref o :: S) h Q = ((ab_ref h o 12 || ab_ref h o 13) = true ∧ ab_in i (ab_ln h o) = true ∧ Go (ab_at mi (pc + 1)) mi (pc + 1) L S (ab_seti h o i.toNatClampNeg (if ab_kd h o = 12 then vp_nar .boolean x else vp_nar .byte x)) Q) := by
  rw [Go_cond (mi := mi) (pc := pc) (len := len) (ins := .bastore) (L := L) (S := .int x :: .int i :: .ref o :: S) (h := h) (Q := Q) (P := ((ab_ref h o 12 || ab_ref h o 13) && ab_in i (ab_ln h o)) = true) (fun _ => rfl), Bool.and_eq_true, and_assoc]
theorem Go_ldc {i : Nat} {v : Int32} (hv : ab_kI (ab_own mi) i = some v) : Go (some (.ldc i, len)) mi pc L S h Q = Go (ab_at mi (pc + 2)) mi (pc + 2) L (.int v :: S) h Q := Go_next fun _ => by unfold ab_step; simp only; rw [hv]
theorem Go_ldc_w {i : Nat} {v : Int32} (hv : ab_kI (ab_own mi) i = some v) : Go (some (.ldc_w i, len)) mi pc L S h Q = Go (ab_at mi (pc + 3)) mi (pc + 3) L (.int v :: S) h Q := Go_next fun _ => by unfold ab_step; simp only; rw [hv]
theorem Go_ldc2 {i : Nat} {v : Int64} (hv : ab_kL (ab_own mi) i = some v) : Go (some (.ldc2_w i, len)) mi pc L S h Q = Go (ab_at mi (pc + 3)) mi (pc + 3) L (.long v :: S) h Q := Go_next fun _ => by unfold ab_step; simp only; rw [hv]
/-- ends -/
theorem Go_ireturn {v : Int32} {ty : FieldType} (hr : ab_rt mi = some ty) : Go (some (.ireturn, len)) mi pc L [.int v] h Q = (narrow ty (.int v) = .int v ∧ Q (some (.int v)) h) := by
  by_cases hn : narrow ty (.int v) = .int v
  · rw [Go_end (r := (some (.int v), h)) (fun _ => by unfold ab_step ab_ret; rw [hr]; exact if_pos hn)]
    exact propext ⟨fun z => ⟨hn, z⟩, fun z => z.2⟩
  · rw [Go_stuck (fun _ => by unfold ab_step ab_ret; rw [hr]; exact if_neg hn)]
    exact propext ⟨fun z => z.elim, fun z => hn z.1⟩
theorem Go_lreturn {v : Int64} (hr : ab_rt mi = some .long) : Go (some (.lreturn, len)) mi pc L [.long v] h Q = Q (some (.long v)) h := Go_end (r := (some (.long v), h)) fun _ => if_pos hr
theorem Go_return (hr : ab_rt mi = none) : Go (some (.return_, len)) mi pc L [] h Q = Q none h := Go_end (r := (none, h)) fun _ => if_pos hr
/-- calls -/
def ab_sh (h h' : ab_H) (L : ab_L) (rest : List Value) : Prop := (ab_nx h' = ab_nx h ∧ ab_sl h' = ab_sl h) ∨ (ab_nx h ≤ ab_nx h' ∧ ab_sl h ≤ ab_sl h' ∧ (L.all (fun v => (v.map (ab_ok (ab_nx h))).getD true) && rest.all (ab_ok (ab_nx h))) = true)
theorem Go_callgen {ins : Instr} {mj : Nat} {vs rest : List Value} (hst : ∀ call, ab_step call (ab_own mi) (ab_ini mi) (ab_rt mi) none ins len pc L S h = ab_call call mj vs pc L rest h) : Go (some (ins, len)) mi pc L S h Q = (ab_cat rest ≤ 8 ∧ Ex mj vs h (fun r h' => ab_sh h h' L rest ∧ Go (ab_at mi (pc + 3)) mi (pc + 3) L (r.toList ++ rest) h' Q)) := by
  apply propext
  constructor
  · intro z
    unfold Go at z
    simp only [hst] at z
    obtain ⟨n, z⟩ := z
    unfold ab_call at z
    by_cases hc : ab_cat rest ≤ 8
    · rw [if_pos hc] at z
      refine ⟨hc, ?_⟩
      cases hcl : ab_ex none n mj vs h with
      | none => rw [hcl] at z; exact z.elim
      | some x =>
        obtain ⟨rv, h'⟩ := x
        rw [hcl] at z
        simp only at z
        refine ⟨n, rv, h', hcl, ?_⟩
        by_cases hs : ab_sh h h' L rest
        · refine ⟨hs, ?_⟩
          unfold ab_sh at hs
          rw [if_pos hs] at z
          exact Rn_Go.mp ⟨n, z⟩
        · unfold ab_sh at hs
          rw [if_neg hs] at z
          exact z.elim
    · rw [if_neg hc] at z
      exact z.elim
  · rintro ⟨hc, n, rv, h', hcl, hs, hg⟩
    obtain ⟨k, r, h2, h3, h4⟩ := Rn_Go.mpr hg
    unfold Go
    simp only [hst]
    refine ⟨n + k, ?_⟩
    unfold ab_call
    rw [if_pos hc, ab_ex_le n (n + k) (by omega) _ _ _ _ hcl]
    simp only
    unfold ab_sh at hs
    rw [if_pos hs]
    exact ⟨r, h2, ab_loop_le (ab_ex_le k (n + k) (by omega)) k (n + k) _ (by omega) h3, h4⟩
def GoV (x : Option (Nat × Nat)) (mi pc : Nat) (L : ab_L) (S : List Value) (h : ab_H) (Q : Option Value → ab_H → Prop) : Prop := match x with
  | some (mj, kd) => kd = 0 ∧ ∃ b rest, S.drop (ab_np mj) = .ref b :: rest ∧ ab_ref h b (ab_own mj) = true ∧ ab_own mj < 8 ∧ (S.take (ab_np mj)).all (ab_ok (ab_nx h)) = true ∧ ab_cat rest ≤ 8 ∧ Ex mj (.ref b :: (S.take (ab_np mj)).reverse) h (fun r h' => ab_sh h h' L rest ∧ Go (ab_at mi (pc + 3)) mi (pc + 3) L (r.toList ++ rest) h' Q)
  | none => False
theorem Go_invv {i mj b : Nat} {rest : List Value} (hm : ab_ml (ab_own mi) i = some (mj, 0)) (hd : S.drop (ab_np mj) = .ref b :: rest) (hr : ab_ref h b (ab_own mj) = true) (h9 : ab_own mj < 8) (ha : (S.take (ab_np mj)).all (ab_ok (ab_nx h)) = true) : Go (some (.invokevirtual i, len)) mi pc L S h Q = (ab_cat rest ≤ 8 ∧ Ex mj (.ref b :: (S.take (ab_np mj)).reverse) h (fun r h' => ab_sh h h' L rest ∧ Go (ab_at mi (pc + 3)) mi (pc + 3) L (r.toList ++ rest) h' Q)) := by
  refine Go_callgen (fun call => ?_)
  show ab_inv call (ab_own mi) i true pc L S h = _
  unfold ab_inv
  rw [hm]
  simp only [if_true]
  rw [hd]
  simp only
  rw [if_pos (by rw [hr, decide_eq_true h9, ha]; rfl)]
theorem Go_invs {i mj kd : Nat} (hm : ab_ml (ab_own mi) i = some (mj, kd)) (hk : kd = 1 ∨ kd = 2) (hl : ab_np mj ≤ S.length) (ha : (S.take (ab_np mj)).all (ab_ok (ab_nx h)) = true) : Go (some (.invokestatic i, len)) mi pc L S h Q = (ab_cat (S.drop (ab_np mj)) ≤ 8 ∧ Ex mj (S.take (ab_np mj)).reverse h (fun r h' => ab_sh h h' L (S.drop (ab_np mj)) ∧ Go (ab_at mi (pc + 3)) mi (pc + 3) L (r.toList ++ S.drop (ab_np mj)) h' Q)) := by
  refine Go_callgen (fun call => ?_)
  show ab_inv call (ab_own mi) i false pc L S h = _
  unfold ab_inv
  rw [hm]
  simp only [Bool.false_eq_true, if_false]
  rw [if_pos hk, if_pos ⟨hl, ha⟩]
end RUL
end
section
/-! THE LAW'S METHODS: judgements and rules, with the script at hand -/
def y_rt (mi : Nat) : Option FieldType := if mi = 146 then some .boolean else ab_rt mi
/-- a method, called so, comes to an end with Q -/
def Ey (xs : List Int32) (mi : Nat) (vs : List Value) (h : ab_H) (Q : Option Value → ab_H → Prop) : Prop := ∃ (n : Nat) (r : Option Value) (h' : ab_H), ab_ex (some xs) n mi vs h = some (r, h') ∧ Q r h'
/-- from here a method comes to an end with Q -/
def Ry (xs : List Int32) (mi : Nat) (F : ab_F) (Q : Option Value → ab_H → Prop) : Prop := ∃ (n : Nat) (r : Option Value) (h' : ab_H), ab_loop (ab_ex (some xs) n) (ab_at mi) 10 false (y_rt mi) (some xs) n F = some (r, h') ∧ Q r h'
/-- .. the next instruction being this one -/
def Gy (xs : List Int32) (x : Option (Instr × Nat)) (mi pc : Nat) (L : ab_L) (S : List Value) (h : ab_H) (Q : Option Value → ab_H → Prop) : Prop := match x with
  | some (ins, len) => ∃ n : Nat, match ab_step (ab_ex (some xs) n) 10 false (y_rt mi) (some xs) ins len pc L S h with
    | some (.inl F) => ∃ (r : Option Value) (h' : ab_H), ab_loop (ab_ex (some xs) n) (ab_at mi) 10 false (y_rt mi) (some xs) n F = some (r, h') ∧ Q r h'
    | some (.inr r) => Q r.1 r.2
    | none => False
  | none => False
theorem Ry_Gy {xs : List Int32} {mi pc : Nat} {L : ab_L} {S : List Value} {h : ab_H} {Q : Option Value → ab_H → Prop} : Ry xs mi (pc, L, S, h) Q ↔ Gy xs (ab_at mi pc) mi pc L S h Q := by
  unfold Ry Gy
  cases hc : ab_at mi pc with
  | none =>
    constructor
    · rintro ⟨n, r, h', h1, -⟩
      cases n with
      | zero => cases h1
      | succ n => unfold ab_loop at h1; rw [hc] at h1; cases h1
    · intro z; exact z.elim
  | some q =>
    obtain ⟨ins, len⟩ := q
    simp only
    constructor
    · rintro ⟨n, r, h', h1, hq⟩
      cases n with
      | zero => cases h1
      | succ n =>
        unfold ab_loop at h1
        rw [hc] at h1
        simp only at h1
        refine ⟨n + 1, ?_⟩
        cases hst : ab_step (ab_ex (some xs) (n + 1)) 10 false (y_rt mi) (some xs) ins len pc L S h with
        | none => rw [hst] at h1; cases h1
        | some x =>
          rw [hst] at h1
          cases x with
          | inl F =>
            simp only at h1 ⊢
            exact ⟨r, h', ab_loop_le (fun _ _ _ _ z => z) n (n + 1) F (by omega) h1, hq⟩
          | inr x =>
            simp only at h1 ⊢
            cases h1
            exact hq
    · rintro ⟨n, hn⟩
      cases hst : ab_step (ab_ex (some xs) n) 10 false (y_rt mi) (some xs) ins len pc L S h with
      | none => rw [hst] at hn; exact hn.elim
      | some x =>
        rw [hst] at hn
        have hst2 := ab_step_le (ab_ex_le n (n + 1) (by omega)) hst
        cases x with
        | inl F =>
          simp only at hn
          obtain ⟨r, h', h1, hq⟩ := hn
          refine ⟨n + 1, r, h', ?_, hq⟩
          unfold ab_loop
          rw [hc]
          simp only
          rw [hst2]
          exact ab_loop_le (ab_ex_le n (n + 1) (by omega)) n n F (Nat.le_refl _) h1
        | inr x =>
          simp only at hn
          refine ⟨n + 1, x.1, x.2, ?_, hn⟩
          unfold ab_loop
          rw [hc]
          simp only
          rw [hst2]
theorem Ey_Gy {xs : List Int32} {mi : Nat} {vs : List Value} {h : ab_H} {Q : Option Value → ab_H → Prop} (ho : ab_own mi = 10) (hi : ab_ini mi = false) (hm : mi < 146 ∧ (ab_ent vs).length ≤ ab_mxl mi) : Ey xs mi vs h Q ↔ Gy xs (ab_at mi 0) mi 0 (ab_entry (ab_mxl mi) vs) [] h Q := by
  rw [← Ry_Gy]
  have hl : mi < ab_M.length := by rw [ab_M_len]; exact hm.1
  have hr : y_rt mi = ab_rt mi := if_neg (by omega)
  unfold Ey Ry
  rw [hr]
  constructor
  · rintro ⟨n, r, h', h1, hq⟩
    cases n with
    | zero => cases h1
    | succ n =>
      unfold ab_ex at h1
      rw [if_pos ⟨hl, hm.2⟩, ho, hi] at h1
      exact ⟨n, r, h', h1, hq⟩
  · rintro ⟨n, r, h', h1, hq⟩
    refine ⟨n + 1, r, h', ?_, hq⟩
    unfold ab_ex
    rw [if_pos ⟨hl, hm.2⟩, ho, hi]
    exact h1
theorem Gy_next {xs : List Int32} {mi pc pc' len : Nat} {ins : Instr} {L L' : ab_L} {S S' : List Value} {h h' : ab_H} {Q : Option Value → ab_H → Prop} (hst : ∀ call, ab_step call 10 false (y_rt mi) (some xs) ins len pc L S h = some (.inl (pc', L', S', h'))) : Gy xs (some (ins, len)) mi pc L S h Q = Gy xs (ab_at mi pc') mi pc' L' S' h' Q := by
  apply propext
  rw [← Ry_Gy]
  unfold Gy Ry
  simp only [hst]
theorem Gy_stuck {xs : List Int32} {mi pc len : Nat} {ins : Instr} {L : ab_L} {S : List Value} {h : ab_H} {Q : Option Value → ab_H → Prop} (hst : ∀ call, ab_step call 10 false (y_rt mi) (some xs) ins len pc L S h = none) : Gy xs (some (ins, len)) mi pc L S h Q = False := by
  apply propext
  unfold Gy
  simp only [hst]
  constructor
  · rintro ⟨n, hn⟩; exact hn
  · intro z; exact z.elim
theorem Gy_end {xs : List Int32} {mi pc len : Nat} {ins : Instr} {L : ab_L} {S : List Value} {h : ab_H} {r : Option Value × ab_H} {Q : Option Value → ab_H → Prop} (hst : ∀ call, ab_step call 10 false (y_rt mi) (some xs) ins len pc L S h = some (.inr r)) : Gy xs (some (ins, len)) mi pc L S h Q = Q r.1 r.2 := by
  apply propext
  unfold Gy
  simp only [hst]
  constructor
  · rintro ⟨n, hn⟩; exact hn
  · intro z; exact ⟨0, z⟩

section RUY
variable {xs : List Int32} {mi pc len : Nat} {L : ab_L} {S : List Value} {h : ab_H} {Q : Option Value → ab_H → Prop}
theorem Gy_iconst {n : Int} : Gy xs (some (.iconst n, len)) mi pc (L) (S) h Q = Gy xs (ab_at mi (pc + 1)) mi (pc + 1) (L) (.int (Int32.ofInt n) :: S) h Q := Gy_next fun _ => rfl
theorem Gy_bipush {n : Int} : Gy xs (some (.bipush n, len)) mi pc (L) (S) h Q = Gy xs (ab_at mi (pc + 2)) mi (pc + 2) (L) (.int (Int8.ofInt n).toInt32 :: S) h Q := Gy_next fun _ => rfl
theorem Gy_sipush {n : Int} : Gy xs (some (.sipush n, len)) mi pc (L) (S) h Q = Gy xs (ab_at mi (pc + 3)) mi (pc + 3) (L) (.int (Int16.ofInt n).toInt32 :: S) h Q := Gy_next fun _ => rfl
theorem Gy_lconst {n : Fin 2} : Gy xs (some (.lconst n, len)) mi pc (L) (S) h Q = Gy xs (ab_at mi (pc + 1)) mi (pc + 1) (L) (.long (Int64.ofNat n) :: S) h Q := Gy_next fun _ => rfl
theorem Gy_iload_0 {x : Int32} : Gy xs (some (.iload_n 0, len)) mi pc (some (.int x) :: L) (S) h Q = Gy xs (ab_at mi (pc + 1)) mi (pc + 1) (some (.int x) :: L) (.int x :: S) h Q := Gy_next fun _ => rfl
theorem Gy_lload_0 {x : Int64} : Gy xs (some (.lload_n 0, len)) mi pc (some (.long x) :: L) (S) h Q = Gy xs (ab_at mi (pc + 1)) mi (pc + 1) (some (.long x) :: L) (.long x :: S) h Q := Gy_next fun _ => rfl
theorem Gy_aload_0 {x : Nat} : Gy xs (some (.aload_n 0, len)) mi pc (some (.ref x) :: L) (S) h Q = Gy xs (ab_at mi (pc + 1)) mi (pc + 1) (some (.ref x) :: L) (.ref x :: S) h Q := Gy_next fun _ => rfl
theorem Gy_istore_0 {b : Option Value} {x : Int32} : Gy xs (some (.istore_n 0, len)) mi pc (b :: L) (.int x :: S) h Q = Gy xs (ab_at mi (pc + 1)) mi (pc + 1) (ab_put 0 (.int x) (b :: L)) (S) h Q := Gy_next fun _ => by unfold ab_step; exact if_pos (show 0 < List.length (b :: L) by simp)
theorem Gy_astore_0 {b : Option Value} {x : Nat} : Gy xs (some (.astore_n 0, len)) mi pc (b :: L) (.ref x :: S) h Q = Gy xs (ab_at mi (pc + 1)) mi (pc + 1) (ab_put 0 (.ref x) (b :: L)) (S) h Q := Gy_next fun _ => by unfold ab_step; exact if_pos (show 0 < List.length (b :: L) by simp)
theorem Gy_lstore_0 {b b2 : Option Value} {x : Int64} : Gy xs (some (.lstore_n 0, len)) mi pc (b :: b2 :: L) (.long x :: S) h Q = Gy xs (ab_at mi (pc + 1)) mi (pc + 1) (ab_put 0 (.long x) (b :: b2 :: L)) (S) h Q := Gy_next fun _ => by unfold ab_step; exact if_pos (show 1 < List.length (b :: b2 :: L) by simp)
theorem Gy_iinc_0 {x : Int32} {n : Int} : Gy xs (some (.iinc 0 n, len)) mi pc (some (.int x) :: L) (S) h Q = Gy xs (ab_at mi (pc + 3)) mi (pc + 3) (ab_put 0 (.int (x + Int32.ofInt n)) (some (.int x) :: L)) (S) h Q := Gy_next fun _ => by unfold ab_step; exact if_pos (show 0 < List.length (some (.int x) :: L) by simp)
theorem Gy_iload_1 {a0 : Option Value} {x : Int32} : Gy xs (some (.iload_n 1, len)) mi pc (a0 :: some (.int x) :: L) (S) h Q = Gy xs (ab_at mi (pc + 1)) mi (pc + 1) (a0 :: some (.int x) :: L) (.int x :: S) h Q := Gy_next fun _ => rfl
theorem Gy_lload_1 {a0 : Option Value} {x : Int64} : Gy xs (some (.lload_n 1, len)) mi pc (a0 :: some (.long x) :: L) (S) h Q = Gy xs (ab_at mi (pc + 1)) mi (pc + 1) (a0 :: some (.long x) :: L) (.long x :: S) h Q := Gy_next fun _ => rfl
theorem Gy_aload_1 {a0 : Option Value} {x : Nat} : Gy xs (some (.aload_n 1, len)) mi pc (a0 :: some (.ref x) :: L) (S) h Q = Gy xs (ab_at mi (pc + 1)) mi (pc + 1) (a0 :: some (.ref x) :: L) (.ref x :: S) h Q := Gy_next fun _ => rfl
theorem Gy_istore_1 {a0 : Option Value} {b : Option Value} {x : Int32} : Gy xs (some (.istore_n 1, len)) mi pc (a0 :: b :: L) (.int x :: S) h Q = Gy xs (ab_at mi (pc + 1)) mi (pc + 1) (ab_put 1 (.int x) (a0 :: b :: L)) (S) h Q := Gy_next fun _ => by unfold ab_step; exact if_pos (show 1 < List.length (a0 :: b :: L) by simp)
theorem Gy_astore_1 {a0 : Option Value} {b : Option Value} {x : Nat} : Gy xs (some (.astore_n 1, len)) mi pc (a0 :: b :: L) (.ref x :: S) h Q = Gy xs (ab_at mi (pc + 1)) mi (pc + 1) (ab_put 1 (.ref x) (a0 :: b :: L)) (S) h Q := Gy_next fun _ => by unfold ab_step; exact if_pos (show 1 < List.length (a0 :: b :: L) by simp)
theorem Gy_lstore_1 {a0 : Option Value} {b b2 : Option Value} {x : Int64} : Gy xs (some (.lstore_n 1, len)) mi pc (a0 :: b :: b2 :: L) (.long x :: S) h Q = Gy xs (ab_at mi (pc + 1)) mi (pc + 1) (ab_put 1 (.long x) (a0 :: b :: b2 :: L)) (S) h Q := Gy_next fun _ => by unfold ab_step; exact if_pos (show 2 < List.length (a0 :: b :: b2 :: L) by simp)
theorem Gy_iinc_1 {a0 : Option Value} {x : Int32} {n : Int} : Gy xs (some (.iinc 1 n, len)) mi pc (a0 :: some (.int x) :: L) (S) h Q = Gy xs (ab_at mi (pc + 3)) mi (pc + 3) (ab_put 1 (.int (x + Int32.ofInt n)) (a0 :: some (.int x) :: L)) (S) h Q := Gy_next fun _ => by unfold ab_step; exact if_pos (show 1 < List.length (a0 :: some (.int x) :: L) by simp)
theorem Gy_iload_2 {a0 a1 : Option Value} {x : Int32} : Gy xs (some (.iload_n 2, len)) mi pc (a0 :: a1 :: some (.int x) :: L) (S) h Q = Gy xs (ab_at mi (pc + 1)) mi (pc + 1) (a0 :: a1 :: some (.int x) :: L) (.int x :: S) h Q := Gy_next fun _ => rfl
theorem Gy_lload_2 {a0 a1 : Option Value} {x : Int64} : Gy xs (some (.lload_n 2, len)) mi pc (a0 :: a1 :: some (.long x) :: L) (S) h Q = Gy xs (ab_at mi (pc + 1)) mi (pc + 1) (a0 :: a1 :: some (.long x) :: L) (.long x :: S) h Q := Gy_next fun _ => rfl
theorem Gy_aload_2 {a0 a1 : Option Value} {x : Nat} : Gy xs (some (.aload_n 2, len)) mi pc (a0 :: a1 :: some (.ref x) :: L) (S) h Q = Gy xs (ab_at mi (pc + 1)) mi (pc + 1) (a0 :: a1 :: some (.ref x) :: L) (.ref x :: S) h Q := Gy_next fun _ => rfl
theorem Gy_istore_2 {a0 a1 : Option Value} {b : Option Value} {x : Int32} : Gy xs (some (.istore_n 2, len)) mi pc (a0 :: a1 :: b :: L) (.int x :: S) h Q = Gy xs (ab_at mi (pc + 1)) mi (pc + 1) (ab_put 2 (.int x) (a0 :: a1 :: b :: L)) (S) h Q := Gy_next fun _ => by unfold ab_step; exact if_pos (show 2 < List.length (a0 :: a1 :: b :: L) by simp)
theorem Gy_astore_2 {a0 a1 : Option Value} {b : Option Value} {x : Nat} : Gy xs (some (.astore_n 2, len)) mi pc (a0 :: a1 :: b :: L) (.ref x :: S) h Q = Gy xs (ab_at mi (pc + 1)) mi (pc + 1) (ab_put 2 (.ref x) (a0 :: a1 :: b :: L)) (S) h Q := Gy_next fun _ => by unfold ab_step; exact if_pos (show 2 < List.length (a0 :: a1 :: b :: L) by simp)
theorem Gy_lstore_2 {a0 a1 : Option Value} {b b2 : Option Value} {x : Int64} : Gy xs (some (.lstore_n 2, len)) mi pc (a0 :: a1 :: b :: b2 :: L) (.long x :: S) h Q = Gy xs (ab_at mi (pc + 1)) mi (pc + 1) (ab_put 2 (.long x) (a0 :: a1 :: b :: b2 :: L)) (S) h Q := Gy_next fun _ => by unfold ab_step; exact if_pos (show 3 < List.length (a0 :: a1 :: b :: b2 :: L) by simp)
theorem Gy_iinc_2 {a0 a1 : Option Value} {x : Int32} {n : Int} : Gy xs (some (.iinc 2 n, len)) mi pc (a0 :: a1 :: some (.int x) :: L) (S) h Q = Gy xs (ab_at mi (pc + 3)) mi (pc + 3) (ab_put 2 (.int (x + Int32.ofInt n)) (a0 :: a1 :: some (.int x) :: L)) (S) h Q := Gy_next fun _ => by unfold ab_step; exact if_pos (show 2 < List.length (a0 :: a1 :: some (.int x) :: L) by simp)
theorem Gy_iload_3 {a0 a1 a2 : Option Value} {x : Int32} : Gy xs (some (.iload_n 3, len)) mi pc (a0 :: a1 :: a2 :: some (.int x) :: L) (S) h Q = Gy xs (ab_at mi (pc + 1)) mi (pc + 1) (a0 :: a1 :: a2 :: some (.int x) :: L) (.int x :: S) h Q := Gy_next fun _ => rfl
theorem Gy_lload_3 {a0 a1 a2 : Option Value} {x : Int64} : Gy xs (some (.lload_n 3, len)) mi pc (a0 :: a1 :: a2 :: some (.long x) :: L) (S) h Q = Gy xs (ab_at mi (pc + 1)) mi (pc + 1) (a0 :: a1 :: a2 :: some (.long x) :: L) (.long x :: S) h Q := Gy_next fun _ => rfl
theorem Gy_aload_3 {a0 a1 a2 : Option Value} {x : Nat} : Gy xs (some (.aload_n 3, len)) mi pc (a0 :: a1 :: a2 :: some (.ref x) :: L) (S) h Q = Gy xs (ab_at mi (pc + 1)) mi (pc + 1) (a0 :: a1 :: a2 :: some (.ref x) :: L) (.ref x :: S) h Q := Gy_next fun _ => rfl
theorem Gy_istore_3 {a0 a1 a2 : Option Value} {b : Option Value} {x : Int32} : Gy xs (some (.istore_n 3, len)) mi pc (a0 :: a1 :: a2 :: b :: L) (.int x :: S) h Q = Gy xs (ab_at mi (pc + 1)) mi (pc + 1) (ab_put 3 (.int x) (a0 :: a1 :: a2 :: b :: L)) (S) h Q := Gy_next fun _ => by unfold ab_step; exact if_pos (show 3 < List.length (a0 :: a1 :: a2 :: b :: L) by simp)
theorem Gy_astore_3 {a0 a1 a2 : Option Value} {b : Option Value} {x : Nat} : Gy xs (some (.astore_n 3, len)) mi pc (a0 :: a1 :: a2 :: b :: L) (.ref x :: S) h Q = Gy xs (ab_at mi (pc + 1)) mi (pc + 1) (ab_put 3 (.ref x) (a0 :: a1 :: a2 :: b :: L)) (S) h Q := Gy_next fun _ => by unfold ab_step; exact if_pos (show 3 < List.length (a0 :: a1 :: a2 :: b :: L) by simp)
theorem Gy_lstore_3 {a0 a1 a2 : Option Value} {b b2 : Option Value} {x : Int64} : Gy xs (some (.lstore_n 3, len)) mi pc (a0 :: a1 :: a2 :: b :: b2 :: L) (.long x :: S) h Q = Gy xs (ab_at mi (pc + 1)) mi (pc + 1) (ab_put 3 (.long x) (a0 :: a1 :: a2 :: b :: b2 :: L)) (S) h Q := Gy_next fun _ => by unfold ab_step; exact if_pos (show 4 < List.length (a0 :: a1 :: a2 :: b :: b2 :: L) by simp)
theorem Gy_iinc_3 {a0 a1 a2 : Option Value} {x : Int32} {n : Int} : Gy xs (some (.iinc 3 n, len)) mi pc (a0 :: a1 :: a2 :: some (.int x) :: L) (S) h Q = Gy xs (ab_at mi (pc + 3)) mi (pc + 3) (ab_put 3 (.int (x + Int32.ofInt n)) (a0 :: a1 :: a2 :: some (.int x) :: L)) (S) h Q := Gy_next fun _ => by unfold ab_step; exact if_pos (show 3 < List.length (a0 :: a1 :: a2 :: some (.int x) :: L) by simp)
theorem Gy_iload_4 {a0 a1 a2 a3 : Option Value} {x : Int32} : Gy xs (some (.iload 4, len)) mi pc (a0 :: a1 :: a2 :: a3 :: some (.int x) :: L) (S) h Q = Gy xs (ab_at mi (pc + 2)) mi (pc + 2) (a0 :: a1 :: a2 :: a3 :: some (.int x) :: L) (.int x :: S) h Q := Gy_next fun _ => rfl
theorem Gy_lload_4 {a0 a1 a2 a3 : Option Value} {x : Int64} : Gy xs (some (.lload 4, len)) mi pc (a0 :: a1 :: a2 :: a3 :: some (.long x) :: L) (S) h Q = Gy xs (ab_at mi (pc + 2)) mi (pc + 2) (a0 :: a1 :: a2 :: a3 :: some (.long x) :: L) (.long x :: S) h Q := Gy_next fun _ => rfl
theorem Gy_istore_4 {a0 a1 a2 a3 : Option Value} {b : Option Value} {x : Int32} : Gy xs (some (.istore 4, len)) mi pc (a0 :: a1 :: a2 :: a3 :: b :: L) (.int x :: S) h Q = Gy xs (ab_at mi (pc + 2)) mi (pc + 2) (ab_put 4 (.int x) (a0 :: a1 :: a2 :: a3 :: b :: L)) (S) h Q := Gy_next fun _ => by unfold ab_step; exact if_pos (show 4 < List.length (a0 :: a1 :: a2 :: a3 :: b :: L) by simp)
theorem Gy_lstore_4 {a0 a1 a2 a3 : Option Value} {b b2 : Option Value} {x : Int64} : Gy xs (some (.lstore 4, len)) mi pc (a0 :: a1 :: a2 :: a3 :: b :: b2 :: L) (.long x :: S) h Q = Gy xs (ab_at mi (pc + 2)) mi (pc + 2) (ab_put 4 (.long x) (a0 :: a1 :: a2 :: a3 :: b :: b2 :: L)) (S) h Q := Gy_next fun _ => by unfold ab_step; exact if_pos (show 5 < List.length (a0 :: a1 :: a2 :: a3 :: b :: b2 :: L) by simp)
theorem Gy_iinc_4 {a0 a1 a2 a3 : Option Value} {x : Int32} {n : Int} : Gy xs (some (.iinc 4 n, len)) mi pc (a0 :: a1 :: a2 :: a3 :: some (.int x) :: L) (S) h Q = Gy xs (ab_at mi (pc + 3)) mi (pc + 3) (ab_put 4 (.int (x + Int32.ofInt n)) (a0 :: a1 :: a2 :: a3 :: some (.int x) :: L)) (S) h Q := Gy_next fun _ => by unfold ab_step; exact if_pos (show 4 < List.length (a0 :: a1 :: a2 :: a3 :: some (.int x) :: L) by simp)
theorem Gy_iload_5 {a0 a1 a2 a3 a4 : Option Value} {x : Int32} : Gy xs (some (.iload 5, len)) mi pc (a0 :: a1 :: a2 :: a3 :: a4 :: some (.int x) :: L) (S) h Q = Gy xs (ab_at mi (pc + 2)) mi (pc + 2) (a0 :: a1 :: a2 :: a3 :: a4 :: some (.int x) :: L) (.int x :: S) h Q := Gy_next fun _ => rfl
theorem Gy_lload_5 {a0 a1 a2 a3 a4 : Option Value} {x : Int64} : Gy xs (some (.lload 5, len)) mi pc (a0 :: a1 :: a2 :: a3 :: a4 :: some (.long x) :: L) (S) h Q = Gy xs (ab_at mi (pc + 2)) mi (pc + 2) (a0 :: a1 :: a2 :: a3 :: a4 :: some (.long x) :: L) (.long x :: S) h Q := Gy_next fun _ => rfl
theorem Gy_istore_5 {a0 a1 a2 a3 a4 : Option Value} {b : Option Value} {x : Int32} : Gy xs (some (.istore 5, len)) mi pc (a0 :: a1 :: a2 :: a3 :: a4 :: b :: L) (.int x :: S) h Q = Gy xs (ab_at mi (pc + 2)) mi (pc + 2) (ab_put 5 (.int x) (a0 :: a1 :: a2 :: a3 :: a4 :: b :: L)) (S) h Q := Gy_next fun _ => by unfold ab_step; exact if_pos (show 5 < List.length (a0 :: a1 :: a2 :: a3 :: a4 :: b :: L) by simp)
theorem Gy_lstore_5 {a0 a1 a2 a3 a4 : Option Value} {b b2 : Option Value} {x : Int64} : Gy xs (some (.lstore 5, len)) mi pc (a0 :: a1 :: a2 :: a3 :: a4 :: b :: b2 :: L) (.long x :: S) h Q = Gy xs (ab_at mi (pc + 2)) mi (pc + 2) (ab_put 5 (.long x) (a0 :: a1 :: a2 :: a3 :: a4 :: b :: b2 :: L)) (S) h Q := Gy_next fun _ => by unfold ab_step; exact if_pos (show 6 < List.length (a0 :: a1 :: a2 :: a3 :: a4 :: b :: b2 :: L) by simp)
theorem Gy_iinc_5 {a0 a1 a2 a3 a4 : Option Value} {x : Int32} {n : Int} : Gy xs (some (.iinc 5 n, len)) mi pc (a0 :: a1 :: a2 :: a3 :: a4 :: some (.int x) :: L) (S) h Q = Gy xs (ab_at mi (pc + 3)) mi (pc + 3) (ab_put 5 (.int (x + Int32.ofInt n)) (a0 :: a1 :: a2 :: a3 :: a4 :: some (.int x) :: L)) (S) h Q := Gy_next fun _ => by unfold ab_step; exact if_pos (show 5 < List.length (a0 :: a1 :: a2 :: a3 :: a4 :: some (.int x) :: L) by simp)
theorem Gy_iload_6 {a0 a1 a2 a3 a4 a5 : Option Value} {x : Int32} : Gy xs (some (.iload 6, len)) mi pc (a0 :: a1 :: a2 :: a3 :: a4 :: a5 :: some (.int x) :: L) (S) h Q = Gy xs (ab_at mi (pc + 2)) mi (pc + 2) (a0 :: a1 :: a2 :: a3 :: a4 :: a5 :: some (.int x) :: L) (.int x :: S) h Q := Gy_next fun _ => rfl
theorem Gy_lload_6 {a0 a1 a2 a3 a4 a5 : Option Value} {x : Int64} : Gy xs (some (.lload 6, len)) mi pc (a0 :: a1 :: a2 :: a3 :: a4 :: a5 :: some (.long x) :: L) (S) h Q = Gy xs (ab_at mi (pc + 2)) mi (pc + 2) (a0 :: a1 :: a2 :: a3 :: a4 :: a5 :: some (.long x) :: L) (.long x :: S) h Q := Gy_next fun _ => rfl
theorem Gy_istore_6 {a0 a1 a2 a3 a4 a5 : Option Value} {b : Option Value} {x : Int32} : Gy xs (some (.istore 6, len)) mi pc (a0 :: a1 :: a2 :: a3 :: a4 :: a5 :: b :: L) (.int x :: S) h Q = Gy xs (ab_at mi (pc + 2)) mi (pc + 2) (ab_put 6 (.int x) (a0 :: a1 :: a2 :: a3 :: a4 :: a5 :: b :: L)) (S) h Q := Gy_next fun _ => by unfold ab_step; exact if_pos (show 6 < List.length (a0 :: a1 :: a2 :: a3 :: a4 :: a5 :: b :: L) by simp)
theorem Gy_lstore_6 {a0 a1 a2 a3 a4 a5 : Option Value} {b b2 : Option Value} {x : Int64} : Gy xs (some (.lstore 6, len)) mi pc (a0 :: a1 :: a2 :: a3 :: a4 :: a5 :: b :: b2 :: L) (.long x :: S) h Q = Gy xs (ab_at mi (pc + 2)) mi (pc + 2) (ab_put 6 (.long x) (a0 :: a1 :: a2 :: a3 :: a4 :: a5 :: b :: b2 :: L)) (S) h Q := Gy_next fun _ => by unfold ab_step; exact if_pos (show 7 < List.length (a0 :: a1 :: a2 :: a3 :: a4 :: a5 :: b :: b2 :: L) by simp)
theorem Gy_iinc_6 {a0 a1 a2 a3 a4 a5 : Option Value} {x : Int32} {n : Int} : Gy xs (some (.iinc 6 n, len)) mi pc (a0 :: a1 :: a2 :: a3 :: a4 :: a5 :: some (.int x) :: L) (S) h Q = Gy xs (ab_at mi (pc + 3)) mi (pc + 3) (ab_put 6 (.int (x + Int32.ofInt n)) (a0 :: a1 :: a2 :: a3 :: a4 :: a5 :: some (.int x) :: L)) (S) h Q := Gy_next fun _ => by unfold ab_step; exact if_pos (show 6 < List.length (a0 :: a1 :: a2 :: a3 :: a4 :: a5 :: some (.int x) :: L) by simp)
theorem Gy_iload_7 {a0 a1 a2 a3 a4 a5 a6 : Option Value} {x : Int32} : Gy xs (some (.iload 7, len)) mi pc (a0 :: a1 :: a2 :: a3 :: a4 :: a5 :: a6 :: some (.int x) :: L) (S) h Q = Gy xs (ab_at mi (pc + 2)) mi (pc + 2) (a0 :: a1 :: a2 :: a3 :: a4 :: a5 :: a6 :: some (.int x) :: L) (.int x :: S) h Q := Gy_next fun _ => rfl
theorem Gy_lload_7 {a0 a1 a2 a3 a4 a5 a6 : Option Value} {x : Int64} : Gy xs (some (.lload 7, len)) mi pc (a0 :: a1 :: a2 :: a3 :: a4 :: a5 :: a6 :: some (.long x) :: L) (S) h Q = Gy xs (ab_at mi (pc + 2)) mi (pc + 2) (a0 :: a1 :: a2 :: a3 :: a4 :: a5 :: a6 :: some (.long x) :: L) (.long x :: S) h Q := Gy_next fun _ => rfl
theorem Gy_istore_7 {a0 a1 a2 a3 a4 a5 a6 : Option Value} {b : Option Value} {x : Int32} : Gy xs (some (.istore 7, len)) mi pc (a0 :: a1 :: a2 :: a3 :: a4 :: a5 :: a6 :: b :: L) (.int x :: S) h Q = Gy xs (ab_at mi (pc + 2)) mi (pc + 2) (ab_put 7 (.int x) (a0 :: a1 :: a2 :: a3 :: a4 :: a5 :: a6 :: b :: L)) (S) h Q := Gy_next fun _ => by unfold ab_step; exact if_pos (show 7 < List.length (a0 :: a1 :: a2 :: a3 :: a4 :: a5 :: a6 :: b :: L) by simp)
theorem Gy_lstore_7 {a0 a1 a2 a3 a4 a5 a6 : Option Value} {b b2 : Option Value} {x : Int64} : Gy xs (some (.lstore 7, len)) mi pc (a0 :: a1 :: a2 :: a3 :: a4 :: a5 :: a6 :: b :: b2 :: L) (.long x :: S) h Q = Gy xs (ab_at mi (pc + 2)) mi (pc + 2) (ab_put 7 (.long x) (a0 :: a1 :: a2 :: a3 :: a4 :: a5 :: a6 :: b :: b2 :: L)) (S) h Q := Gy_next fun _ => by unfold ab_step; exact if_pos (show 8 < List.length (a0 :: a1 :: a2 :: a3 :: a4 :: a5 :: a6 :: b :: b2 :: L) by simp)
theorem Gy_iinc_7 {a0 a1 a2 a3 a4 a5 a6 : Option Value} {x : Int32} {n : Int} : Gy xs (some (.iinc 7 n, len)) mi pc (a0 :: a1 :: a2 :: a3 :: a4 :: a5 :: a6 :: some (.int x) :: L) (S) h Q = Gy xs (ab_at mi (pc + 3)) mi (pc + 3) (ab_put 7 (.int (x + Int32.ofInt n)) (a0 :: a1 :: a2 :: a3 :: a4 :: a5 :: a6 :: some (.int x) :: L)) (S) h Q := Gy_next fun _ => by unfold ab_step; exact if_pos (show 7 < List.length (a0 :: a1 :: a2 :: a3 :: a4 :: a5 :: a6 :: some (.int x) :: L) by simp)
theorem Gy_iload_8 {a0 a1 a2 a3 a4 a5 a6 a7 : Option Value} {x : Int32} : Gy xs (some (.iload 8, len)) mi pc (a0 :: a1 :: a2 :: a3 :: a4 :: a5 :: a6 :: a7 :: some (.int x) :: L) (S) h Q = Gy xs (ab_at mi (pc + 2)) mi (pc + 2) (a0 :: a1 :: a2 :: a3 :: a4 :: a5 :: a6 :: a7 :: some (.int x) :: L) (.int x :: S) h Q := Gy_next fun _ => rfl
theorem Gy_lload_8 {a0 a1 a2 a3 a4 a5 a6 a7 : Option Value} {x : Int64} : Gy xs (some (.lload 8, len)) mi pc (a0 :: a1 :: a2 :: a3 :: a4 :: a5 :: a6 :: a7 :: some (.long x) :: L) (S) h Q = Gy xs (ab_at mi (pc + 2)) mi (pc + 2) (a0 :: a1 :: a2 :: a3 :: a4 :: a5 :: a6 :: a7 :: some (.long x) :: L) (.long x :: S) h Q := Gy_next fun _ => rfl
theorem Gy_istore_8 {a0 a1 a2 a3 a4 a5 a6 a7 : Option Value} {b : Option Value} {x : Int32} : Gy xs (some (.istore 8, len)) mi pc (a0 :: a1 :: a2 :: a3 :: a4 :: a5 :: a6 :: a7 :: b :: L) (.int x :: S) h Q = Gy xs (ab_at mi (pc + 2)) mi (pc + 2) (ab_put 8 (.int x) (a0 :: a1 :: a2 :: a3 :: a4 :: a5 :: a6 :: a7 :: b :: L)) (S) h Q := Gy_next fun _ => by unfold ab_step; exact if_pos (show 8 < List.length (a0 :: a1 :: a2 :: a3 :: a4 :: a5 :: a6 :: a7 :: b :: L) by simp)
theorem Gy_lstore_8 {a0 a1 a2 a3 a4 a5 a6 a7 : Option Value} {b b2 : Option Value} {x : Int64} : Gy xs (some (.lstore 8, len)) mi pc (a0 :: a1 :: a2 :: a3 :: a4 :: a5 :: a6 :: a7 :: b :: b2 :: L) (.long x :: S) h Q = Gy xs (ab_at mi (pc + 2)) mi (pc + 2) (ab_put 8 (.long x) (a0 :: a1 :: a2 :: a3 :: a4 :: a5 :: a6 :: a7 :: b :: b2 :: L)) (S) h Q := Gy_next fun _ => by unfold ab_step; exact if_pos (show 9 < List.length (a0 :: a1 :: a2 :: a3 :: a4 :: a5 :: a6 :: a7 :: b :: b2 :: L) by simp)
theorem Gy_iinc_8 {a0 a1 a2 a3 a4 a5 a6 a7 : Option Value} {x : Int32} {n : Int} : Gy xs (some (.iinc 8 n, len)) mi pc (a0 :: a1 :: a2 :: a3 :: a4 :: a5 :: a6 :: a7 :: some (.int x) :: L) (S) h Q = Gy xs (ab_at mi (pc + 3)) mi (pc + 3) (ab_put 8 (.int (x + Int32.ofInt n)) (a0 :: a1 :: a2 :: a3 :: a4 :: a5 :: a6 :: a7 :: some (.int x) :: L)) (S) h Q := Gy_next fun _ => by unfold ab_step; exact if_pos (show 8 < List.length (a0 :: a1 :: a2 :: a3 :: a4 :: a5 :: a6 :: a7 :: some (.int x) :: L) by simp)
theorem Gy_iload_9 {a0 a1 a2 a3 a4 a5 a6 a7 a8 : Option Value} {x : Int32} : Gy xs (some (.iload 9, len)) mi pc (a0 :: a1 :: a2 :: a3 :: a4 :: a5 :: a6 :: a7 :: a8 :: some (.int x) :: L) (S) h Q = Gy xs (ab_at mi (pc + 2)) mi (pc + 2) (a0 :: a1 :: a2 :: a3 :: a4 :: a5 :: a6 :: a7 :: a8 :: some (.int x) :: L) (.int x :: S) h Q := Gy_next fun _ => rfl
theorem Gy_lload_9 {a0 a1 a2 a3 a4 a5 a6 a7 a8 : Option Value} {x : Int64} : Gy xs (some (.lload 9, len)) mi pc (a0 :: a1 :: a2 :: a3 :: a4 :: a5 :: a6 :: a7 :: a8 :: some (.long x) :: L) (S) h Q = Gy xs (ab_at mi (pc + 2)) mi (pc + 2) (a0 :: a1 :: a2 :: a3 :: a4 :: a5 :: a6 :: a7 :: a8 :: some (.long x) :: L) (.long x :: S) h Q := Gy_next fun _ => rfl
theorem Gy_istore_9 {a0 a1 a2 a3 a4 a5 a6 a7 a8 : Option Value} {b : Option Value} {x : Int32} : Gy xs (some (.istore 9, len)) mi pc (a0 :: a1 :: a2 :: a3 :: a4 :: a5 :: a6 :: a7 :: a8 :: b :: L) (.int x :: S) h Q = Gy xs (ab_at mi (pc + 2)) mi (pc + 2) (ab_put 9 (.int x) (a0 :: a1 :: a2 :: a3 :: a4 :: a5 :: a6 :: a7 :: a8 :: b :: L)) (S) h Q := Gy_next fun _ => by unfold ab_step; exact if_pos (show 9 < List.length (a0 :: a1 :: a2 :: a3 :: a4 :: a5 :: a6 :: a7 :: a8 :: b :: L) by simp)
theorem Gy_lstore_9 {a0 a1 a2 a3 a4 a5 a6 a7 a8 : Option Value} {b b2 : Option Value} {x : Int64} : Gy xs (some (.lstore 9, len)) mi pc (a0 :: a1 :: a2 :: a3 :: a4 :: a5 :: a6 :: a7 :: a8 :: b :: b2 :: L) (.long x :: S) h Q = Gy xs (ab_at mi (pc + 2)) mi (pc + 2) (ab_put 9 (.long x) (a0 :: a1 :: a2 :: a3 :: a4 :: a5 :: a6 :: a7 :: a8 :: b :: b2 :: L)) (S) h Q := Gy_next fun _ => by unfold ab_step; exact if_pos (show 10 < List.length (a0 :: a1 :: a2 :: a3 :: a4 :: a5 :: a6 :: a7 :: a8 :: b :: b2 :: L) by simp)
theorem Gy_iinc_9 {a0 a1 a2 a3 a4 a5 a6 a7 a8 : Option Value} {x : Int32} {n : Int} : Gy xs (some (.iinc 9 n, len)) mi pc (a0 :: a1 :: a2 :: a3 :: a4 :: a5 :: a6 :: a7 :: a8 :: some (.int x) :: L) (S) h Q = Gy xs (ab_at mi (pc + 3)) mi (pc + 3) (ab_put 9 (.int (x + Int32.ofInt n)) (a0 :: a1 :: a2 :: a3 :: a4 :: a5 :: a6 :: a7 :: a8 :: some (.int x) :: L)) (S) h Q := Gy_next fun _ => by unfold ab_step; exact if_pos (show 9 < List.length (a0 :: a1 :: a2 :: a3 :: a4 :: a5 :: a6 :: a7 :: a8 :: some (.int x) :: L) by simp)
theorem Gy_iload_10 {a0 a1 a2 a3 a4 a5 a6 a7 a8 a9 : Option Value} {x : Int32} : Gy xs (some (.iload 10, len)) mi pc (a0 :: a1 :: a2 :: a3 :: a4 :: a5 :: a6 :: a7 :: a8 :: a9 :: some (.int x) :: L) (S) h Q = Gy xs (ab_at mi (pc + 2)) mi (pc + 2) (a0 :: a1 :: a2 :: a3 :: a4 :: a5 :: a6 :: a7 :: a8 :: a9 :: some (.int x) :: L) (.int x :: S) h Q := Gy_next fun _ => rfl
theorem Gy_lload_10 {a0 a1 a2 a3 a4 a5 a6 a7 a8 a9 : Option Value} {x : Int64} : Gy xs (some (.lload 10, len)) mi pc (a0 :: a1 :: a2 :: a3 :: a4 :: a5 :: a6 :: a7 :: a8 :: a9 :: some (.long x) :: L) (S) h Q = Gy xs (ab_at mi (pc + 2)) mi (pc + 2) (a0 :: a1 :: a2 :: a3 :: a4 :: a5 :: a6 :: a7 :: a8 :: a9 :: some (.long x) :: L) (.long x :: S) h Q := Gy_next fun _ => rfl
theorem Gy_istore_10 {a0 a1 a2 a3 a4 a5 a6 a7 a8 a9 : Option Value} {b : Option Value} {x : Int32} : Gy xs (some (.istore 10, len)) mi pc (a0 :: a1 :: a2 :: a3 :: a4 :: a5 :: a6 :: a7 :: a8 :: a9 :: b :: L) (.int x :: S) h Q = Gy xs (ab_at mi (pc + 2)) mi (pc + 2) (ab_put 10 (.int x) (a0 :: a1 :: a2 :: a3 :: a4 :: a5 :: a6 :: a7 :: a8 :: a9 :: b :: L)) (S) h Q := Gy_next fun _ => by unfold ab_step; exact if_pos (show 10 < List.length (a0 :: a1 :: a2 :: a3 :: a4 :: a5 :: a6 :: a7 :: a8 :: a9 :: b :: L) by simp)
theorem Gy_lstore_10 {a0 a1 a2 a3 a4 a5 a6 a7 a8 a9 : Option Value} {b b2 : Option Value} {x : Int64} : Gy xs (some (.lstore 10, len)) mi pc (a0 :: a1 :: a2 :: a3 :: a4 :: a5 :: a6 :: a7 :: a8 :: a9 :: b :: b2 :: L) (.long x :: S) h Q = Gy xs (ab_at mi (pc + 2)) mi (pc + 2) (ab_put 10 (.long x) (a0 :: a1 :: a2 :: a3 :: a4 :: a5 :: a6 :: a7 :: a8 :: a9 :: b :: b2 :: L)) (S) h Q := Gy_next fun _ => by unfold ab_step; exact if_pos (show 11 < List.length (a0 :: a1 :: a2 :: a3 :: a4 :: a5 :: a6 :: a7 :: a8 :: a9 :: b :: b2 :: L) by simp)
theorem Gy_iinc_10 {a0 a1 a2 a3 a4 a5 a6 a7 a8 a9 : Option Value} {x : Int32} {n : Int} : Gy xs (some (.iinc 10 n, len)) mi pc (a0 :: a1 :: a2 :: a3 :: a4 :: a5 :: a6 :: a7 :: a8 :: a9 :: some (.int x) :: L) (S) h Q = Gy xs (ab_at mi (pc + 3)) mi (pc + 3) (ab_put 10 (.int (x + Int32.ofInt n)) (a0 :: a1 :: a2 :: a3 :: a4 :: a5 :: a6 :: a7 :: a8 :: a9 :: some (.int x) :: L)) (S) h Q := Gy_next fun _ => by unfold ab_step; exact if_pos (show 10 < List.length (a0 :: a1 :: a2 :: a3 :: a4 :: a5 :: a6 :: a7 :: a8 :: a9 :: some (.int x) :: L) by simp)
theorem Gy_iload_11 {a0 a1 a2 a3 a4 a5 a6 a7 a8 a9 a10 : Option Value} {x : Int32} : Gy xs (some (.iload 11, len)) mi pc (a0 :: a1 :: a2 :: a3 :: a4 :: a5 :: a6 :: a7 :: a8 :: a9 :: a10 :: some (.int x) :: L) (S) h Q = Gy xs (ab_at mi (pc + 2)) mi (pc + 2) (a0 :: a1 :: a2 :: a3 :: a4 :: a5 :: a6 :: a7 :: a8 :: a9 :: a10 :: some (.int x) :: L) (.int x :: S) h Q := Gy_next fun _ => rfl
theorem Gy_lload_11 {a0 a1 a2 a3 a4 a5 a6 a7 a8 a9 a10 : Option Value} {x : Int64} : Gy xs (some (.lload 11, len)) mi pc (a0 :: a1 :: a2 :: a3 :: a4 :: a5 :: a6 :: a7 :: a8 :: a9 :: a10 :: some (.long x) :: L) (S) h Q = Gy xs (ab_at mi (pc + 2)) mi (pc + 2) (a0 :: a1 :: a2 :: a3 :: a4 :: a5 :: a6 :: a7 :: a8 :: a9 :: a10 :: some (.long x) :: L) (.long x :: S) h Q := Gy_next fun _ => rfl
theorem Gy_istore_11 {a0 a1 a2 a3 a4 a5 a6 a7 a8 a9 a10 : Option Value} {b : Option Value} {x : Int32} : Gy xs (some (.istore 11, len)) mi pc (a0 :: a1 :: a2 :: a3 :: a4 :: a5 :: a6 :: a7 :: a8 :: a9 :: a10 :: b :: L) (.int x :: S) h Q = Gy xs (ab_at mi (pc + 2)) mi (pc + 2) (ab_put 11 (.int x) (a0 :: a1 :: a2 :: a3 :: a4 :: a5 :: a6 :: a7 :: a8 :: a9 :: a10 :: b :: L)) (S) h Q := Gy_next fun _ => by unfold ab_step; exact if_pos (show 11 < List.length (a0 :: a1 :: a2 :: a3 :: a4 :: a5 :: a6 :: a7 :: a8 :: a9 :: a10 :: b :: L) by simp)
theorem Gy_lstore_11 {a0 a1 a2 a3 a4 a5 a6 a7 a8 a9 a10 : Option Value} {b b2 : Option Value} {x : Int64} : Gy xs (some (.lstore 11, len)) mi pc (a0 :: a1 :: a2 :: a3 :: a4 :: a5 :: a6 :: a7 :: a8 :: a9 :: a10 :: b :: b2 :: L) (.long x :: S) h Q = Gy xs (ab_at mi (pc + 2)) mi (pc + 2) (ab_put 11 (.long x) (a0 :: a1 :: a2 :: a3 :: a4 :: a5 :: a6 :: a7 :: a8 :: a9 :: a10 :: b :: b2 :: L)) (S) h Q := Gy_next fun _ => by unfold ab_step; exact if_pos (show 12 < List.length (a0 :: a1 :: a2 :: a3 :: a4 :: a5 :: a6 :: a7 :: a8 :: a9 :: a10 :: b :: b2 :: L) by simp)
theorem Gy_iinc_11 {a0 a1 a2 a3 a4 a5 a6 a7 a8 a9 a10 : Option Value} {x : Int32} {n : Int} : Gy xs (some (.iinc 11 n, len)) mi pc (a0 :: a1 :: a2 :: a3 :: a4 :: a5 :: a6 :: a7 :: a8 :: a9 :: a10 :: some (.int x) :: L) (S) h Q = Gy xs (ab_at mi (pc + 3)) mi (pc + 3) (ab_put 11 (.int (x + Int32.ofInt n)) (a0 :: a1 :: a2 :: a3 :: a4 :: a5 :: a6 :: a7 :: a8 :: a9 :: a10 :: some (.int x) :: L)) (S) h Q := Gy_next fun _ => by unfold ab_step; exact if_pos (show 11 < List.length (a0 :: a1 :: a2 :: a3 :: a4 :: a5 :: a6 :: a7 :: a8 :: a9 :: a10 :: some (.int x) :: L) by simp)
theorem Gy_iadd {x z : Int32} : Gy xs (some (.iadd, len)) mi pc (L) (.int z :: .int x :: S) h Q = Gy xs (ab_at mi (pc + 1)) mi (pc + 1) (L) (.int (x + z) :: S) h Q := Gy_next fun _ => rfl
theorem Gy_isub {x z : Int32} : Gy xs (some (.isub, len)) mi pc (L) (.int z :: .int x :: S) h Q = Gy xs (ab_at mi (pc + 1)) mi (pc + 1) (L) (.int (x - z) :: S) h Q := Gy_next fun _ => rfl
theorem Gy_imul {x z : Int32} : Gy xs (some (.imul, len)) mi pc (L) (.int z :: .int x :: S) h Q = Gy xs (ab_at mi (pc + 1)) mi (pc + 1) (L) (.int (x * z) :: S) h Q := Gy_next fun _ => rfl
theorem Gy_iand {x z : Int32} : Gy xs (some (.iand, len)) mi pc (L) (.int z :: .int x :: S) h Q = Gy xs (ab_at mi (pc + 1)) mi (pc + 1) (L) (.int (x &&& z) :: S) h Q := Gy_next fun _ => rfl
theorem Gy_ior {x z : Int32} : Gy xs (some (.ior, len)) mi pc (L) (.int z :: .int x :: S) h Q = Gy xs (ab_at mi (pc + 1)) mi (pc + 1) (L) (.int (x ||| z) :: S) h Q := Gy_next fun _ => rfl
theorem Gy_ixor {x z : Int32} : Gy xs (some (.ixor, len)) mi pc (L) (.int z :: .int x :: S) h Q = Gy xs (ab_at mi (pc + 1)) mi (pc + 1) (L) (.int (x ^^^ z) :: S) h Q := Gy_next fun _ => rfl
theorem Gy_ishl {x z : Int32} : Gy xs (some (.ishl, len)) mi pc (L) (.int z :: .int x :: S) h Q = Gy xs (ab_at mi (pc + 1)) mi (pc + 1) (L) (.int (x <<< (z &&& 31)) :: S) h Q := Gy_next fun _ => rfl
theorem Gy_ishr {x z : Int32} : Gy xs (some (.ishr, len)) mi pc (L) (.int z :: .int x :: S) h Q = Gy xs (ab_at mi (pc + 1)) mi (pc + 1) (L) (.int (x >>> (z &&& 31)) :: S) h Q := Gy_next fun _ => rfl
theorem Gy_iushr {x z : Int32} : Gy xs (some (.iushr, len)) mi pc (L) (.int z :: .int x :: S) h Q = Gy xs (ab_at mi (pc + 1)) mi (pc + 1) (L) (.int ((x.toUInt32 >>> (z.toUInt32 &&& Int32.toUInt32 31)).toInt32) :: S) h Q := Gy_next fun _ => rfl
theorem Gy_ladd {x z : Int64} : Gy xs (some (.ladd, len)) mi pc (L) (.long z :: .long x :: S) h Q = Gy xs (ab_at mi (pc + 1)) mi (pc + 1) (L) (.long (x + z) :: S) h Q := Gy_next fun _ => rfl
theorem Gy_lsub {x z : Int64} : Gy xs (some (.lsub, len)) mi pc (L) (.long z :: .long x :: S) h Q = Gy xs (ab_at mi (pc + 1)) mi (pc + 1) (L) (.long (x - z) :: S) h Q := Gy_next fun _ => rfl
theorem Gy_lmul {x z : Int64} : Gy xs (some (.lmul, len)) mi pc (L) (.long z :: .long x :: S) h Q = Gy xs (ab_at mi (pc + 1)) mi (pc + 1) (L) (.long (x * z) :: S) h Q := Gy_next fun _ => rfl
theorem Gy_lneg {x : Int64} : Gy xs (some (.lneg, len)) mi pc (L) (.long x :: S) h Q = Gy xs (ab_at mi (pc + 1)) mi (pc + 1) (L) (.long (-x) :: S) h Q := Gy_next fun _ => rfl
theorem Gy_lcmp {x z : Int64} : Gy xs (some (.lcmp, len)) mi pc (L) (.long z :: .long x :: S) h Q = Gy xs (ab_at mi (pc + 1)) mi (pc + 1) (L) (.int (lg_cmp x z) :: S) h Q := Gy_next fun _ => rfl
theorem Gy_i2l {x : Int32} : Gy xs (some (.i2l, len)) mi pc (L) (.int x :: S) h Q = Gy xs (ab_at mi (pc + 1)) mi (pc + 1) (L) (.long x.toInt64 :: S) h Q := Gy_next fun _ => rfl
theorem Gy_l2i {x : Int64} : Gy xs (some (.l2i, len)) mi pc (L) (.long x :: S) h Q = Gy xs (ab_at mi (pc + 1)) mi (pc + 1) (L) (.int x.toInt32 :: S) h Q := Gy_next fun _ => rfl
theorem Gy_i2b {x : Int32} : Gy xs (some (.i2b, len)) mi pc (L) (.int x :: S) h Q = Gy xs (ab_at mi (pc + 1)) mi (pc + 1) (L) (.int x.toInt8.toInt32 :: S) h Q := Gy_next fun _ => rfl
theorem Gy_i2s {x : Int32} : Gy xs (some (.i2s, len)) mi pc (L) (.int x :: S) h Q = Gy xs (ab_at mi (pc + 1)) mi (pc + 1) (L) (.int x.toInt16.toInt32 :: S) h Q := Gy_next fun _ => rfl
theorem Gy_dup_int {x : Int32} : Gy xs (some (.dup, len)) mi pc (L) (.int x :: S) h Q = Gy xs (ab_at mi (pc + 1)) mi (pc + 1) (L) (.int x :: .int x :: S) h Q := Gy_next fun _ => rfl
theorem Gy_pop_int {x : Int32} : Gy xs (some (.pop, len)) mi pc (L) (.int x :: S) h Q = Gy xs (ab_at mi (pc + 1)) mi (pc + 1) (L) (S) h Q := Gy_next fun _ => rfl
theorem Gy_dup_ref {x : Nat} : Gy xs (some (.dup, len)) mi pc (L) (.ref x :: S) h Q = Gy xs (ab_at mi (pc + 1)) mi (pc + 1) (L) (.ref x :: .ref x :: S) h Q := Gy_next fun _ => rfl
theorem Gy_pop_ref {x : Nat} : Gy xs (some (.pop, len)) mi pc (L) (.ref x :: S) h Q = Gy xs (ab_at mi (pc + 1)) mi (pc + 1) (L) (S) h Q := Gy_next fun _ => rfl
theorem Gy_pop2 {x : Int64} : Gy xs (some (.pop2, len)) mi pc (L) (.long x :: S) h Q = Gy xs (ab_at mi (pc + 1)) mi (pc + 1) (L) (S) h Q := Gy_next fun _ => rfl
theorem Gy_dup2 {x : Int32} {z : Nat} : Gy xs (some (.dup2, len)) mi pc (L) (.int x :: .ref z :: S) h Q = Gy xs (ab_at mi (pc + 1)) mi (pc + 1) (L) (.int x :: .ref z :: .int x :: .ref z :: S) h Q := Gy_next fun _ => rfl
theorem Gy_cond {ins : Instr} {P : Prop} {q : Decidable P} {pc' : Nat} {L' : ab_L} {S' : List Value} {h' : ab_H} (hst : ∀ call, ab_step call 10 false (y_rt mi) (some xs) ins len pc L S h = if P then some (.inl (pc', L', S', h')) else none) : Gy xs (some (ins, len)) mi pc L S h Q = (P ∧ Gy xs (ab_at mi pc') mi pc' L' S' h' Q) := by
  by_cases hP : P
  · rw [Gy_next (fun call => (hst call).trans (if_pos hP))]
    exact propext ⟨fun z => ⟨hP, z⟩, fun z => z.2⟩
  · rw [Gy_stuck (fun call => (hst call).trans (if_neg hP))]
    exact propext ⟨fun z => z.elim, fun z => hP z.1⟩
theorem Gy_irem {x z : Int32} : Gy xs (some (.irem, len)) mi pc L (.int z :: .int x :: S) h Q = (¬ z = 0 ∧ Gy xs (ab_at mi (pc + 1)) mi (pc + 1) L (.int (x - x / z * z) :: S) h Q) := by
  by_cases hz : z = 0
  · rw [Gy_stuck (mi := mi) (pc := pc) (len := len) (ins := .irem) (L := L) (S := .int z :: .int x :: S) (h := h) (Q := Q) (fun call => if_pos hz)]
    exact propext ⟨fun w => w.elim, fun w => w.1 hz⟩
  · rw [Gy_next (mi := mi) (pc := pc) (len := len) (ins := .irem) (L := L) (S := .int z :: .int x :: S) (h := h) (Q := Q) (fun call => if_neg hz)]
    exact propext ⟨fun w => ⟨hz, w⟩, fun w => w.2⟩
theorem Gy_ldiv {x z : Int64} : Gy xs (some (.ldiv, len)) mi pc L (.long z :: .long x :: S) h Q = (¬ z = 0 ∧ Gy xs (ab_at mi (pc + 1)) mi (pc + 1) L (.long (x / z) :: S) h Q) := by
  by_cases hz : z = 0
  · rw [Gy_stuck (mi := mi) (pc := pc) (len := len) (ins := .ldiv) (L := L) (S := .long z :: .long x :: S) (h := h) (Q := Q) (fun call => if_pos hz)]
    exact propext ⟨fun w => w.elim, fun w => w.1 hz⟩
  · rw [Gy_next (mi := mi) (pc := pc) (len := len) (ins := .ldiv) (L := L) (S := .long z :: .long x :: S) (h := h) (Q := Q) (fun call => if_neg hz)]
    exact propext ⟨fun w => ⟨hz, w⟩, fun w => w.2⟩
theorem Gy_ite {P : Prop} {q : Decidable P} {a b : Nat} : Gy xs (ab_at mi (if P then a else b)) mi (if P then a else b) L S h Q = if P then Gy xs (ab_at mi a) mi a L S h Q else Gy xs (ab_at mi b) mi b L S h Q := by
  split <;> rfl
theorem Gy_icmp {c : Jvm.ClassFile.Cond} {off : Int} {x z : Int32} : Gy xs (some (.if_icmp c off, len)) mi pc L (.int z :: .int x :: S) h Q = (0 ≤ (pc : Int) + off ∧ if ab_cmp c x z = true then Gy xs (ab_at mi ((pc : Int) + off).toNat) mi ((pc : Int) + off).toNat L S h Q else Gy xs (ab_at mi (pc + 3)) mi (pc + 3) L S h Q) := by
  rw [Gy_cond (mi := mi) (pc := pc) (len := len) (ins := .if_icmp c off) (L := L) (S := .int z :: .int x :: S) (h := h) (Q := Q) (fun _ => rfl), Gy_ite]
theorem Gy_if {c : Jvm.ClassFile.Cond} {off : Int} {x : Int32} : Gy xs (some (.ifCond c off, len)) mi pc L (.int x :: S) h Q = (0 ≤ (pc : Int) + off ∧ if ab_cmp c x 0 = true then Gy xs (ab_at mi ((pc : Int) + off).toNat) mi ((pc : Int) + off).toNat L S h Q else Gy xs (ab_at mi (pc + 3)) mi (pc + 3) L S h Q) := by
  rw [Gy_cond (mi := mi) (pc := pc) (len := len) (ins := .ifCond c off) (L := L) (S := .int x :: S) (h := h) (Q := Q) (fun _ => rfl), Gy_ite]
theorem Gy_goto {off : Int} : Gy xs (some (.goto off, len)) mi pc L S h Q = (0 ≤ (pc : Int) + off ∧ Gy xs (ab_at mi ((pc : Int) + off).toNat) mi ((pc : Int) + off).toNat L S h Q) := Gy_cond fun _ => rfl
/-- arrays -/
theorem Gy_iaload {i : Int32} {o : Nat} (ho : o < 2000) : Gy xs (some (.iaload, len)) mi pc L (.int i :: .ref o :: S) h Q = (ab_ref h o 10 = true ∧ ab_in i (ab_ln h o) = true ∧ Gy xs (ab_at mi (pc + 1)) mi (pc + 1) L (.int (h.2.1 o i.toNatClampNeg) :: S) h Q) := by
  rw [Gy_cond (mi := mi) (pc := pc) (len := len) (ins := .iaload) (L := L) (S := .int i :: .ref o :: S) (h := h) (Q := Q) (P := (ab_ref h o 10 && ab_in i (ab_ln h o)) = true) (fun _ => if_neg (show ¬ o = 2000 by omega)), Bool.and_eq_true, and_assoc]
theorem Gy_laload {i : Int32} {o : Nat} : Gy xs (some (.laload, len)) mi pc L (.int i :: .ref o :: S) h Q = (ab_ref h o 11 = true ∧ ab_in i (ab_ln h o) = true ∧ Gy xs (ab_at mi (pc + 1)) mi (pc + 1) L (.long (h.2.2 o i.toNatClampNeg) :: S) h Q) := by
  rw [Gy_cond (mi := mi) (pc := pc) (len := len) (ins := .laload) (L := L) (S := .int i :: .ref o :: S) (h := h) (Q := Q) (P := (ab_ref h o 11 && ab_in i (ab_ln h o)) = true) (fun _ => rfl), Bool.and_eq_true, and_assoc]
theorem Gy_iastore {i x : Int32} {o : Nat} : Gy xs (some (.iastore, len)) mi pc L (.int x :: .int i :: .ref o :: S) h Q = (ab_ref h o 10 = true ∧ ab_in i (ab_ln h o) = true ∧ Gy xs (ab_at mi (pc + 1)) mi (pc + 1) L S (ab_seti h o i.toNatClampNeg x) Q) := by
  rw [Gy_cond (mi := mi) (pc := pc) (len := len) (ins := .iastore) (L := L) (S := .int x :: .int i :: .ref o :: S) (h := h) (Q := Q) (P := (ab_ref h o 10 && ab_in i (ab_ln h o)) = true) (fun _ => rfl), Bool.and_eq_true, and_assoc]
theorem Gy_lastore {i : Int32} {x : Int64} {o : Nat} : Gy xs (some (.lastore, len)) mi pc L (.long x :: .int i :: .ref o :: S) h Q = (ab_ref h o 11 = true ∧ ab_in i (ab_ln h o) = true ∧ Gy xs (ab_at mi (pc + 1)) mi (pc + 1) L S (ab_setl h o i.toNatClampNeg x) Q) := by
  rw [Gy_cond (mi := mi) (pc := pc) (len := len) (ins := .lastore) (L := L) (S := .long x :: .int i :: .ref o :: S) (h := h) (Q := Q) (P := (ab_ref h o 11 && ab_in i (ab_ln h o)) = true) (fun _ => rfl), Bool.and_eq_true, and_assoc]
theorem Gy_ldc {i : Nat} {v : Int32} (hv : ab_kI 10 i = some v) : Gy xs (some (.ldc i, len)) mi pc L S h Q = Gy xs (ab_at mi (pc + 2)) mi (pc + 2) L (.int v :: S) h Q := Gy_next fun _ => by unfold ab_step; simp only; rw [hv]
theorem Gy_ldc_w {i : Nat} {v : Int32} (hv : ab_kI 10 i = some v) : Gy xs (some (.ldc_w i, len)) mi pc L S h Q = Gy xs (ab_at mi (pc + 3)) mi (pc + 3) L (.int v :: S) h Q := Gy_next fun _ => by unfold ab_step; simp only; rw [hv]
theorem Gy_ldc2 {i : Nat} {v : Int64} (hv : ab_kL 10 i = some v) : Gy xs (some (.ldc2_w i, len)) mi pc L S h Q = Gy xs (ab_at mi (pc + 3)) mi (pc + 3) L (.long v :: S) h Q := Gy_next fun _ => by unfold ab_step; simp only; rw [hv]
/-- ends -/
theorem Gy_ireturn {v : Int32} {ty : FieldType} (hr : y_rt mi = some ty) : Gy xs (some (.ireturn, len)) mi pc L [.int v] h Q = (narrow ty (.int v) = .int v ∧ Q (some (.int v)) h) := by
  by_cases hn : narrow ty (.int v) = .int v
  · rw [Gy_end (r := (some (.int v), h)) (fun _ => by unfold ab_step ab_ret; rw [hr]; exact if_pos hn)]
    exact propext ⟨fun z => ⟨hn, z⟩, fun z => z.2⟩
  · rw [Gy_stuck (fun _ => by unfold ab_step ab_ret; rw [hr]; exact if_neg hn)]
    exact propext ⟨fun z => z.elim, fun z => hn z.1⟩
theorem Gy_lreturn {v : Int64} (hr : y_rt mi = some .long) : Gy xs (some (.lreturn, len)) mi pc L [.long v] h Q = Q (some (.long v)) h := Gy_end (r := (some (.long v), h)) fun _ => if_pos hr
theorem Gy_return (hr : y_rt mi = none) : Gy xs (some (.return_, len)) mi pc L [] h Q = Q none h := Gy_end (r := (none, h)) fun _ => if_pos hr
theorem Gy_callgen {ins : Instr} {mj : Nat} {vs rest : List Value} (hst : ∀ call, ab_step call 10 false (y_rt mi) (some xs) ins len pc L S h = ab_call call mj vs pc L rest h) : Gy xs (some (ins, len)) mi pc L S h Q = (ab_cat rest ≤ 8 ∧ Ey xs mj vs h (fun r h' => ab_sh h h' L rest ∧ Gy xs (ab_at mi (pc + 3)) mi (pc + 3) L (r.toList ++ rest) h' Q)) := by
  apply propext
  constructor
  · intro z
    unfold Gy at z
    simp only [hst] at z
    obtain ⟨n, z⟩ := z
    unfold ab_call at z
    by_cases hc : ab_cat rest ≤ 8
    · rw [if_pos hc] at z
      refine ⟨hc, ?_⟩
      cases hcl : ab_ex (some xs) n mj vs h with
      | none => rw [hcl] at z; exact z.elim
      | some x =>
        obtain ⟨rv, h'⟩ := x
        rw [hcl] at z
        simp only at z
        refine ⟨n, rv, h', hcl, ?_⟩
        by_cases hs : ab_sh h h' L rest
        · refine ⟨hs, ?_⟩
          unfold ab_sh at hs
          rw [if_pos hs] at z
          exact Ry_Gy.mp ⟨n, z⟩
        · unfold ab_sh at hs
          rw [if_neg hs] at z
          exact z.elim
    · rw [if_neg hc] at z
      exact z.elim
  · rintro ⟨hc, n, rv, h', hcl, hs, hg⟩
    obtain ⟨k, r, h2, h3, h4⟩ := Ry_Gy.mpr hg
    unfold Gy
    simp only [hst]
    refine ⟨n + k, ?_⟩
    unfold ab_call
    rw [if_pos hc, ab_ex_le n (n + k) (by omega) _ _ _ _ hcl]
    simp only
    unfold ab_sh at hs
    rw [if_pos hs]
    exact ⟨r, h2, ab_loop_le (ab_ex_le k (n + k) (by omega)) k (n + k) _ (by omega) h3, h4⟩
theorem Gy_invv {i mj b : Nat} {rest : List Value} (hm : ab_ml 10 i = some (mj, 0)) (hd : S.drop (ab_np mj) = .ref b :: rest) (hr : ab_ref h b (ab_own mj) = true) (h9 : ab_own mj < 8) (ha : (S.take (ab_np mj)).all (ab_ok (ab_nx h)) = true) : Gy xs (some (.invokevirtual i, len)) mi pc L S h Q = (ab_cat rest ≤ 8 ∧ Ey xs mj (.ref b :: (S.take (ab_np mj)).reverse) h (fun r h' => ab_sh h h' L rest ∧ Gy xs (ab_at mi (pc + 3)) mi (pc + 3) L (r.toList ++ rest) h' Q)) := by
  refine Gy_callgen (fun call => ?_)
  show ab_inv call 10 i true pc L S h = _
  unfold ab_inv
  rw [hm]
  simp only [if_true]
  rw [hd]
  simp only
  rw [if_pos (by rw [hr, decide_eq_true h9, ha]; rfl)]
theorem Gy_invs {i mj kd : Nat} (hm : ab_ml 10 i = some (mj, kd)) (hk : kd = 1 ∨ kd = 2) (hl : ab_np mj ≤ S.length) (ha : (S.take (ab_np mj)).all (ab_ok (ab_nx h)) = true) : Gy xs (some (.invokestatic i, len)) mi pc L S h Q = (ab_cat (S.drop (ab_np mj)) ≤ 8 ∧ Ey xs mj (S.take (ab_np mj)).reverse h (fun r h' => ab_sh h h' L (S.drop (ab_np mj)) ∧ Gy xs (ab_at mi (pc + 3)) mi (pc + 3) L (r.toList ++ S.drop (ab_np mj)) h' Q)) := by
  refine Gy_callgen (fun call => ?_)
  show ab_inv call 10 i false pc L S h = _
  unfold ab_inv
  rw [hm]
  simp only [Bool.false_eq_true, if_false]
  rw [if_pos hk, if_pos ⟨hl, ha⟩]
theorem Gy_aload_4 {a0 a1 a2 a3 : Option Value} {x : Nat} : Gy xs (some (.aload 4, len)) mi pc (a0 :: a1 :: a2 :: a3 :: some (.ref x) :: L) (S) h Q = Gy xs (ab_at mi (pc + 2)) mi (pc + 2) (a0 :: a1 :: a2 :: a3 :: some (.ref x) :: L) (.ref x :: S) h Q := Gy_next fun _ => rfl
theorem Gy_astore_4 {a0 a1 a2 a3 : Option Value} {b : Option Value} {x : Nat} : Gy xs (some (.astore 4, len)) mi pc (a0 :: a1 :: a2 :: a3 :: b :: L) (.ref x :: S) h Q = Gy xs (ab_at mi (pc + 2)) mi (pc + 2) (ab_put 4 (.ref x) (a0 :: a1 :: a2 :: a3 :: b :: L)) (S) h Q := Gy_next fun _ => by unfold ab_step; exact if_pos (show 4 < List.length (a0 :: a1 :: a2 :: a3 :: b :: L) by simp)
theorem Gy_aload_5 {a0 a1 a2 a3 a4 : Option Value} {x : Nat} : Gy xs (some (.aload 5, len)) mi pc (a0 :: a1 :: a2 :: a3 :: a4 :: some (.ref x) :: L) (S) h Q = Gy xs (ab_at mi (pc + 2)) mi (pc + 2) (a0 :: a1 :: a2 :: a3 :: a4 :: some (.ref x) :: L) (.ref x :: S) h Q := Gy_next fun _ => rfl
theorem Gy_astore_5 {a0 a1 a2 a3 a4 : Option Value} {b : Option Value} {x : Nat} : Gy xs (some (.astore 5, len)) mi pc (a0 :: a1 :: a2 :: a3 :: a4 :: b :: L) (.ref x :: S) h Q = Gy xs (ab_at mi (pc + 2)) mi (pc + 2) (ab_put 5 (.ref x) (a0 :: a1 :: a2 :: a3 :: a4 :: b :: L)) (S) h Q := Gy_next fun _ => by unfold ab_step; exact if_pos (show 5 < List.length (a0 :: a1 :: a2 :: a3 :: a4 :: b :: L) by simp)
theorem Gy_aload_6 {a0 a1 a2 a3 a4 a5 : Option Value} {x : Nat} : Gy xs (some (.aload 6, len)) mi pc (a0 :: a1 :: a2 :: a3 :: a4 :: a5 :: some (.ref x) :: L) (S) h Q = Gy xs (ab_at mi (pc + 2)) mi (pc + 2) (a0 :: a1 :: a2 :: a3 :: a4 :: a5 :: some (.ref x) :: L) (.ref x :: S) h Q := Gy_next fun _ => rfl
theorem Gy_astore_6 {a0 a1 a2 a3 a4 a5 : Option Value} {b : Option Value} {x : Nat} : Gy xs (some (.astore 6, len)) mi pc (a0 :: a1 :: a2 :: a3 :: a4 :: a5 :: b :: L) (.ref x :: S) h Q = Gy xs (ab_at mi (pc + 2)) mi (pc + 2) (ab_put 6 (.ref x) (a0 :: a1 :: a2 :: a3 :: a4 :: a5 :: b :: L)) (S) h Q := Gy_next fun _ => by unfold ab_step; exact if_pos (show 6 < List.length (a0 :: a1 :: a2 :: a3 :: a4 :: a5 :: b :: L) by simp)
theorem Gy_aload_7 {a0 a1 a2 a3 a4 a5 a6 : Option Value} {x : Nat} : Gy xs (some (.aload 7, len)) mi pc (a0 :: a1 :: a2 :: a3 :: a4 :: a5 :: a6 :: some (.ref x) :: L) (S) h Q = Gy xs (ab_at mi (pc + 2)) mi (pc + 2) (a0 :: a1 :: a2 :: a3 :: a4 :: a5 :: a6 :: some (.ref x) :: L) (.ref x :: S) h Q := Gy_next fun _ => rfl
theorem Gy_astore_7 {a0 a1 a2 a3 a4 a5 a6 : Option Value} {b : Option Value} {x : Nat} : Gy xs (some (.astore 7, len)) mi pc (a0 :: a1 :: a2 :: a3 :: a4 :: a5 :: a6 :: b :: L) (.ref x :: S) h Q = Gy xs (ab_at mi (pc + 2)) mi (pc + 2) (ab_put 7 (.ref x) (a0 :: a1 :: a2 :: a3 :: a4 :: a5 :: a6 :: b :: L)) (S) h Q := Gy_next fun _ => by unfold ab_step; exact if_pos (show 7 < List.length (a0 :: a1 :: a2 :: a3 :: a4 :: a5 :: a6 :: b :: L) by simp)
theorem Gy_aload_8 {a0 a1 a2 a3 a4 a5 a6 a7 : Option Value} {x : Nat} : Gy xs (some (.aload 8, len)) mi pc (a0 :: a1 :: a2 :: a3 :: a4 :: a5 :: a6 :: a7 :: some (.ref x) :: L) (S) h Q = Gy xs (ab_at mi (pc + 2)) mi (pc + 2) (a0 :: a1 :: a2 :: a3 :: a4 :: a5 :: a6 :: a7 :: some (.ref x) :: L) (.ref x :: S) h Q := Gy_next fun _ => rfl
theorem Gy_astore_8 {a0 a1 a2 a3 a4 a5 a6 a7 : Option Value} {b : Option Value} {x : Nat} : Gy xs (some (.astore 8, len)) mi pc (a0 :: a1 :: a2 :: a3 :: a4 :: a5 :: a6 :: a7 :: b :: L) (.ref x :: S) h Q = Gy xs (ab_at mi (pc + 2)) mi (pc + 2) (ab_put 8 (.ref x) (a0 :: a1 :: a2 :: a3 :: a4 :: a5 :: a6 :: a7 :: b :: L)) (S) h Q := Gy_next fun _ => by unfold ab_step; exact if_pos (show 8 < List.length (a0 :: a1 :: a2 :: a3 :: a4 :: a5 :: a6 :: a7 :: b :: L) by simp)
theorem Gy_aload_9 {a0 a1 a2 a3 a4 a5 a6 a7 a8 : Option Value} {x : Nat} : Gy xs (some (.aload 9, len)) mi pc (a0 :: a1 :: a2 :: a3 :: a4 :: a5 :: a6 :: a7 :: a8 :: some (.ref x) :: L) (S) h Q = Gy xs (ab_at mi (pc + 2)) mi (pc + 2) (a0 :: a1 :: a2 :: a3 :: a4 :: a5 :: a6 :: a7 :: a8 :: some (.ref x) :: L) (.ref x :: S) h Q := Gy_next fun _ => rfl
theorem Gy_astore_9 {a0 a1 a2 a3 a4 a5 a6 a7 a8 : Option Value} {b : Option Value} {x : Nat} : Gy xs (some (.astore 9, len)) mi pc (a0 :: a1 :: a2 :: a3 :: a4 :: a5 :: a6 :: a7 :: a8 :: b :: L) (.ref x :: S) h Q = Gy xs (ab_at mi (pc + 2)) mi (pc + 2) (ab_put 9 (.ref x) (a0 :: a1 :: a2 :: a3 :: a4 :: a5 :: a6 :: a7 :: a8 :: b :: L)) (S) h Q := Gy_next fun _ => by unfold ab_step; exact if_pos (show 9 < List.length (a0 :: a1 :: a2 :: a3 :: a4 :: a5 :: a6 :: a7 :: a8 :: b :: L) by simp)
theorem Gy_aload_10 {a0 a1 a2 a3 a4 a5 a6 a7 a8 a9 : Option Value} {x : Nat} : Gy xs (some (.aload 10, len)) mi pc (a0 :: a1 :: a2 :: a3 :: a4 :: a5 :: a6 :: a7 :: a8 :: a9 :: some (.ref x) :: L) (S) h Q = Gy xs (ab_at mi (pc + 2)) mi (pc + 2) (a0 :: a1 :: a2 :: a3 :: a4 :: a5 :: a6 :: a7 :: a8 :: a9 :: some (.ref x) :: L) (.ref x :: S) h Q := Gy_next fun _ => rfl
theorem Gy_astore_10 {a0 a1 a2 a3 a4 a5 a6 a7 a8 a9 : Option Value} {b : Option Value} {x : Nat} : Gy xs (some (.astore 10, len)) mi pc (a0 :: a1 :: a2 :: a3 :: a4 :: a5 :: a6 :: a7 :: a8 :: a9 :: b :: L) (.ref x :: S) h Q = Gy xs (ab_at mi (pc + 2)) mi (pc + 2) (ab_put 10 (.ref x) (a0 :: a1 :: a2 :: a3 :: a4 :: a5 :: a6 :: a7 :: a8 :: a9 :: b :: L)) (S) h Q := Gy_next fun _ => by unfold ab_step; exact if_pos (show 10 < List.length (a0 :: a1 :: a2 :: a3 :: a4 :: a5 :: a6 :: a7 :: a8 :: a9 :: b :: L) by simp)
theorem Gy_aload_11 {a0 a1 a2 a3 a4 a5 a6 a7 a8 a9 a10 : Option Value} {x : Nat} : Gy xs (some (.aload 11, len)) mi pc (a0 :: a1 :: a2 :: a3 :: a4 :: a5 :: a6 :: a7 :: a8 :: a9 :: a10 :: some (.ref x) :: L) (S) h Q = Gy xs (ab_at mi (pc + 2)) mi (pc + 2) (a0 :: a1 :: a2 :: a3 :: a4 :: a5 :: a6 :: a7 :: a8 :: a9 :: a10 :: some (.ref x) :: L) (.ref x :: S) h Q := Gy_next fun _ => rfl
theorem Gy_astore_11 {a0 a1 a2 a3 a4 a5 a6 a7 a8 a9 a10 : Option Value} {b : Option Value} {x : Nat} : Gy xs (some (.astore 11, len)) mi pc (a0 :: a1 :: a2 :: a3 :: a4 :: a5 :: a6 :: a7 :: a8 :: a9 :: a10 :: b :: L) (.ref x :: S) h Q = Gy xs (ab_at mi (pc + 2)) mi (pc + 2) (ab_put 11 (.ref x) (a0 :: a1 :: a2 :: a3 :: a4 :: a5 :: a6 :: a7 :: a8 :: a9 :: a10 :: b :: L)) (S) h Q := Gy_next fun _ => by unfold ab_step; exact if_pos (show 11 < List.length (a0 :: a1 :: a2 :: a3 :: a4 :: a5 :: a6 :: a7 :: a8 :: a9 :: a10 :: b :: L) by simp)
theorem Gy_aload_12 {a0 a1 a2 a3 a4 a5 a6 a7 a8 a9 a10 a11 : Option Value} {x : Nat} : Gy xs (some (.aload 12, len)) mi pc (a0 :: a1 :: a2 :: a3 :: a4 :: a5 :: a6 :: a7 :: a8 :: a9 :: a10 :: a11 :: some (.ref x) :: L) (S) h Q = Gy xs (ab_at mi (pc + 2)) mi (pc + 2) (a0 :: a1 :: a2 :: a3 :: a4 :: a5 :: a6 :: a7 :: a8 :: a9 :: a10 :: a11 :: some (.ref x) :: L) (.ref x :: S) h Q := Gy_next fun _ => rfl
theorem Gy_iload_12 {a0 a1 a2 a3 a4 a5 a6 a7 a8 a9 a10 a11 : Option Value} {x : Int32} : Gy xs (some (.iload 12, len)) mi pc (a0 :: a1 :: a2 :: a3 :: a4 :: a5 :: a6 :: a7 :: a8 :: a9 :: a10 :: a11 :: some (.int x) :: L) (S) h Q = Gy xs (ab_at mi (pc + 2)) mi (pc + 2) (a0 :: a1 :: a2 :: a3 :: a4 :: a5 :: a6 :: a7 :: a8 :: a9 :: a10 :: a11 :: some (.int x) :: L) (.int x :: S) h Q := Gy_next fun _ => rfl
theorem Gy_astore_12 {a0 a1 a2 a3 a4 a5 a6 a7 a8 a9 a10 a11 : Option Value} {b : Option Value} {x : Nat} : Gy xs (some (.astore 12, len)) mi pc (a0 :: a1 :: a2 :: a3 :: a4 :: a5 :: a6 :: a7 :: a8 :: a9 :: a10 :: a11 :: b :: L) (.ref x :: S) h Q = Gy xs (ab_at mi (pc + 2)) mi (pc + 2) (ab_put 12 (.ref x) (a0 :: a1 :: a2 :: a3 :: a4 :: a5 :: a6 :: a7 :: a8 :: a9 :: a10 :: a11 :: b :: L)) (S) h Q := Gy_next fun _ => by unfold ab_step; exact if_pos (show 12 < List.length (a0 :: a1 :: a2 :: a3 :: a4 :: a5 :: a6 :: a7 :: a8 :: a9 :: a10 :: a11 :: b :: L) by simp)
theorem Gy_istore_12 {a0 a1 a2 a3 a4 a5 a6 a7 a8 a9 a10 a11 : Option Value} {b : Option Value} {x : Int32} : Gy xs (some (.istore 12, len)) mi pc (a0 :: a1 :: a2 :: a3 :: a4 :: a5 :: a6 :: a7 :: a8 :: a9 :: a10 :: a11 :: b :: L) (.int x :: S) h Q = Gy xs (ab_at mi (pc + 2)) mi (pc + 2) (ab_put 12 (.int x) (a0 :: a1 :: a2 :: a3 :: a4 :: a5 :: a6 :: a7 :: a8 :: a9 :: a10 :: a11 :: b :: L)) (S) h Q := Gy_next fun _ => by unfold ab_step; exact if_pos (show 12 < List.length (a0 :: a1 :: a2 :: a3 :: a4 :: a5 :: a6 :: a7 :: a8 :: a9 :: a10 :: a11 :: b :: L) by simp)
theorem Gy_iinc_12 {a0 a1 a2 a3 a4 a5 a6 a7 a8 a9 a10 a11 : Option Value} {x : Int32} {n : Int} : Gy xs (some (.iinc 12 n, len)) mi pc (a0 :: a1 :: a2 :: a3 :: a4 :: a5 :: a6 :: a7 :: a8 :: a9 :: a10 :: a11 :: some (.int x) :: L) (S) h Q = Gy xs (ab_at mi (pc + 3)) mi (pc + 3) (ab_put 12 (.int (x + Int32.ofInt n)) (a0 :: a1 :: a2 :: a3 :: a4 :: a5 :: a6 :: a7 :: a8 :: a9 :: a10 :: a11 :: some (.int x) :: L)) (S) h Q := Gy_next fun _ => by unfold ab_step; exact if_pos (show 12 < List.length (a0 :: a1 :: a2 :: a3 :: a4 :: a5 :: a6 :: a7 :: a8 :: a9 :: a10 :: a11 :: some (.int x) :: L) by simp)
theorem Gy_aload_13 {a0 a1 a2 a3 a4 a5 a6 a7 a8 a9 a10 a11 a12 : Option Value} {x : Nat} : Gy xs (some (.aload 13, len)) mi pc (a0 :: a1 :: a2 :: a3 :: a4 :: a5 :: a6 :: a7 :: a8 :: a9 :: a10 :: a11 :: a12 :: some (.ref x) :: L) (S) h Q = Gy xs (ab_at mi (pc + 2)) mi (pc + 2) (a0 :: a1 :: a2 :: a3 :: a4 :: a5 :: a6 :: a7 :: a8 :: a9 :: a10 :: a11 :: a12 :: some (.ref x) :: L) (.ref x :: S) h Q := Gy_next fun _ => rfl
theorem Gy_iload_13 {a0 a1 a2 a3 a4 a5 a6 a7 a8 a9 a10 a11 a12 : Option Value} {x : Int32} : Gy xs (some (.iload 13, len)) mi pc (a0 :: a1 :: a2 :: a3 :: a4 :: a5 :: a6 :: a7 :: a8 :: a9 :: a10 :: a11 :: a12 :: some (.int x) :: L) (S) h Q = Gy xs (ab_at mi (pc + 2)) mi (pc + 2) (a0 :: a1 :: a2 :: a3 :: a4 :: a5 :: a6 :: a7 :: a8 :: a9 :: a10 :: a11 :: a12 :: some (.int x) :: L) (.int x :: S) h Q := Gy_next fun _ => rfl
theorem Gy_astore_13 {a0 a1 a2 a3 a4 a5 a6 a7 a8 a9 a10 a11 a12 : Option Value} {b : Option Value} {x : Nat} : Gy xs (some (.astore 13, len)) mi pc (a0 :: a1 :: a2 :: a3 :: a4 :: a5 :: a6 :: a7 :: a8 :: a9 :: a10 :: a11 :: a12 :: b :: L) (.ref x :: S) h Q = Gy xs (ab_at mi (pc + 2)) mi (pc + 2) (ab_put 13 (.ref x) (a0 :: a1 :: a2 :: a3 :: a4 :: a5 :: a6 :: a7 :: a8 :: a9 :: a10 :: a11 :: a12 :: b :: L)) (S) h Q := Gy_next fun _ => by unfold ab_step; exact if_pos (show 13 < List.length (a0 :: a1 :: a2 :: a3 :: a4 :: a5 :: a6 :: a7 :: a8 :: a9 :: a10 :: a11 :: a12 :: b :: L) by simp)
theorem Gy_istore_13 {a0 a1 a2 a3 a4 a5 a6 a7 a8 a9 a10 a11 a12 : Option Value} {b : Option Value} {x : Int32} : Gy xs (some (.istore 13, len)) mi pc (a0 :: a1 :: a2 :: a3 :: a4 :: a5 :: a6 :: a7 :: a8 :: a9 :: a10 :: a11 :: a12 :: b :: L) (.int x :: S) h Q = Gy xs (ab_at mi (pc + 2)) mi (pc + 2) (ab_put 13 (.int x) (a0 :: a1 :: a2 :: a3 :: a4 :: a5 :: a6 :: a7 :: a8 :: a9 :: a10 :: a11 :: a12 :: b :: L)) (S) h Q := Gy_next fun _ => by unfold ab_step; exact if_pos (show 13 < List.length (a0 :: a1 :: a2 :: a3 :: a4 :: a5 :: a6 :: a7 :: a8 :: a9 :: a10 :: a11 :: a12 :: b :: L) by simp)
theorem Gy_iinc_13 {a0 a1 a2 a3 a4 a5 a6 a7 a8 a9 a10 a11 a12 : Option Value} {x : Int32} {n : Int} : Gy xs (some (.iinc 13 n, len)) mi pc (a0 :: a1 :: a2 :: a3 :: a4 :: a5 :: a6 :: a7 :: a8 :: a9 :: a10 :: a11 :: a12 :: some (.int x) :: L) (S) h Q = Gy xs (ab_at mi (pc + 3)) mi (pc + 3) (ab_put 13 (.int (x + Int32.ofInt n)) (a0 :: a1 :: a2 :: a3 :: a4 :: a5 :: a6 :: a7 :: a8 :: a9 :: a10 :: a11 :: a12 :: some (.int x) :: L)) (S) h Q := Gy_next fun _ => by unfold ab_step; exact if_pos (show 13 < List.length (a0 :: a1 :: a2 :: a3 :: a4 :: a5 :: a6 :: a7 :: a8 :: a9 :: a10 :: a11 :: a12 :: some (.int x) :: L) by simp)
theorem Gy_aload_14 {a0 a1 a2 a3 a4 a5 a6 a7 a8 a9 a10 a11 a12 a13 : Option Value} {x : Nat} : Gy xs (some (.aload 14, len)) mi pc (a0 :: a1 :: a2 :: a3 :: a4 :: a5 :: a6 :: a7 :: a8 :: a9 :: a10 :: a11 :: a12 :: a13 :: some (.ref x) :: L) (S) h Q = Gy xs (ab_at mi (pc + 2)) mi (pc + 2) (a0 :: a1 :: a2 :: a3 :: a4 :: a5 :: a6 :: a7 :: a8 :: a9 :: a10 :: a11 :: a12 :: a13 :: some (.ref x) :: L) (.ref x :: S) h Q := Gy_next fun _ => rfl
theorem Gy_iload_14 {a0 a1 a2 a3 a4 a5 a6 a7 a8 a9 a10 a11 a12 a13 : Option Value} {x : Int32} : Gy xs (some (.iload 14, len)) mi pc (a0 :: a1 :: a2 :: a3 :: a4 :: a5 :: a6 :: a7 :: a8 :: a9 :: a10 :: a11 :: a12 :: a13 :: some (.int x) :: L) (S) h Q = Gy xs (ab_at mi (pc + 2)) mi (pc + 2) (a0 :: a1 :: a2 :: a3 :: a4 :: a5 :: a6 :: a7 :: a8 :: a9 :: a10 :: a11 :: a12 :: a13 :: some (.int x) :: L) (.int x :: S) h Q := Gy_next fun _ => rfl
theorem Gy_astore_14 {a0 a1 a2 a3 a4 a5 a6 a7 a8 a9 a10 a11 a12 a13 : Option Value} {b : Option Value} {x : Nat} : Gy xs (some (.astore 14, len)) mi pc (a0 :: a1 :: a2 :: a3 :: a4 :: a5 :: a6 :: a7 :: a8 :: a9 :: a10 :: a11 :: a12 :: a13 :: b :: L) (.ref x :: S) h Q = Gy xs (ab_at mi (pc + 2)) mi (pc + 2) (ab_put 14 (.ref x) (a0 :: a1 :: a2 :: a3 :: a4 :: a5 :: a6 :: a7 :: a8 :: a9 :: a10 :: a11 :: a12 :: a13 :: b :: L)) (S) h Q := Gy_next fun _ => by unfold ab_step; exact if_pos (show 14 < List.length (a0 :: a1 :: a2 :: a3 :: a4 :: a5 :: a6 :: a7 :: a8 :: a9 :: a10 :: a11 :: a12 :: a13 :: b :: L) by simp)
theorem Gy_istore_14 {a0 a1 a2 a3 a4 a5 a6 a7 a8 a9 a10 a11 a12 a13 : Option Value} {b : Option Value} {x : Int32} : Gy xs (some (.istore 14, len)) mi pc (a0 :: a1 :: a2 :: a3 :: a4 :: a5 :: a6 :: a7 :: a8 :: a9 :: a10 :: a11 :: a12 :: a13 :: b :: L) (.int x :: S) h Q = Gy xs (ab_at mi (pc + 2)) mi (pc + 2) (ab_put 14 (.int x) (a0 :: a1 :: a2 :: a3 :: a4 :: a5 :: a6 :: a7 :: a8 :: a9 :: a10 :: a11 :: a12 :: a13 :: b :: L)) (S) h Q := Gy_next fun _ => by unfold ab_step; exact if_pos (show 14 < List.length (a0 :: a1 :: a2 :: a3 :: a4 :: a5 :: a6 :: a7 :: a8 :: a9 :: a10 :: a11 :: a12 :: a13 :: b :: L) by simp)
theorem Gy_iinc_14 {a0 a1 a2 a3 a4 a5 a6 a7 a8 a9 a10 a11 a12 a13 : Option Value} {x : Int32} {n : Int} : Gy xs (some (.iinc 14 n, len)) mi pc (a0 :: a1 :: a2 :: a3 :: a4 :: a5 :: a6 :: a7 :: a8 :: a9 :: a10 :: a11 :: a12 :: a13 :: some (.int x) :: L) (S) h Q = Gy xs (ab_at mi (pc + 3)) mi (pc + 3) (ab_put 14 (.int (x + Int32.ofInt n)) (a0 :: a1 :: a2 :: a3 :: a4 :: a5 :: a6 :: a7 :: a8 :: a9 :: a10 :: a11 :: a12 :: a13 :: some (.int x) :: L)) (S) h Q := Gy_next fun _ => by unfold ab_step; exact if_pos (show 14 < List.length (a0 :: a1 :: a2 :: a3 :: a4 :: a5 :: a6 :: a7 :: a8 :: a9 :: a10 :: a11 :: a12 :: a13 :: some (.int x) :: L) by simp)
theorem Gy_aload_15 {a0 a1 a2 a3 a4 a5 a6 a7 a8 a9 a10 a11 a12 a13 a14 : Option Value} {x : Nat} : Gy xs (some (.aload 15, len)) mi pc (a0 :: a1 :: a2 :: a3 :: a4 :: a5 :: a6 :: a7 :: a8 :: a9 :: a10 :: a11 :: a12 :: a13 :: a14 :: some (.ref x) :: L) (S) h Q = Gy xs (ab_at mi (pc + 2)) mi (pc + 2) (a0 :: a1 :: a2 :: a3 :: a4 :: a5 :: a6 :: a7 :: a8 :: a9 :: a10 :: a11 :: a12 :: a13 :: a14 :: some (.ref x) :: L) (.ref x :: S) h Q := Gy_next fun _ => rfl
theorem Gy_iload_15 {a0 a1 a2 a3 a4 a5 a6 a7 a8 a9 a10 a11 a12 a13 a14 : Option Value} {x : Int32} : Gy xs (some (.iload 15, len)) mi pc (a0 :: a1 :: a2 :: a3 :: a4 :: a5 :: a6 :: a7 :: a8 :: a9 :: a10 :: a11 :: a12 :: a13 :: a14 :: some (.int x) :: L) (S) h Q = Gy xs (ab_at mi (pc + 2)) mi (pc + 2) (a0 :: a1 :: a2 :: a3 :: a4 :: a5 :: a6 :: a7 :: a8 :: a9 :: a10 :: a11 :: a12 :: a13 :: a14 :: some (.int x) :: L) (.int x :: S) h Q := Gy_next fun _ => rfl
theorem Gy_astore_15 {a0 a1 a2 a3 a4 a5 a6 a7 a8 a9 a10 a11 a12 a13 a14 : Option Value} {b : Option Value} {x : Nat} : Gy xs (some (.astore 15, len)) mi pc (a0 :: a1 :: a2 :: a3 :: a4 :: a5 :: a6 :: a7 :: a8 :: a9 :: a10 :: a11 :: a12 :: a13 :: a14 :: b :: L) (.ref x :: S) h Q = Gy xs (ab_at mi (pc + 2)) mi (pc + 2) (ab_put 15 (.ref x) (a0 :: a1 :: a2 :: a3 :: a4 :: a5 :: a6 :: a7 :: a8 :: a9 :: a10 :: a11 :: a12 :: a13 :: a14 :: b :: L)) (S) h Q := Gy_next fun _ => by unfold ab_step; exact if_pos (show 15 < List.length (a0 :: a1 :: a2 :: a3 :: a4 :: a5 :: a6 :: a7 :: a8 :: a9 :: a10 :: a11 :: a12 :: a13 :: a14 :: b :: L) by simp)
theorem Gy_istore_15 {a0 a1 a2 a3 a4 a5 a6 a7 a8 a9 a10 a11 a12 a13 a14 : Option Value} {b : Option Value} {x : Int32} : Gy xs (some (.istore 15, len)) mi pc (a0 :: a1 :: a2 :: a3 :: a4 :: a5 :: a6 :: a7 :: a8 :: a9 :: a10 :: a11 :: a12 :: a13 :: a14 :: b :: L) (.int x :: S) h Q = Gy xs (ab_at mi (pc + 2)) mi (pc + 2) (ab_put 15 (.int x) (a0 :: a1 :: a2 :: a3 :: a4 :: a5 :: a6 :: a7 :: a8 :: a9 :: a10 :: a11 :: a12 :: a13 :: a14 :: b :: L)) (S) h Q := Gy_next fun _ => by unfold ab_step; exact if_pos (show 15 < List.length (a0 :: a1 :: a2 :: a3 :: a4 :: a5 :: a6 :: a7 :: a8 :: a9 :: a10 :: a11 :: a12 :: a13 :: a14 :: b :: L) by simp)
theorem Gy_iinc_15 {a0 a1 a2 a3 a4 a5 a6 a7 a8 a9 a10 a11 a12 a13 a14 : Option Value} {x : Int32} {n : Int} : Gy xs (some (.iinc 15 n, len)) mi pc (a0 :: a1 :: a2 :: a3 :: a4 :: a5 :: a6 :: a7 :: a8 :: a9 :: a10 :: a11 :: a12 :: a13 :: a14 :: some (.int x) :: L) (S) h Q = Gy xs (ab_at mi (pc + 3)) mi (pc + 3) (ab_put 15 (.int (x + Int32.ofInt n)) (a0 :: a1 :: a2 :: a3 :: a4 :: a5 :: a6 :: a7 :: a8 :: a9 :: a10 :: a11 :: a12 :: a13 :: a14 :: some (.int x) :: L)) (S) h Q := Gy_next fun _ => by unfold ab_step; exact if_pos (show 15 < List.length (a0 :: a1 :: a2 :: a3 :: a4 :: a5 :: a6 :: a7 :: a8 :: a9 :: a10 :: a11 :: a12 :: a13 :: a14 :: some (.int x) :: L) by simp)
theorem Gy_aload_16 {a0 a1 a2 a3 a4 a5 a6 a7 a8 a9 a10 a11 a12 a13 a14 a15 : Option Value} {x : Nat} : Gy xs (some (.aload 16, len)) mi pc (a0 :: a1 :: a2 :: a3 :: a4 :: a5 :: a6 :: a7 :: a8 :: a9 :: a10 :: a11 :: a12 :: a13 :: a14 :: a15 :: some (.ref x) :: L) (S) h Q = Gy xs (ab_at mi (pc + 2)) mi (pc + 2) (a0 :: a1 :: a2 :: a3 :: a4 :: a5 :: a6 :: a7 :: a8 :: a9 :: a10 :: a11 :: a12 :: a13 :: a14 :: a15 :: some (.ref x) :: L) (.ref x :: S) h Q := Gy_next fun _ => rfl
theorem Gy_iload_16 {a0 a1 a2 a3 a4 a5 a6 a7 a8 a9 a10 a11 a12 a13 a14 a15 : Option Value} {x : Int32} : Gy xs (some (.iload 16, len)) mi pc (a0 :: a1 :: a2 :: a3 :: a4 :: a5 :: a6 :: a7 :: a8 :: a9 :: a10 :: a11 :: a12 :: a13 :: a14 :: a15 :: some (.int x) :: L) (S) h Q = Gy xs (ab_at mi (pc + 2)) mi (pc + 2) (a0 :: a1 :: a2 :: a3 :: a4 :: a5 :: a6 :: a7 :: a8 :: a9 :: a10 :: a11 :: a12 :: a13 :: a14 :: a15 :: some (.int x) :: L) (.int x :: S) h Q := Gy_next fun _ => rfl
theorem Gy_astore_16 {a0 a1 a2 a3 a4 a5 a6 a7 a8 a9 a10 a11 a12 a13 a14 a15 : Option Value} {b : Option Value} {x : Nat} : Gy xs (some (.astore 16, len)) mi pc (a0 :: a1 :: a2 :: a3 :: a4 :: a5 :: a6 :: a7 :: a8 :: a9 :: a10 :: a11 :: a12 :: a13 :: a14 :: a15 :: b :: L) (.ref x :: S) h Q = Gy xs (ab_at mi (pc + 2)) mi (pc + 2) (ab_put 16 (.ref x) (a0 :: a1 :: a2 :: a3 :: a4 :: a5 :: a6 :: a7 :: a8 :: a9 :: a10 :: a11 :: a12 :: a13 :: a14 :: a15 :: b :: L)) (S) h Q := Gy_next fun _ => by unfold ab_step; exact if_pos (show 16 < List.length (a0 :: a1 :: a2 :: a3 :: a4 :: a5 :: a6 :: a7 :: a8 :: a9 :: a10 :: a11 :: a12 :: a13 :: a14 :: a15 :: b :: L) by simp)
theorem Gy_istore_16 {a0 a1 a2 a3 a4 a5 a6 a7 a8 a9 a10 a11 a12 a13 a14 a15 : Option Value} {b : Option Value} {x : Int32} : Gy xs (some (.istore 16, len)) mi pc (a0 :: a1 :: a2 :: a3 :: a4 :: a5 :: a6 :: a7 :: a8 :: a9 :: a10 :: a11 :: a12 :: a13 :: a14 :: a15 :: b :: L) (.int x :: S) h Q = Gy xs (ab_at mi (pc + 2)) mi (pc + 2) (ab_put 16 (.int x) (a0 :: a1 :: a2 :: a3 :: a4 :: a5 :: a6 :: a7 :: a8 :: a9 :: a10 :: a11 :: a12 :: a13 :: a14 :: a15 :: b :: L)) (S) h Q := Gy_next fun _ => by unfold ab_step; exact if_pos (show 16 < List.length (a0 :: a1 :: a2 :: a3 :: a4 :: a5 :: a6 :: a7 :: a8 :: a9 :: a10 :: a11 :: a12 :: a13 :: a14 :: a15 :: b :: L) by simp)
theorem Gy_iinc_16 {a0 a1 a2 a3 a4 a5 a6 a7 a8 a9 a10 a11 a12 a13 a14 a15 : Option Value} {x : Int32} {n : Int} : Gy xs (some (.iinc 16 n, len)) mi pc (a0 :: a1 :: a2 :: a3 :: a4 :: a5 :: a6 :: a7 :: a8 :: a9 :: a10 :: a11 :: a12 :: a13 :: a14 :: a15 :: some (.int x) :: L) (S) h Q = Gy xs (ab_at mi (pc + 3)) mi (pc + 3) (ab_put 16 (.int (x + Int32.ofInt n)) (a0 :: a1 :: a2 :: a3 :: a4 :: a5 :: a6 :: a7 :: a8 :: a9 :: a10 :: a11 :: a12 :: a13 :: a14 :: a15 :: some (.int x) :: L)) (S) h Q := Gy_next fun _ => by unfold ab_step; exact if_pos (show 16 < List.length (a0 :: a1 :: a2 :: a3 :: a4 :: a5 :: a6 :: a7 :: a8 :: a9 :: a10 :: a11 :: a12 :: a13 :: a14 :: a15 :: some (.int x) :: L) by simp)
theorem Gy_aload_17 {a0 a1 a2 a3 a4 a5 a6 a7 a8 a9 a10 a11 a12 a13 a14 a15 a16 : Option Value} {x : Nat} : Gy xs (some (.aload 17, len)) mi pc (a0 :: a1 :: a2 :: a3 :: a4 :: a5 :: a6 :: a7 :: a8 :: a9 :: a10 :: a11 :: a12 :: a13 :: a14 :: a15 :: a16 :: some (.ref x) :: L) (S) h Q = Gy xs (ab_at mi (pc + 2)) mi (pc + 2) (a0 :: a1 :: a2 :: a3 :: a4 :: a5 :: a6 :: a7 :: a8 :: a9 :: a10 :: a11 :: a12 :: a13 :: a14 :: a15 :: a16 :: some (.ref x) :: L) (.ref x :: S) h Q := Gy_next fun _ => rfl
theorem Gy_iload_17 {a0 a1 a2 a3 a4 a5 a6 a7 a8 a9 a10 a11 a12 a13 a14 a15 a16 : Option Value} {x : Int32} : Gy xs (some (.iload 17, len)) mi pc (a0 :: a1 :: a2 :: a3 :: a4 :: a5 :: a6 :: a7 :: a8 :: a9 :: a10 :: a11 :: a12 :: a13 :: a14 :: a15 :: a16 :: some (.int x) :: L) (S) h Q = Gy xs (ab_at mi (pc + 2)) mi (pc + 2) (a0 :: a1 :: a2 :: a3 :: a4 :: a5 :: a6 :: a7 :: a8 :: a9 :: a10 :: a11 :: a12 :: a13 :: a14 :: a15 :: a16 :: some (.int x) :: L) (.int x :: S) h Q := Gy_next fun _ => rfl
theorem Gy_astore_17 {a0 a1 a2 a3 a4 a5 a6 a7 a8 a9 a10 a11 a12 a13 a14 a15 a16 : Option Value} {b : Option Value} {x : Nat} : Gy xs (some (.astore 17, len)) mi pc (a0 :: a1 :: a2 :: a3 :: a4 :: a5 :: a6 :: a7 :: a8 :: a9 :: a10 :: a11 :: a12 :: a13 :: a14 :: a15 :: a16 :: b :: L) (.ref x :: S) h Q = Gy xs (ab_at mi (pc + 2)) mi (pc + 2) (ab_put 17 (.ref x) (a0 :: a1 :: a2 :: a3 :: a4 :: a5 :: a6 :: a7 :: a8 :: a9 :: a10 :: a11 :: a12 :: a13 :: a14 :: a15 :: a16 :: b :: L)) (S) h Q := Gy_next fun _ => by unfold ab_step; exact if_pos (show 17 < List.length (a0 :: a1 :: a2 :: a3 :: a4 :: a5 :: a6 :: a7 :: a8 :: a9 :: a10 :: a11 :: a12 :: a13 :: a14 :: a15 :: a16 :: b :: L) by simp)
theorem Gy_istore_17 {a0 a1 a2 a3 a4 a5 a6 a7 a8 a9 a10 a11 a12 a13 a14 a15 a16 : Option Value} {b : Option Value} {x : Int32} : Gy xs (some (.istore 17, len)) mi pc (a0 :: a1 :: a2 :: a3 :: a4 :: a5 :: a6 :: a7 :: a8 :: a9 :: a10 :: a11 :: a12 :: a13 :: a14 :: a15 :: a16 :: b :: L) (.int x :: S) h Q = Gy xs (ab_at mi (pc + 2)) mi (pc + 2) (ab_put 17 (.int x) (a0 :: a1 :: a2 :: a3 :: a4 :: a5 :: a6 :: a7 :: a8 :: a9 :: a10 :: a11 :: a12 :: a13 :: a14 :: a15 :: a16 :: b :: L)) (S) h Q := Gy_next fun _ => by unfold ab_step; exact if_pos (show 17 < List.length (a0 :: a1 :: a2 :: a3 :: a4 :: a5 :: a6 :: a7 :: a8 :: a9 :: a10 :: a11 :: a12 :: a13 :: a14 :: a15 :: a16 :: b :: L) by simp)
theorem Gy_iinc_17 {a0 a1 a2 a3 a4 a5 a6 a7 a8 a9 a10 a11 a12 a13 a14 a15 a16 : Option Value} {x : Int32} {n : Int} : Gy xs (some (.iinc 17 n, len)) mi pc (a0 :: a1 :: a2 :: a3 :: a4 :: a5 :: a6 :: a7 :: a8 :: a9 :: a10 :: a11 :: a12 :: a13 :: a14 :: a15 :: a16 :: some (.int x) :: L) (S) h Q = Gy xs (ab_at mi (pc + 3)) mi (pc + 3) (ab_put 17 (.int (x + Int32.ofInt n)) (a0 :: a1 :: a2 :: a3 :: a4 :: a5 :: a6 :: a7 :: a8 :: a9 :: a10 :: a11 :: a12 :: a13 :: a14 :: a15 :: a16 :: some (.int x) :: L)) (S) h Q := Gy_next fun _ => by unfold ab_step; exact if_pos (show 17 < List.length (a0 :: a1 :: a2 :: a3 :: a4 :: a5 :: a6 :: a7 :: a8 :: a9 :: a10 :: a11 :: a12 :: a13 :: a14 :: a15 :: a16 :: some (.int x) :: L) by simp)
theorem Gy_aload_18 {a0 a1 a2 a3 a4 a5 a6 a7 a8 a9 a10 a11 a12 a13 a14 a15 a16 a17 : Option Value} {x : Nat} : Gy xs (some (.aload 18, len)) mi pc (a0 :: a1 :: a2 :: a3 :: a4 :: a5 :: a6 :: a7 :: a8 :: a9 :: a10 :: a11 :: a12 :: a13 :: a14 :: a15 :: a16 :: a17 :: some (.ref x) :: L) (S) h Q = Gy xs (ab_at mi (pc + 2)) mi (pc + 2) (a0 :: a1 :: a2 :: a3 :: a4 :: a5 :: a6 :: a7 :: a8 :: a9 :: a10 :: a11 :: a12 :: a13 :: a14 :: a15 :: a16 :: a17 :: some (.ref x) :: L) (.ref x :: S) h Q := Gy_next fun _ => rfl
theorem Gy_iload_18 {a0 a1 a2 a3 a4 a5 a6 a7 a8 a9 a10 a11 a12 a13 a14 a15 a16 a17 : Option Value} {x : Int32} : Gy xs (some (.iload 18, len)) mi pc (a0 :: a1 :: a2 :: a3 :: a4 :: a5 :: a6 :: a7 :: a8 :: a9 :: a10 :: a11 :: a12 :: a13 :: a14 :: a15 :: a16 :: a17 :: some (.int x) :: L) (S) h Q = Gy xs (ab_at mi (pc + 2)) mi (pc + 2) (a0 :: a1 :: a2 :: a3 :: a4 :: a5 :: a6 :: a7 :: a8 :: a9 :: a10 :: a11 :: a12 :: a13 :: a14 :: a15 :: a16 :: a17 :: some (.int x) :: L) (.int x :: S) h Q := Gy_next fun _ => rfl
theorem Gy_astore_18 {a0 a1 a2 a3 a4 a5 a6 a7 a8 a9 a10 a11 a12 a13 a14 a15 a16 a17 : Option Value} {b : Option Value} {x : Nat} : Gy xs (some (.astore 18, len)) mi pc (a0 :: a1 :: a2 :: a3 :: a4 :: a5 :: a6 :: a7 :: a8 :: a9 :: a10 :: a11 :: a12 :: a13 :: a14 :: a15 :: a16 :: a17 :: b :: L) (.ref x :: S) h Q = Gy xs (ab_at mi (pc + 2)) mi (pc + 2) (ab_put 18 (.ref x) (a0 :: a1 :: a2 :: a3 :: a4 :: a5 :: a6 :: a7 :: a8 :: a9 :: a10 :: a11 :: a12 :: a13 :: a14 :: a15 :: a16 :: a17 :: b :: L)) (S) h Q := Gy_next fun _ => by unfold ab_step; exact if_pos (show 18 < List.length (a0 :: a1 :: a2 :: a3 :: a4 :: a5 :: a6 :: a7 :: a8 :: a9 :: a10 :: a11 :: a12 :: a13 :: a14 :: a15 :: a16 :: a17 :: b :: L) by simp)
theorem Gy_istore_18 {a0 a1 a2 a3 a4 a5 a6 a7 a8 a9 a10 a11 a12 a13 a14 a15 a16 a17 : Option Value} {b : Option Value} {x : Int32} : Gy xs (some (.istore 18, len)) mi pc (a0 :: a1 :: a2 :: a3 :: a4 :: a5 :: a6 :: a7 :: a8 :: a9 :: a10 :: a11 :: a12 :: a13 :: a14 :: a15 :: a16 :: a17 :: b :: L) (.int x :: S) h Q = Gy xs (ab_at mi (pc + 2)) mi (pc + 2) (ab_put 18 (.int x) (a0 :: a1 :: a2 :: a3 :: a4 :: a5 :: a6 :: a7 :: a8 :: a9 :: a10 :: a11 :: a12 :: a13 :: a14 :: a15 :: a16 :: a17 :: b :: L)) (S) h Q := Gy_next fun _ => by unfold ab_step; exact if_pos (show 18 < List.length (a0 :: a1 :: a2 :: a3 :: a4 :: a5 :: a6 :: a7 :: a8 :: a9 :: a10 :: a11 :: a12 :: a13 :: a14 :: a15 :: a16 :: a17 :: b :: L) by simp)
theorem Gy_iinc_18 {a0 a1 a2 a3 a4 a5 a6 a7 a8 a9 a10 a11 a12 a13 a14 a15 a16 a17 : Option Value} {x : Int32} {n : Int} : Gy xs (some (.iinc 18 n, len)) mi pc (a0 :: a1 :: a2 :: a3 :: a4 :: a5 :: a6 :: a7 :: a8 :: a9 :: a10 :: a11 :: a12 :: a13 :: a14 :: a15 :: a16 :: a17 :: some (.int x) :: L) (S) h Q = Gy xs (ab_at mi (pc + 3)) mi (pc + 3) (ab_put 18 (.int (x + Int32.ofInt n)) (a0 :: a1 :: a2 :: a3 :: a4 :: a5 :: a6 :: a7 :: a8 :: a9 :: a10 :: a11 :: a12 :: a13 :: a14 :: a15 :: a16 :: a17 :: some (.int x) :: L)) (S) h Q := Gy_next fun _ => by unfold ab_step; exact if_pos (show 18 < List.length (a0 :: a1 :: a2 :: a3 :: a4 :: a5 :: a6 :: a7 :: a8 :: a9 :: a10 :: a11 :: a12 :: a13 :: a14 :: a15 :: a16 :: a17 :: some (.int x) :: L) by simp)
theorem Gy_aload_19 {a0 a1 a2 a3 a4 a5 a6 a7 a8 a9 a10 a11 a12 a13 a14 a15 a16 a17 a18 : Option Value} {x : Nat} : Gy xs (some (.aload 19, len)) mi pc (a0 :: a1 :: a2 :: a3 :: a4 :: a5 :: a6 :: a7 :: a8 :: a9 :: a10 :: a11 :: a12 :: a13 :: a14 :: a15 :: a16 :: a17 :: a18 :: some (.ref x) :: L) (S) h Q = Gy xs (ab_at mi (pc + 2)) mi (pc + 2) (a0 :: a1 :: a2 :: a3 :: a4 :: a5 :: a6 :: a7 :: a8 :: a9 :: a10 :: a11 :: a12 :: a13 :: a14 :: a15 :: a16 :: a17 :: a18 :: some (.ref x) :: L) (.ref x :: S) h Q := Gy_next fun _ => rfl
theorem Gy_iload_19 {a0 a1 a2 a3 a4 a5 a6 a7 a8 a9 a10 a11 a12 a13 a14 a15 a16 a17 a18 : Option Value} {x : Int32} : Gy xs (some (.iload 19, len)) mi pc (a0 :: a1 :: a2 :: a3 :: a4 :: a5 :: a6 :: a7 :: a8 :: a9 :: a10 :: a11 :: a12 :: a13 :: a14 :: a15 :: a16 :: a17 :: a18 :: some (.int x) :: L) (S) h Q = Gy xs (ab_at mi (pc + 2)) mi (pc + 2) (a0 :: a1 :: a2 :: a3 :: a4 :: a5 :: a6 :: a7 :: a8 :: a9 :: a10 :: a11 :: a12 :: a13 :: a14 :: a15 :: a16 :: a17 :: a18 :: some (.int x) :: L) (.int x :: S) h Q := Gy_next fun _ => rfl
theorem Gy_astore_19 {a0 a1 a2 a3 a4 a5 a6 a7 a8 a9 a10 a11 a12 a13 a14 a15 a16 a17 a18 : Option Value} {b : Option Value} {x : Nat} : Gy xs (some (.astore 19, len)) mi pc (a0 :: a1 :: a2 :: a3 :: a4 :: a5 :: a6 :: a7 :: a8 :: a9 :: a10 :: a11 :: a12 :: a13 :: a14 :: a15 :: a16 :: a17 :: a18 :: b :: L) (.ref x :: S) h Q = Gy xs (ab_at mi (pc + 2)) mi (pc + 2) (ab_put 19 (.ref x) (a0 :: a1 :: a2 :: a3 :: a4 :: a5 :: a6 :: a7 :: a8 :: a9 :: a10 :: a11 :: a12 :: a13 :: a14 :: a15 :: a16 :: a17 :: a18 :: b :: L)) (S) h Q := Gy_next fun _ => by unfold ab_step; exact if_pos (show 19 < List.length (a0 :: a1 :: a2 :: a3 :: a4 :: a5 :: a6 :: a7 :: a8 :: a9 :: a10 :: a11 :: a12 :: a13 :: a14 :: a15 :: a16 :: a17 :: a18 :: b :: L) by simp)
theorem Gy_istore_19 {a0 a1 a2 a3 a4 a5 a6 a7 a8 a9 a10 a11 a12 a13 a14 a15 a16 a17 a18 : Option Value} {b : Option Value} {x : Int32} : Gy xs (some (.istore 19, len)) mi pc (a0 :: a1 :: a2 :: a3 :: a4 :: a5 :: a6 :: a7 :: a8 :: a9 :: a10 :: a11 :: a12 :: a13 :: a14 :: a15 :: a16 :: a17 :: a18 :: b :: L) (.int x :: S) h Q = Gy xs (ab_at mi (pc + 2)) mi (pc + 2) (ab_put 19 (.int x) (a0 :: a1 :: a2 :: a3 :: a4 :: a5 :: a6 :: a7 :: a8 :: a9 :: a10 :: a11 :: a12 :: a13 :: a14 :: a15 :: a16 :: a17 :: a18 :: b :: L)) (S) h Q := Gy_next fun _ => by unfold ab_step; exact if_pos (show 19 < List.length (a0 :: a1 :: a2 :: a3 :: a4 :: a5 :: a6 :: a7 :: a8 :: a9 :: a10 :: a11 :: a12 :: a13 :: a14 :: a15 :: a16 :: a17 :: a18 :: b :: L) by simp)
theorem Gy_iinc_19 {a0 a1 a2 a3 a4 a5 a6 a7 a8 a9 a10 a11 a12 a13 a14 a15 a16 a17 a18 : Option Value} {x : Int32} {n : Int} : Gy xs (some (.iinc 19 n, len)) mi pc (a0 :: a1 :: a2 :: a3 :: a4 :: a5 :: a6 :: a7 :: a8 :: a9 :: a10 :: a11 :: a12 :: a13 :: a14 :: a15 :: a16 :: a17 :: a18 :: some (.int x) :: L) (S) h Q = Gy xs (ab_at mi (pc + 3)) mi (pc + 3) (ab_put 19 (.int (x + Int32.ofInt n)) (a0 :: a1 :: a2 :: a3 :: a4 :: a5 :: a6 :: a7 :: a8 :: a9 :: a10 :: a11 :: a12 :: a13 :: a14 :: a15 :: a16 :: a17 :: a18 :: some (.int x) :: L)) (S) h Q := Gy_next fun _ => by unfold ab_step; exact if_pos (show 19 < List.length (a0 :: a1 :: a2 :: a3 :: a4 :: a5 :: a6 :: a7 :: a8 :: a9 :: a10 :: a11 :: a12 :: a13 :: a14 :: a15 :: a16 :: a17 :: a18 :: some (.int x) :: L) by simp)
theorem Gy_aload_20 {a0 a1 a2 a3 a4 a5 a6 a7 a8 a9 a10 a11 a12 a13 a14 a15 a16 a17 a18 a19 : Option Value} {x : Nat} : Gy xs (some (.aload 20, len)) mi pc (a0 :: a1 :: a2 :: a3 :: a4 :: a5 :: a6 :: a7 :: a8 :: a9 :: a10 :: a11 :: a12 :: a13 :: a14 :: a15 :: a16 :: a17 :: a18 :: a19 :: some (.ref x) :: L) (S) h Q = Gy xs (ab_at mi (pc + 2)) mi (pc + 2) (a0 :: a1 :: a2 :: a3 :: a4 :: a5 :: a6 :: a7 :: a8 :: a9 :: a10 :: a11 :: a12 :: a13 :: a14 :: a15 :: a16 :: a17 :: a18 :: a19 :: some (.ref x) :: L) (.ref x :: S) h Q := Gy_next fun _ => rfl
theorem Gy_iload_20 {a0 a1 a2 a3 a4 a5 a6 a7 a8 a9 a10 a11 a12 a13 a14 a15 a16 a17 a18 a19 : Option Value} {x : Int32} : Gy xs (some (.iload 20, len)) mi pc (a0 :: a1 :: a2 :: a3 :: a4 :: a5 :: a6 :: a7 :: a8 :: a9 :: a10 :: a11 :: a12 :: a13 :: a14 :: a15 :: a16 :: a17 :: a18 :: a19 :: some (.int x) :: L) (S) h Q = Gy xs (ab_at mi (pc + 2)) mi (pc + 2) (a0 :: a1 :: a2 :: a3 :: a4 :: a5 :: a6 :: a7 :: a8 :: a9 :: a10 :: a11 :: a12 :: a13 :: a14 :: a15 :: a16 :: a17 :: a18 :: a19 :: some (.int x) :: L) (.int x :: S) h Q := Gy_next fun _ => rfl
theorem Gy_astore_20 {a0 a1 a2 a3 a4 a5 a6 a7 a8 a9 a10 a11 a12 a13 a14 a15 a16 a17 a18 a19 : Option Value} {b : Option Value} {x : Nat} : Gy xs (some (.astore 20, len)) mi pc (a0 :: a1 :: a2 :: a3 :: a4 :: a5 :: a6 :: a7 :: a8 :: a9 :: a10 :: a11 :: a12 :: a13 :: a14 :: a15 :: a16 :: a17 :: a18 :: a19 :: b :: L) (.ref x :: S) h Q = Gy xs (ab_at mi (pc + 2)) mi (pc + 2) (ab_put 20 (.ref x) (a0 :: a1 :: a2 :: a3 :: a4 :: a5 :: a6 :: a7 :: a8 :: a9 :: a10 :: a11 :: a12 :: a13 :: a14 :: a15 :: a16 :: a17 :: a18 :: a19 :: b :: L)) (S) h Q := Gy_next fun _ => by unfold ab_step; exact if_pos (show 20 < List.length (a0 :: a1 :: a2 :: a3 :: a4 :: a5 :: a6 :: a7 :: a8 :: a9 :: a10 :: a11 :: a12 :: a13 :: a14 :: a15 :: a16 :: a17 :: a18 :: a19 :: b :: L) by simp)
theorem Gy_istore_20 {a0 a1 a2 a3 a4 a5 a6 a7 a8 a9 a10 a11 a12 a13 a14 a15 a16 a17 a18 a19 : Option Value} {b : Option Value} {x : Int32} : Gy xs (some (.istore 20, len)) mi pc (a0 :: a1 :: a2 :: a3 :: a4 :: a5 :: a6 :: a7 :: a8 :: a9 :: a10 :: a11 :: a12 :: a13 :: a14 :: a15 :: a16 :: a17 :: a18 :: a19 :: b :: L) (.int x :: S) h Q = Gy xs (ab_at mi (pc + 2)) mi (pc + 2) (ab_put 20 (.int x) (a0 :: a1 :: a2 :: a3 :: a4 :: a5 :: a6 :: a7 :: a8 :: a9 :: a10 :: a11 :: a12 :: a13 :: a14 :: a15 :: a16 :: a17 :: a18 :: a19 :: b :: L)) (S) h Q := Gy_next fun _ => by unfold ab_step; exact if_pos (show 20 < List.length (a0 :: a1 :: a2 :: a3 :: a4 :: a5 :: a6 :: a7 :: a8 :: a9 :: a10 :: a11 :: a12 :: a13 :: a14 :: a15 :: a16 :: a17 :: a18 :: a19 :: b :: L) by simp)
theorem Gy_iinc_20 {a0 a1 a2 a3 a4 a5 a6 a7 a8 a9 a10 a11 a12 a13 a14 a15 a16 a17 a18 a19 : Option Value} {x : Int32} {n : Int} : Gy xs (some (.iinc 20 n, len)) mi pc (a0 :: a1 :: a2 :: a3 :: a4 :: a5 :: a6 :: a7 :: a8 :: a9 :: a10 :: a11 :: a12 :: a13 :: a14 :: a15 :: a16 :: a17 :: a18 :: a19 :: some (.int x) :: L) (S) h Q = Gy xs (ab_at mi (pc + 3)) mi (pc + 3) (ab_put 20 (.int (x + Int32.ofInt n)) (a0 :: a1 :: a2 :: a3 :: a4 :: a5 :: a6 :: a7 :: a8 :: a9 :: a10 :: a11 :: a12 :: a13 :: a14 :: a15 :: a16 :: a17 :: a18 :: a19 :: some (.int x) :: L)) (S) h Q := Gy_next fun _ => by unfold ab_step; exact if_pos (show 20 < List.length (a0 :: a1 :: a2 :: a3 :: a4 :: a5 :: a6 :: a7 :: a8 :: a9 :: a10 :: a11 :: a12 :: a13 :: a14 :: a15 :: a16 :: a17 :: a18 :: a19 :: some (.int x) :: L) by simp)
theorem Gy_aload_21 {a0 a1 a2 a3 a4 a5 a6 a7 a8 a9 a10 a11 a12 a13 a14 a15 a16 a17 a18 a19 a20 : Option Value} {x : Nat} : Gy xs (some (.aload 21, len)) mi pc (a0 :: a1 :: a2 :: a3 :: a4 :: a5 :: a6 :: a7 :: a8 :: a9 :: a10 :: a11 :: a12 :: a13 :: a14 :: a15 :: a16 :: a17 :: a18 :: a19 :: a20 :: some (.ref x) :: L) (S) h Q = Gy xs (ab_at mi (pc + 2)) mi (pc + 2) (a0 :: a1 :: a2 :: a3 :: a4 :: a5 :: a6 :: a7 :: a8 :: a9 :: a10 :: a11 :: a12 :: a13 :: a14 :: a15 :: a16 :: a17 :: a18 :: a19 :: a20 :: some (.ref x) :: L) (.ref x :: S) h Q := Gy_next fun _ => rfl
theorem Gy_iload_21 {a0 a1 a2 a3 a4 a5 a6 a7 a8 a9 a10 a11 a12 a13 a14 a15 a16 a17 a18 a19 a20 : Option Value} {x : Int32} : Gy xs (some (.iload 21, len)) mi pc (a0 :: a1 :: a2 :: a3 :: a4 :: a5 :: a6 :: a7 :: a8 :: a9 :: a10 :: a11 :: a12 :: a13 :: a14 :: a15 :: a16 :: a17 :: a18 :: a19 :: a20 :: some (.int x) :: L) (S) h Q = Gy xs (ab_at mi (pc + 2)) mi (pc + 2) (a0 :: a1 :: a2 :: a3 :: a4 :: a5 :: a6 :: a7 :: a8 :: a9 :: a10 :: a11 :: a12 :: a13 :: a14 :: a15 :: a16 :: a17 :: a18 :: a19 :: a20 :: some (.int x) :: L) (.int x :: S) h Q := Gy_next fun _ => rfl
theorem Gy_astore_21 {a0 a1 a2 a3 a4 a5 a6 a7 a8 a9 a10 a11 a12 a13 a14 a15 a16 a17 a18 a19 a20 : Option Value} {b : Option Value} {x : Nat} : Gy xs (some (.astore 21, len)) mi pc (a0 :: a1 :: a2 :: a3 :: a4 :: a5 :: a6 :: a7 :: a8 :: a9 :: a10 :: a11 :: a12 :: a13 :: a14 :: a15 :: a16 :: a17 :: a18 :: a19 :: a20 :: b :: L) (.ref x :: S) h Q = Gy xs (ab_at mi (pc + 2)) mi (pc + 2) (ab_put 21 (.ref x) (a0 :: a1 :: a2 :: a3 :: a4 :: a5 :: a6 :: a7 :: a8 :: a9 :: a10 :: a11 :: a12 :: a13 :: a14 :: a15 :: a16 :: a17 :: a18 :: a19 :: a20 :: b :: L)) (S) h Q := Gy_next fun _ => by unfold ab_step; exact if_pos (show 21 < List.length (a0 :: a1 :: a2 :: a3 :: a4 :: a5 :: a6 :: a7 :: a8 :: a9 :: a10 :: a11 :: a12 :: a13 :: a14 :: a15 :: a16 :: a17 :: a18 :: a19 :: a20 :: b :: L) by simp)
theorem Gy_istore_21 {a0 a1 a2 a3 a4 a5 a6 a7 a8 a9 a10 a11 a12 a13 a14 a15 a16 a17 a18 a19 a20 : Option Value} {b : Option Value} {x : Int32} : Gy xs (some (.istore 21, len)) mi pc (a0 :: a1 :: a2 :: a3 :: a4 :: a5 :: a6 :: a7 :: a8 :: a9 :: a10 :: a11 :: a12 :: a13 :: a14 :: a15 :: a16 :: a17 :: a18 :: a19 :: a20 :: b :: L) (.int x :: S) h Q = Gy xs (ab_at mi (pc + 2)) mi (pc + 2) (ab_put 21 (.int x) (a0 :: a1 :: a2 :: a3 :: a4 :: a5 :: a6 :: a7 :: a8 :: a9 :: a10 :: a11 :: a12 :: a13 :: a14 :: a15 :: a16 :: a17 :: a18 :: a19 :: a20 :: b :: L)) (S) h Q := Gy_next fun _ => by unfold ab_step; exact if_pos (show 21 < List.length (a0 :: a1 :: a2 :: a3 :: a4 :: a5 :: a6 :: a7 :: a8 :: a9 :: a10 :: a11 :: a12 :: a13 :: a14 :: a15 :: a16 :: a17 :: a18 :: a19 :: a20 :: b :: L) by simp)
theorem Gy_iinc_21 {a0 a1 a2 a3 a4 a5 a6 a7 a8 a9 a10 a11 a12 a13 a14 a15 a16 a17 a18 a19 a20 : Option Value} {x : Int32} {n : Int} : Gy xs (some (.iinc 21 n, len)) mi pc (a0 :: a1 :: a2 :: a3 :: a4 :: a5 :: a6 :: a7 :: a8 :: a9 :: a10 :: a11 :: a12 :: a13 :: a14 :: a15 :: a16 :: a17 :: a18 :: a19 :: a20 :: some (.int x) :: L) (S) h Q = Gy xs (ab_at mi (pc + 3)) mi (pc + 3) (ab_put 21 (.int (x + Int32.ofInt n)) (a0 :: a1 :: a2 :: a3 :: a4 :: a5 :: a6 :: a7 :: a8 :: a9 :: a10 :: a11 :: a12 :: a13 :: a14 :: a15 :: a16 :: a17 :: a18 :: a19 :: a20 :: some (.int x) :: L)) (S) h Q := Gy_next fun _ => by unfold ab_step; exact if_pos (show 21 < List.length (a0 :: a1 :: a2 :: a3 :: a4 :: a5 :: a6 :: a7 :: a8 :: a9 :: a10 :: a11 :: a12 :: a13 :: a14 :: a15 :: a16 :: a17 :: a18 :: a19 :: a20 :: some (.int x) :: L) by simp)
theorem Gy_aload_22 {a0 a1 a2 a3 a4 a5 a6 a7 a8 a9 a10 a11 a12 a13 a14 a15 a16 a17 a18 a19 a20 a21 : Option Value} {x : Nat} : Gy xs (some (.aload 22, len)) mi pc (a0 :: a1 :: a2 :: a3 :: a4 :: a5 :: a6 :: a7 :: a8 :: a9 :: a10 :: a11 :: a12 :: a13 :: a14 :: a15 :: a16 :: a17 :: a18 :: a19 :: a20 :: a21 :: some (.ref x) :: L) (S) h Q = Gy xs (ab_at mi (pc + 2)) mi (pc + 2) (a0 :: a1 :: a2 :: a3 :: a4 :: a5 :: a6 :: a7 :: a8 :: a9 :: a10 :: a11 :: a12 :: a13 :: a14 :: a15 :: a16 :: a17 :: a18 :: a19 :: a20 :: a21 :: some (.ref x) :: L) (.ref x :: S) h Q := Gy_next fun _ => rfl
theorem Gy_iload_22 {a0 a1 a2 a3 a4 a5 a6 a7 a8 a9 a10 a11 a12 a13 a14 a15 a16 a17 a18 a19 a20 a21 : Option Value} {x : Int32} : Gy xs (some (.iload 22, len)) mi pc (a0 :: a1 :: a2 :: a3 :: a4 :: a5 :: a6 :: a7 :: a8 :: a9 :: a10 :: a11 :: a12 :: a13 :: a14 :: a15 :: a16 :: a17 :: a18 :: a19 :: a20 :: a21 :: some (.int x) :: L) (S) h Q = Gy xs (ab_at mi (pc + 2)) mi (pc + 2) (a0 :: a1 :: a2 :: a3 :: a4 :: a5 :: a6 :: a7 :: a8 :: a9 :: a10 :: a11 :: a12 :: a13 :: a14 :: a15 :: a16 :: a17 :: a18 :: a19 :: a20 :: a21 :: some (.int x) :: L) (.int x :: S) h Q := Gy_next fun _ => rfl
theorem Gy_astore_22 {a0 a1 a2 a3 a4 a5 a6 a7 a8 a9 a10 a11 a12 a13 a14 a15 a16 a17 a18 a19 a20 a21 : Option Value} {b : Option Value} {x : Nat} : Gy xs (some (.astore 22, len)) mi pc (a0 :: a1 :: a2 :: a3 :: a4 :: a5 :: a6 :: a7 :: a8 :: a9 :: a10 :: a11 :: a12 :: a13 :: a14 :: a15 :: a16 :: a17 :: a18 :: a19 :: a20 :: a21 :: b :: L) (.ref x :: S) h Q = Gy xs (ab_at mi (pc + 2)) mi (pc + 2) (ab_put 22 (.ref x) (a0 :: a1 :: a2 :: a3 :: a4 :: a5 :: a6 :: a7 :: a8 :: a9 :: a10 :: a11 :: a12 :: a13 :: a14 :: a15 :: a16 :: a17 :: a18 :: a19 :: a20 :: a21 :: b :: L)) (S) h Q := Gy_next fun _ => by unfold ab_step; exact if_pos (show 22 < List.length (a0 :: a1 :: a2 :: a3 :: a4 :: a5 :: a6 :: a7 :: a8 :: a9 :: a10 :: a11 :: a12 :: a13 :: a14 :: a15 :: a16 :: a17 :: a18 :: a19 :: a20 :: a21 :: b :: L) by simp)
theorem Gy_istore_22 {a0 a1 a2 a3 a4 a5 a6 a7 a8 a9 a10 a11 a12 a13 a14 a15 a16 a17 a18 a19 a20 a21 : Option Value} {b : Option Value} {x : Int32} : Gy xs (some (.istore 22, len)) mi pc (a0 :: a1 :: a2 :: a3 :: a4 :: a5 :: a6 :: a7 :: a8 :: a9 :: a10 :: a11 :: a12 :: a13 :: a14 :: a15 :: a16 :: a17 :: a18 :: a19 :: a20 :: a21 :: b :: L) (.int x :: S) h Q = Gy xs (ab_at mi (pc + 2)) mi (pc + 2) (ab_put 22 (.int x) (a0 :: a1 :: a2 :: a3 :: a4 :: a5 :: a6 :: a7 :: a8 :: a9 :: a10 :: a11 :: a12 :: a13 :: a14 :: a15 :: a16 :: a17 :: a18 :: a19 :: a20 :: a21 :: b :: L)) (S) h Q := Gy_next fun _ => by unfold ab_step; exact if_pos (show 22 < List.length (a0 :: a1 :: a2 :: a3 :: a4 :: a5 :: a6 :: a7 :: a8 :: a9 :: a10 :: a11 :: a12 :: a13 :: a14 :: a15 :: a16 :: a17 :: a18 :: a19 :: a20 :: a21 :: b :: L) by simp)
theorem Gy_iinc_22 {a0 a1 a2 a3 a4 a5 a6 a7 a8 a9 a10 a11 a12 a13 a14 a15 a16 a17 a18 a19 a20 a21 : Option Value} {x : Int32} {n : Int} : Gy xs (some (.iinc 22 n, len)) mi pc (a0 :: a1 :: a2 :: a3 :: a4 :: a5 :: a6 :: a7 :: a8 :: a9 :: a10 :: a11 :: a12 :: a13 :: a14 :: a15 :: a16 :: a17 :: a18 :: a19 :: a20 :: a21 :: some (.int x) :: L) (S) h Q = Gy xs (ab_at mi (pc + 3)) mi (pc + 3) (ab_put 22 (.int (x + Int32.ofInt n)) (a0 :: a1 :: a2 :: a3 :: a4 :: a5 :: a6 :: a7 :: a8 :: a9 :: a10 :: a11 :: a12 :: a13 :: a14 :: a15 :: a16 :: a17 :: a18 :: a19 :: a20 :: a21 :: some (.int x) :: L)) (S) h Q := Gy_next fun _ => by unfold ab_step; exact if_pos (show 22 < List.length (a0 :: a1 :: a2 :: a3 :: a4 :: a5 :: a6 :: a7 :: a8 :: a9 :: a10 :: a11 :: a12 :: a13 :: a14 :: a15 :: a16 :: a17 :: a18 :: a19 :: a20 :: a21 :: some (.int x) :: L) by simp)
theorem Gy_aload_23 {a0 a1 a2 a3 a4 a5 a6 a7 a8 a9 a10 a11 a12 a13 a14 a15 a16 a17 a18 a19 a20 a21 a22 : Option Value} {x : Nat} : Gy xs (some (.aload 23, len)) mi pc (a0 :: a1 :: a2 :: a3 :: a4 :: a5 :: a6 :: a7 :: a8 :: a9 :: a10 :: a11 :: a12 :: a13 :: a14 :: a15 :: a16 :: a17 :: a18 :: a19 :: a20 :: a21 :: a22 :: some (.ref x) :: L) (S) h Q = Gy xs (ab_at mi (pc + 2)) mi (pc + 2) (a0 :: a1 :: a2 :: a3 :: a4 :: a5 :: a6 :: a7 :: a8 :: a9 :: a10 :: a11 :: a12 :: a13 :: a14 :: a15 :: a16 :: a17 :: a18 :: a19 :: a20 :: a21 :: a22 :: some (.ref x) :: L) (.ref x :: S) h Q := Gy_next fun _ => rfl
theorem Gy_iload_23 {a0 a1 a2 a3 a4 a5 a6 a7 a8 a9 a10 a11 a12 a13 a14 a15 a16 a17 a18 a19 a20 a21 a22 : Option Value} {x : Int32} : Gy xs (some (.iload 23, len)) mi pc (a0 :: a1 :: a2 :: a3 :: a4 :: a5 :: a6 :: a7 :: a8 :: a9 :: a10 :: a11 :: a12 :: a13 :: a14 :: a15 :: a16 :: a17 :: a18 :: a19 :: a20 :: a21 :: a22 :: some (.int x) :: L) (S) h Q = Gy xs (ab_at mi (pc + 2)) mi (pc + 2) (a0 :: a1 :: a2 :: a3 :: a4 :: a5 :: a6 :: a7 :: a8 :: a9 :: a10 :: a11 :: a12 :: a13 :: a14 :: a15 :: a16 :: a17 :: a18 :: a19 :: a20 :: a21 :: a22 :: some (.int x) :: L) (.int x :: S) h Q := Gy_next fun _ => rfl
theorem Gy_astore_23 {a0 a1 a2 a3 a4 a5 a6 a7 a8 a9 a10 a11 a12 a13 a14 a15 a16 a17 a18 a19 a20 a21 a22 : Option Value} {b : Option Value} {x : Nat} : Gy xs (some (.astore 23, len)) mi pc (a0 :: a1 :: a2 :: a3 :: a4 :: a5 :: a6 :: a7 :: a8 :: a9 :: a10 :: a11 :: a12 :: a13 :: a14 :: a15 :: a16 :: a17 :: a18 :: a19 :: a20 :: a21 :: a22 :: b :: L) (.ref x :: S) h Q = Gy xs (ab_at mi (pc + 2)) mi (pc + 2) (ab_put 23 (.ref x) (a0 :: a1 :: a2 :: a3 :: a4 :: a5 :: a6 :: a7 :: a8 :: a9 :: a10 :: a11 :: a12 :: a13 :: a14 :: a15 :: a16 :: a17 :: a18 :: a19 :: a20 :: a21 :: a22 :: b :: L)) (S) h Q := Gy_next fun _ => by unfold ab_step; exact if_pos (show 23 < List.length (a0 :: a1 :: a2 :: a3 :: a4 :: a5 :: a6 :: a7 :: a8 :: a9 :: a10 :: a11 :: a12 :: a13 :: a14 :: a15 :: a16 :: a17 :: a18 :: a19 :: a20 :: a21 :: a22 :: b :: L) by simp)
theorem Gy_istore_23 {a0 a1 a2 a3 a4 a5 a6 a7 a8 a9 a10 a11 a12 a13 a14 a15 a16 a17 a18 a19 a20 a21 a22 : Option Value} {b : Option Value} {x : Int32} : Gy xs (some (.istore 23, len)) mi pc (a0 :: a1 :: a2 :: a3 :: a4 :: a5 :: a6 :: a7 :: a8 :: a9 :: a10 :: a11 :: a12 :: a13 :: a14 :: a15 :: a16 :: a17 :: a18 :: a19 :: a20 :: a21 :: a22 :: b :: L) (.int x :: S) h Q = Gy xs (ab_at mi (pc + 2)) mi (pc + 2) (ab_put 23 (.int x) (a0 :: a1 :: a2 :: a3 :: a4 :: a5 :: a6 :: a7 :: a8 :: a9 :: a10 :: a11 :: a12 :: a13 :: a14 :: a15 :: a16 :: a17 :: a18 :: a19 :: a20 :: a21 :: a22 :: b :: L)) (S) h Q := Gy_next fun _ => by unfold ab_step; exact if_pos (show 23 < List.length (a0 :: a1 :: a2 :: a3 :: a4 :: a5 :: a6 :: a7 :: a8 :: a9 :: a10 :: a11 :: a12 :: a13 :: a14 :: a15 :: a16 :: a17 :: a18 :: a19 :: a20 :: a21 :: a22 :: b :: L) by simp)
theorem Gy_iinc_23 {a0 a1 a2 a3 a4 a5 a6 a7 a8 a9 a10 a11 a12 a13 a14 a15 a16 a17 a18 a19 a20 a21 a22 : Option Value} {x : Int32} {n : Int} : Gy xs (some (.iinc 23 n, len)) mi pc (a0 :: a1 :: a2 :: a3 :: a4 :: a5 :: a6 :: a7 :: a8 :: a9 :: a10 :: a11 :: a12 :: a13 :: a14 :: a15 :: a16 :: a17 :: a18 :: a19 :: a20 :: a21 :: a22 :: some (.int x) :: L) (S) h Q = Gy xs (ab_at mi (pc + 3)) mi (pc + 3) (ab_put 23 (.int (x + Int32.ofInt n)) (a0 :: a1 :: a2 :: a3 :: a4 :: a5 :: a6 :: a7 :: a8 :: a9 :: a10 :: a11 :: a12 :: a13 :: a14 :: a15 :: a16 :: a17 :: a18 :: a19 :: a20 :: a21 :: a22 :: some (.int x) :: L)) (S) h Q := Gy_next fun _ => by unfold ab_step; exact if_pos (show 23 < List.length (a0 :: a1 :: a2 :: a3 :: a4 :: a5 :: a6 :: a7 :: a8 :: a9 :: a10 :: a11 :: a12 :: a13 :: a14 :: a15 :: a16 :: a17 :: a18 :: a19 :: a20 :: a21 :: a22 :: some (.int x) :: L) by simp)
theorem Gy_idiv {x z : Int32} : Gy xs (some (.idiv, len)) mi pc L (.int z :: .int x :: S) h Q = (¬ z = 0 ∧ Gy xs (ab_at mi (pc + 1)) mi (pc + 1) L (.int (x / z) :: S) h Q) := by
  by_cases hz : z = 0
  · rw [Gy_stuck (mi := mi) (pc := pc) (len := len) (ins := .idiv) (L := L) (S := .int z :: .int x :: S) (h := h) (Q := Q) (fun call => if_pos hz)]
    exact propext ⟨fun w => w.elim, fun w => w.1 hz⟩
  · rw [Gy_next (mi := mi) (pc := pc) (len := len) (ins := .idiv) (L := L) (S := .int z :: .int x :: S) (h := h) (Q := Q) (fun call => if_neg hz)]
    exact propext ⟨fun w => ⟨hz, w⟩, fun w => w.2⟩
theorem Gy_lshr {x : Int64} {z : Int32} : Gy xs (some (.lshr, len)) mi pc L (.int z :: .long x :: S) h Q = Gy xs (ab_at mi (pc + 1)) mi (pc + 1) L (.long (x >>> (z.toInt64 &&& 63)) :: S) h Q := Gy_next fun _ => rfl
theorem Gy_sload {i : Int32} : Gy xs (some (.iaload, len)) mi pc L (.int i :: .ref 2000 :: S) h Q = (ab_in i xs.length = true ∧ Gy xs (ab_at mi (pc + 1)) mi (pc + 1) L (.int (xs.getD i.toNatClampNeg 0) :: S) h Q) := Gy_cond (P := ab_in i xs.length = true) (fun _ => by unfold ab_step; exact if_pos rfl)
theorem Gy_slen : Gy xs (some (.arraylength, len)) mi pc L (.ref 2000 :: S) h Q = Gy xs (ab_at mi (pc + 1)) mi (pc + 1) L (.int xs.length.toInt32 :: S) h Q := Gy_next fun _ => by unfold ab_step; exact if_pos rfl
theorem Gy_newi {n : Int32} (h1 : 0 ≤ n ∧ n.toNatClampNeg ≤ 1000 ∧ ab_nx h < 1000 ∧ (L.all (fun v => (v.map (ab_ok (ab_nx h))).getD true) && S.all (ab_ok (ab_nx h))) = true) : Gy xs (some (.newarray .int, len)) mi pc L (.int n :: S) h Q = Gy xs (ab_at mi (pc + 2)) mi (pc + 2) L (.ref (ab_nx h) :: S) (ab_new h 10 n.toNatClampNeg []) Q := Gy_next fun _ => by unfold ab_step ab_newarr; exact if_pos h1
theorem Gy_newl {n : Int32} (h1 : 0 ≤ n ∧ n.toNatClampNeg ≤ 1000 ∧ ab_nx h < 1000 ∧ (L.all (fun v => (v.map (ab_ok (ab_nx h))).getD true) && S.all (ab_ok (ab_nx h))) = true) : Gy xs (some (.newarray .long, len)) mi pc L (.int n :: S) h Q = Gy xs (ab_at mi (pc + 2)) mi (pc + 2) L (.ref (ab_nx h) :: S) (ab_new h 11 n.toNatClampNeg []) Q := Gy_next fun _ => by unfold ab_step ab_newarr; exact if_pos h1
end RUY

theorem ab_put_int_12 {L : ab_L} {a0 a1 a2 a3 a4 a5 a6 a7 a8 a9 a10 a11 : Option Value} {b : Option Value} {x : Int32} : ab_put 12 (.int x) (a0 :: a1 :: a2 :: a3 :: a4 :: a5 :: a6 :: a7 :: a8 :: a9 :: a10 :: a11 :: b :: L) = a0 :: a1 :: a2 :: a3 :: a4 :: a5 :: a6 :: a7 :: a8 :: a9 :: a10 :: ab_kl a11 :: some (.int x) :: L := by
  rcases a11 with _ | v
  · rfl
  · cases v <;> rfl
theorem ab_put_ref_12 {L : ab_L} {a0 a1 a2 a3 a4 a5 a6 a7 a8 a9 a10 a11 : Option Value} {b : Option Value} {x : Nat} : ab_put 12 (.ref x) (a0 :: a1 :: a2 :: a3 :: a4 :: a5 :: a6 :: a7 :: a8 :: a9 :: a10 :: a11 :: b :: L) = a0 :: a1 :: a2 :: a3 :: a4 :: a5 :: a6 :: a7 :: a8 :: a9 :: a10 :: ab_kl a11 :: some (.ref x) :: L := by
  rcases a11 with _ | v
  · rfl
  · cases v <;> rfl
theorem ab_put_int_13 {L : ab_L} {a0 a1 a2 a3 a4 a5 a6 a7 a8 a9 a10 a11 a12 : Option Value} {b : Option Value} {x : Int32} : ab_put 13 (.int x) (a0 :: a1 :: a2 :: a3 :: a4 :: a5 :: a6 :: a7 :: a8 :: a9 :: a10 :: a11 :: a12 :: b :: L) = a0 :: a1 :: a2 :: a3 :: a4 :: a5 :: a6 :: a7 :: a8 :: a9 :: a10 :: a11 :: ab_kl a12 :: some (.int x) :: L := by
  rcases a12 with _ | v
  · rfl
  · cases v <;> rfl
theorem ab_put_ref_13 {L : ab_L} {a0 a1 a2 a3 a4 a5 a6 a7 a8 a9 a10 a11 a12 : Option Value} {b : Option Value} {x : Nat} : ab_put 13 (.ref x) (a0 :: a1 :: a2 :: a3 :: a4 :: a5 :: a6 :: a7 :: a8 :: a9 :: a10 :: a11 :: a12 :: b :: L) = a0 :: a1 :: a2 :: a3 :: a4 :: a5 :: a6 :: a7 :: a8 :: a9 :: a10 :: a11 :: ab_kl a12 :: some (.ref x) :: L := by
  rcases a12 with _ | v
  · rfl
  · cases v <;> rfl
theorem ab_put_int_14 {L : ab_L} {a0 a1 a2 a3 a4 a5 a6 a7 a8 a9 a10 a11 a12 a13 : Option Value} {b : Option Value} {x : Int32} : ab_put 14 (.int x) (a0 :: a1 :: a2 :: a3 :: a4 :: a5 :: a6 :: a7 :: a8 :: a9 :: a10 :: a11 :: a12 :: a13 :: b :: L) = a0 :: a1 :: a2 :: a3 :: a4 :: a5 :: a6 :: a7 :: a8 :: a9 :: a10 :: a11 :: a12 :: ab_kl a13 :: some (.int x) :: L := by
  rcases a13 with _ | v
  · rfl
  · cases v <;> rfl
theorem ab_put_ref_14 {L : ab_L} {a0 a1 a2 a3 a4 a5 a6 a7 a8 a9 a10 a11 a12 a13 : Option Value} {b : Option Value} {x : Nat} : ab_put 14 (.ref x) (a0 :: a1 :: a2 :: a3 :: a4 :: a5 :: a6 :: a7 :: a8 :: a9 :: a10 :: a11 :: a12 :: a13 :: b :: L) = a0 :: a1 :: a2 :: a3 :: a4 :: a5 :: a6 :: a7 :: a8 :: a9 :: a10 :: a11 :: a12 :: ab_kl a13 :: some (.ref x) :: L := by
  rcases a13 with _ | v
  · rfl
  · cases v <;> rfl
theorem ab_put_int_15 {L : ab_L} {a0 a1 a2 a3 a4 a5 a6 a7 a8 a9 a10 a11 a12 a13 a14 : Option Value} {b : Option Value} {x : Int32} : ab_put 15 (.int x) (a0 :: a1 :: a2 :: a3 :: a4 :: a5 :: a6 :: a7 :: a8 :: a9 :: a10 :: a11 :: a12 :: a13 :: a14 :: b :: L) = a0 :: a1 :: a2 :: a3 :: a4 :: a5 :: a6 :: a7 :: a8 :: a9 :: a10 :: a11 :: a12 :: a13 :: ab_kl a14 :: some (.int x) :: L := by
  rcases a14 with _ | v
  · rfl
  · cases v <;> rfl
theorem ab_put_ref_15 {L : ab_L} {a0 a1 a2 a3 a4 a5 a6 a7 a8 a9 a10 a11 a12 a13 a14 : Option Value} {b : Option Value} {x : Nat} : ab_put 15 (.ref x) (a0 :: a1 :: a2 :: a3 :: a4 :: a5 :: a6 :: a7 :: a8 :: a9 :: a10 :: a11 :: a12 :: a13 :: a14 :: b :: L) = a0 :: a1 :: a2 :: a3 :: a4 :: a5 :: a6 :: a7 :: a8 :: a9 :: a10 :: a11 :: a12 :: a13 :: ab_kl a14 :: some (.ref x) :: L := by
  rcases a14 with _ | v
  · rfl
  · cases v <;> rfl
theorem ab_put_int_16 {L : ab_L} {a0 a1 a2 a3 a4 a5 a6 a7 a8 a9 a10 a11 a12 a13 a14 a15 : Option Value} {b : Option Value} {x : Int32} : ab_put 16 (.int x) (a0 :: a1 :: a2 :: a3 :: a4 :: a5 :: a6 :: a7 :: a8 :: a9 :: a10 :: a11 :: a12 :: a13 :: a14 :: a15 :: b :: L) = a0 :: a1 :: a2 :: a3 :: a4 :: a5 :: a6 :: a7 :: a8 :: a9 :: a10 :: a11 :: a12 :: a13 :: a14 :: ab_kl a15 :: some (.int x) :: L := by
  rcases a15 with _ | v
  · rfl
  · cases v <;> rfl
theorem ab_put_ref_16 {L : ab_L} {a0 a1 a2 a3 a4 a5 a6 a7 a8 a9 a10 a11 a12 a13 a14 a15 : Option Value} {b : Option Value} {x : Nat} : ab_put 16 (.ref x) (a0 :: a1 :: a2 :: a3 :: a4 :: a5 :: a6 :: a7 :: a8 :: a9 :: a10 :: a11 :: a12 :: a13 :: a14 :: a15 :: b :: L) = a0 :: a1 :: a2 :: a3 :: a4 :: a5 :: a6 :: a7 :: a8 :: a9 :: a10 :: a11 :: a12 :: a13 :: a14 :: ab_kl a15 :: some (.ref x) :: L := by
  rcases a15 with _ | v
  · rfl
  · cases v <;> rfl
theorem ab_put_int_17 {L : ab_L} {a0 a1 a2 a3 a4 a5 a6 a7 a8 a9 a10 a11 a12 a13 a14 a15 a16 : Option Value} {b : Option Value} {x : Int32} : ab_put 17 (.int x) (a0 :: a1 :: a2 :: a3 :: a4 :: a5 :: a6 :: a7 :: a8 :: a9 :: a10 :: a11 :: a12 :: a13 :: a14 :: a15 :: a16 :: b :: L) = a0 :: a1 :: a2 :: a3 :: a4 :: a5 :: a6 :: a7 :: a8 :: a9 :: a10 :: a11 :: a12 :: a13 :: a14 :: a15 :: ab_kl a16 :: some (.int x) :: L := by
  rcases a16 with _ | v
  · rfl
  · cases v <;> rfl
theorem ab_put_ref_17 {L : ab_L} {a0 a1 a2 a3 a4 a5 a6 a7 a8 a9 a10 a11 a12 a13 a14 a15 a16 : Option Value} {b : Option Value} {x : Nat} : ab_put 17 (.ref x) (a0 :: a1 :: a2 :: a3 :: a4 :: a5 :: a6 :: a7 :: a8 :: a9 :: a10 :: a11 :: a12 :: a13 :: a14 :: a15 :: a16 :: b :: L) = a0 :: a1 :: a2 :: a3 :: a4 :: a5 :: a6 :: a7 :: a8 :: a9 :: a10 :: a11 :: a12 :: a13 :: a14 :: a15 :: ab_kl a16 :: some (.ref x) :: L := by
  rcases a16 with _ | v
  · rfl
  · cases v <;> rfl
theorem ab_put_int_18 {L : ab_L} {a0 a1 a2 a3 a4 a5 a6 a7 a8 a9 a10 a11 a12 a13 a14 a15 a16 a17 : Option Value} {b : Option Value} {x : Int32} : ab_put 18 (.int x) (a0 :: a1 :: a2 :: a3 :: a4 :: a5 :: a6 :: a7 :: a8 :: a9 :: a10 :: a11 :: a12 :: a13 :: a14 :: a15 :: a16 :: a17 :: b :: L) = a0 :: a1 :: a2 :: a3 :: a4 :: a5 :: a6 :: a7 :: a8 :: a9 :: a10 :: a11 :: a12 :: a13 :: a14 :: a15 :: a16 :: ab_kl a17 :: some (.int x) :: L := by
  rcases a17 with _ | v
  · rfl
  · cases v <;> rfl
theorem ab_put_ref_18 {L : ab_L} {a0 a1 a2 a3 a4 a5 a6 a7 a8 a9 a10 a11 a12 a13 a14 a15 a16 a17 : Option Value} {b : Option Value} {x : Nat} : ab_put 18 (.ref x) (a0 :: a1 :: a2 :: a3 :: a4 :: a5 :: a6 :: a7 :: a8 :: a9 :: a10 :: a11 :: a12 :: a13 :: a14 :: a15 :: a16 :: a17 :: b :: L) = a0 :: a1 :: a2 :: a3 :: a4 :: a5 :: a6 :: a7 :: a8 :: a9 :: a10 :: a11 :: a12 :: a13 :: a14 :: a15 :: a16 :: ab_kl a17 :: some (.ref x) :: L := by
  rcases a17 with _ | v
  · rfl
  · cases v <;> rfl
theorem ab_put_int_19 {L : ab_L} {a0 a1 a2 a3 a4 a5 a6 a7 a8 a9 a10 a11 a12 a13 a14 a15 a16 a17 a18 : Option Value} {b : Option Value} {x : Int32} : ab_put 19 (.int x) (a0 :: a1 :: a2 :: a3 :: a4 :: a5 :: a6 :: a7 :: a8 :: a9 :: a10 :: a11 :: a12 :: a13 :: a14 :: a15 :: a16 :: a17 :: a18 :: b :: L) = a0 :: a1 :: a2 :: a3 :: a4 :: a5 :: a6 :: a7 :: a8 :: a9 :: a10 :: a11 :: a12 :: a13 :: a14 :: a15 :: a16 :: a17 :: ab_kl a18 :: some (.int x) :: L := by
  rcases a18 with _ | v
  · rfl
  · cases v <;> rfl
theorem ab_put_ref_19 {L : ab_L} {a0 a1 a2 a3 a4 a5 a6 a7 a8 a9 a10 a11 a12 a13 a14 a15 a16 a17 a18 : Option Value} {b : Option Value} {x : Nat} : ab_put 19 (.ref x) (a0 :: a1 :: a2 :: a3 :: a4 :: a5 :: a6 :: a7 :: a8 :: a9 :: a10 :: a11 :: a12 :: a13 :: a14 :: a15 :: a16 :: a17 :: a18 :: b :: L) = a0 :: a1 :: a2 :: a3 :: a4 :: a5 :: a6 :: a7 :: a8 :: a9 :: a10 :: a11 :: a12 :: a13 :: a14 :: a15 :: a16 :: a17 :: ab_kl a18 :: some (.ref x) :: L := by
  rcases a18 with _ | v
  · rfl
  · cases v <;> rfl
theorem ab_put_int_20 {L : ab_L} {a0 a1 a2 a3 a4 a5 a6 a7 a8 a9 a10 a11 a12 a13 a14 a15 a16 a17 a18 a19 : Option Value} {b : Option Value} {x : Int32} : ab_put 20 (.int x) (a0 :: a1 :: a2 :: a3 :: a4 :: a5 :: a6 :: a7 :: a8 :: a9 :: a10 :: a11 :: a12 :: a13 :: a14 :: a15 :: a16 :: a17 :: a18 :: a19 :: b :: L) = a0 :: a1 :: a2 :: a3 :: a4 :: a5 :: a6 :: a7 :: a8 :: a9 :: a10 :: a11 :: a12 :: a13 :: a14 :: a15 :: a16 :: a17 :: a18 :: ab_kl a19 :: some (.int x) :: L := by
  rcases a19 with _ | v
  · rfl
  · cases v <;> rfl
theorem ab_put_ref_20 {L : ab_L} {a0 a1 a2 a3 a4 a5 a6 a7 a8 a9 a10 a11 a12 a13 a14 a15 a16 a17 a18 a19 : Option Value} {b : Option Value} {x : Nat} : ab_put 20 (.ref x) (a0 :: a1 :: a2 :: a3 :: a4 :: a5 :: a6 :: a7 :: a8 :: a9 :: a10 :: a11 :: a12 :: a13 :: a14 :: a15 :: a16 :: a17 :: a18 :: a19 :: b :: L) = a0 :: a1 :: a2 :: a3 :: a4 :: a5 :: a6 :: a7 :: a8 :: a9 :: a10 :: a11 :: a12 :: a13 :: a14 :: a15 :: a16 :: a17 :: a18 :: ab_kl a19 :: some (.ref x) :: L := by
  rcases a19 with _ | v
  · rfl
  · cases v <;> rfl
theorem ab_put_int_21 {L : ab_L} {a0 a1 a2 a3 a4 a5 a6 a7 a8 a9 a10 a11 a12 a13 a14 a15 a16 a17 a18 a19 a20 : Option Value} {b : Option Value} {x : Int32} : ab_put 21 (.int x) (a0 :: a1 :: a2 :: a3 :: a4 :: a5 :: a6 :: a7 :: a8 :: a9 :: a10 :: a11 :: a12 :: a13 :: a14 :: a15 :: a16 :: a17 :: a18 :: a19 :: a20 :: b :: L) = a0 :: a1 :: a2 :: a3 :: a4 :: a5 :: a6 :: a7 :: a8 :: a9 :: a10 :: a11 :: a12 :: a13 :: a14 :: a15 :: a16 :: a17 :: a18 :: a19 :: ab_kl a20 :: some (.int x) :: L := by
  rcases a20 with _ | v
  · rfl
  · cases v <;> rfl
theorem ab_put_ref_21 {L : ab_L} {a0 a1 a2 a3 a4 a5 a6 a7 a8 a9 a10 a11 a12 a13 a14 a15 a16 a17 a18 a19 a20 : Option Value} {b : Option Value} {x : Nat} : ab_put 21 (.ref x) (a0 :: a1 :: a2 :: a3 :: a4 :: a5 :: a6 :: a7 :: a8 :: a9 :: a10 :: a11 :: a12 :: a13 :: a14 :: a15 :: a16 :: a17 :: a18 :: a19 :: a20 :: b :: L) = a0 :: a1 :: a2 :: a3 :: a4 :: a5 :: a6 :: a7 :: a8 :: a9 :: a10 :: a11 :: a12 :: a13 :: a14 :: a15 :: a16 :: a17 :: a18 :: a19 :: ab_kl a20 :: some (.ref x) :: L := by
  rcases a20 with _ | v
  · rfl
  · cases v <;> rfl
theorem ab_put_int_22 {L : ab_L} {a0 a1 a2 a3 a4 a5 a6 a7 a8 a9 a10 a11 a12 a13 a14 a15 a16 a17 a18 a19 a20 a21 : Option Value} {b : Option Value} {x : Int32} : ab_put 22 (.int x) (a0 :: a1 :: a2 :: a3 :: a4 :: a5 :: a6 :: a7 :: a8 :: a9 :: a10 :: a11 :: a12 :: a13 :: a14 :: a15 :: a16 :: a17 :: a18 :: a19 :: a20 :: a21 :: b :: L) = a0 :: a1 :: a2 :: a3 :: a4 :: a5 :: a6 :: a7 :: a8 :: a9 :: a10 :: a11 :: a12 :: a13 :: a14 :: a15 :: a16 :: a17 :: a18 :: a19 :: a20 :: ab_kl a21 :: some (.int x) :: L := by
  rcases a21 with _ | v
  · rfl
  · cases v <;> rfl
theorem ab_put_ref_22 {L : ab_L} {a0 a1 a2 a3 a4 a5 a6 a7 a8 a9 a10 a11 a12 a13 a14 a15 a16 a17 a18 a19 a20 a21 : Option Value} {b : Option Value} {x : Nat} : ab_put 22 (.ref x) (a0 :: a1 :: a2 :: a3 :: a4 :: a5 :: a6 :: a7 :: a8 :: a9 :: a10 :: a11 :: a12 :: a13 :: a14 :: a15 :: a16 :: a17 :: a18 :: a19 :: a20 :: a21 :: b :: L) = a0 :: a1 :: a2 :: a3 :: a4 :: a5 :: a6 :: a7 :: a8 :: a9 :: a10 :: a11 :: a12 :: a13 :: a14 :: a15 :: a16 :: a17 :: a18 :: a19 :: a20 :: ab_kl a21 :: some (.ref x) :: L := by
  rcases a21 with _ | v
  · rfl
  · cases v <;> rfl
theorem ab_put_int_23 {L : ab_L} {a0 a1 a2 a3 a4 a5 a6 a7 a8 a9 a10 a11 a12 a13 a14 a15 a16 a17 a18 a19 a20 a21 a22 : Option Value} {b : Option Value} {x : Int32} : ab_put 23 (.int x) (a0 :: a1 :: a2 :: a3 :: a4 :: a5 :: a6 :: a7 :: a8 :: a9 :: a10 :: a11 :: a12 :: a13 :: a14 :: a15 :: a16 :: a17 :: a18 :: a19 :: a20 :: a21 :: a22 :: b :: L) = a0 :: a1 :: a2 :: a3 :: a4 :: a5 :: a6 :: a7 :: a8 :: a9 :: a10 :: a11 :: a12 :: a13 :: a14 :: a15 :: a16 :: a17 :: a18 :: a19 :: a20 :: a21 :: ab_kl a22 :: some (.int x) :: L := by
  rcases a22 with _ | v
  · rfl
  · cases v <;> rfl
theorem ab_put_ref_23 {L : ab_L} {a0 a1 a2 a3 a4 a5 a6 a7 a8 a9 a10 a11 a12 a13 a14 a15 a16 a17 a18 a19 a20 a21 a22 : Option Value} {b : Option Value} {x : Nat} : ab_put 23 (.ref x) (a0 :: a1 :: a2 :: a3 :: a4 :: a5 :: a6 :: a7 :: a8 :: a9 :: a10 :: a11 :: a12 :: a13 :: a14 :: a15 :: a16 :: a17 :: a18 :: a19 :: a20 :: a21 :: a22 :: b :: L) = a0 :: a1 :: a2 :: a3 :: a4 :: a5 :: a6 :: a7 :: a8 :: a9 :: a10 :: a11 :: a12 :: a13 :: a14 :: a15 :: a16 :: a17 :: a18 :: a19 :: a20 :: a21 :: ab_kl a22 :: some (.ref x) :: L := by
  rcases a22 with _ | v
  · rfl
  · cases v <;> rfl
end
section
/-! A METHOD THAT MAKES NOTHING RUNS THE SAME BESIDE MORE OBJECTS, and with a script at hand -/
abbrev ab_Sh : Type := List (Nat × Nat × List (Option Nat))
def ab_xt (E : ab_Sh) (h : ab_H) : ab_H := (h.1 ++ E, h.2.1, h.2.2)
section EXT
variable {E : ab_Sh} {h h' : ab_H} {sc : Option (List Int32)} {call call' : Nat → List Value → ab_H → Option (Option Value × ab_H)} {o k : Nat}
theorem xt_get (ho : o < h.1.length) : (ab_xt E h).1[o]? = h.1[o]? := List.getElem?_append_left ho
theorem xt_nx : ab_nx (ab_xt E h) = ab_nx h + E.length := List.length_append
theorem xt_sl : ab_sl (ab_xt E h) = ab_sl h + (E.map (fun x => x.2.1)).sum := by
  show ((h.1 ++ E).map (fun x => x.2.1)).sum = _
  rw [List.map_append, List.sum_append]
  rfl
theorem xt_r {kd : Nat} (hr : ab_ref h o kd = true) : o < h.1.length := (ab_refs hr).1
theorem xt_kd (ho : o < h.1.length) : ab_kd (ab_xt E h) o = ab_kd h o := by unfold ab_kd; rw [xt_get ho]
theorem xt_ln (ho : o < h.1.length) : ab_ln (ab_xt E h) o = ab_ln h o := by unfold ab_ln; rw [xt_get ho]
theorem xt_rf (ho : o < h.1.length) : ab_rf (ab_xt E h) o k = ab_rf h o k := by unfold ab_rf; rw [xt_get ho]
theorem xt_rl (ho : o < h.1.length) : ab_rl (ab_xt E h) o = ab_rl h o := by unfold ab_rl; rw [xt_get ho]
theorem xt_ref {kd : Nat} (hr : ab_ref h o kd = true) : ab_ref (ab_xt E h) o kd = true := by
  have ho := xt_r hr
  unfold ab_ref at hr ⊢
  rw [Bool.and_eq_true, decide_eq_true_eq, decide_eq_true_eq] at hr ⊢
  rw [xt_kd ho, xt_nx]
  exact ⟨by omega, hr.2⟩
theorem xt_ok1 {v : Value} (hv : ab_ok (ab_nx h) v = true) : ab_ok (ab_nx (ab_xt E h)) v = true := by
  cases v with
  | ref r =>
    unfold ab_ok at hv ⊢
    rw [Bool.or_eq_true, decide_eq_true_eq, decide_eq_true_eq] at hv ⊢
    rw [xt_nx]
    exact hv.imp (fun z => Nat.lt_of_lt_of_le z (Nat.le_add_right _ _)) id
  | _ => rfl
theorem xt_okS {S : List Value} (hv : S.all (ab_ok (ab_nx h)) = true) : S.all (ab_ok (ab_nx (ab_xt E h))) = true :=
  List.all_eq_true.mpr fun v hm => xt_ok1 (List.all_eq_true.mp hv v hm)
theorem xt_okL {L : ab_L} (hv : L.all (fun v => (v.map (ab_ok (ab_nx h))).getD true) = true) : L.all (fun v => (v.map (ab_ok (ab_nx (ab_xt E h)))).getD true) = true := by
  refine List.all_eq_true.mpr fun v hm => ?_
  have := List.all_eq_true.mp hv v hm
  cases v with
  | none => rfl
  | some v => exact xt_ok1 this
theorem xt_lt {v : Value} (hv : ab_lt (ab_nx h) v = true) : ab_lt (ab_nx (ab_xt E h)) v = true := by
  cases v with
  | ref r =>
    unfold ab_lt at hv ⊢
    rw [decide_eq_true_eq] at hv ⊢
    rw [xt_nx]
    exact Nat.lt_of_lt_of_le hv (Nat.le_add_right _ _)
  | _ => rfl
theorem xt_rlok {v : Value} (ho : o < h.1.length) (hv : ab_rlok h o k v = true) : ab_rlok (ab_xt E h) o k v = true := by
  cases v with
  | ref r =>
    unfold ab_rlok at hv ⊢
    rw [xt_rl ho]
    exact hv
  | _ => rfl
theorem xt_setr {r : Nat} (ho : o < h.1.length) : ab_setr (ab_xt E h) o k r = ab_xt E (ab_setr h o k r) := by
  unfold ab_setr
  rw [xt_get ho]
  cases hx : h.1[o]? with
  | none => rfl
  | some x =>
    simp only [ab_xt]
    rw [List.set_append_left _ _ ho]
theorem xt_setv {v : Value} (ho : o < h.1.length) : ab_setv (ab_xt E h) o k v = ab_xt E (ab_setv h o k v) := by
  cases v <;> first | rfl | exact xt_setr ho
theorem xt_gv {ty : FieldType} (ho : o < h.1.length) : ab_gv (ab_xt E h) o k ty = ab_gv h o k ty := by
  cases ty <;> first | rfl | exact congrArg va_rf (xt_rf ho)
def ab_xC (E : ab_Sh) (call call' : Nat → List Value → ab_H → Option (Option Value × ab_H)) : Prop := ∀ mi vs h r h', call mi vs h = some (r, h') → h'.1.length = h.1.length → call' mi vs (ab_xt E h) = some (r, ab_xt E h')
theorem xt_call (hC : ab_xC E call call') {mi pc pc' : Nat} {vs rest S' : List Value} {L L' : ab_L} (hs : ab_call call mi vs pc L rest h = some (.inl (pc', L', S', h'))) (hl : h'.1.length = h.1.length) : ab_call call' mi vs pc L rest (ab_xt E h) = some (.inl (pc', L', S', ab_xt E h')) := by
  unfold ab_call at hs ⊢
  split at hs
  · rename_i hc
    rw [if_pos hc]
    cases hcl : call mi vs h with
    | none => rw [hcl] at hs; cases hs
    | some x =>
      obtain ⟨rv, h2⟩ := x
      rw [hcl] at hs
      simp only at hs
      split at hs
      · rename_i hcc
        cases hs
        rw [hC _ _ _ _ _ hcl hl]
        simp only
        refine if_pos ?_
        rw [xt_nx, xt_nx, xt_sl, xt_sl]
        rcases hcc with z | ⟨z1, z2, z3⟩
        · exact Or.inl ⟨by omega, by omega⟩
        · rw [Bool.and_eq_true] at z3
          refine Or.inr ⟨by omega, by omega, ?_⟩
          rw [Bool.and_eq_true, ← xt_nx]
          exact ⟨xt_okL z3.1, xt_okS z3.2⟩
      · cases hs
  · cases hs
theorem xt_inv (hC : ab_xC E call call') {own i pc pc' : Nat} {virt : Bool} {S S' : List Value} {L L' : ab_L} (hs : ab_inv call own i virt pc L S h = some (.inl (pc', L', S', h'))) (hl : h'.1.length = h.1.length) : ab_inv call' own i virt pc L S (ab_xt E h) = some (.inl (pc', L', S', ab_xt E h')) := by
  unfold ab_inv at hs ⊢
  cases hm : ab_ml own i with
  | none => rw [hm] at hs; cases hs
  | some x =>
    obtain ⟨mi, kd⟩ := x
    rw [hm] at hs
    simp only at hs ⊢
    cases virt with
    | true =>
      simp only [if_true] at hs ⊢
      by_cases hk : kd = 0
      · simp only [if_pos hk] at hs ⊢
        cases hd : S.drop (ab_np mi) with
        | nil => rw [hd] at hs; cases hs
        | cons b rest =>
          rw [hd] at hs
          cases b <;> first | (cases hs; done) | skip
          rename_i b
          simp only at hs ⊢
          split at hs
          · rename_i hc
            rw [Bool.and_eq_true, Bool.and_eq_true] at hc
            rw [if_pos (by rw [xt_ref hc.1.1, hc.1.2, xt_okS hc.2]; rfl)]
            exact xt_call hC hs hl
          · cases hs
      · simp only [if_neg hk] at hs ⊢
        by_cases hk8 : kd = 8
        · simp only [if_pos hk8] at hs ⊢
          split at hs
          · split at hs
            · rename_i hc
              cases hs
              exact if_pos hc
            · cases hs
          · cases hs
        · simp only [if_neg hk8] at hs ⊢
          by_cases hk9 : kd = 9
          · simp only [if_pos hk9] at hs ⊢
            split at hs
            · split at hs
              · rename_i hc
                cases hs
                exact if_pos hc
              · cases hs
            · cases hs
          · simp only [if_neg hk9] at hs
            cases hs
    | false =>
      simp only [Bool.false_eq_true, if_false] at hs ⊢
      by_cases hk : kd = 1 ∨ kd = 2
      · simp only [if_pos hk] at hs ⊢
        split at hs
        · rename_i hc
          rw [if_pos ⟨hc.1, xt_okS hc.2⟩]
          exact xt_call hC hs hl
        · cases hs
      · simp only [if_neg hk] at hs ⊢
        by_cases hk6 : kd = 6
        · simp only [if_pos hk6] at hs ⊢
          split at hs
          · split at hs
            · rename_i hc
              cases hs
              simp only [Bool.and_eq_true, decide_eq_true_eq] at hc
              obtain ⟨⟨⟨⟨⟨⟨⟨c1, c2⟩, c3⟩, c4⟩, c5⟩, c6⟩, c7⟩, c8⟩ := hc
              refine if_pos ?_
              simp only [Bool.and_eq_true, decide_eq_true_eq]
              rw [xt_ln (xt_r c1), xt_ln (xt_r c2)]
              exact ⟨⟨⟨⟨⟨⟨⟨xt_ref c1, xt_ref c2⟩, c3⟩, c4⟩, c5⟩, c6⟩, c7⟩, c8⟩
            · cases hs
          · cases hs
        · simp only [if_neg hk6] at hs ⊢
          by_cases hk7 : kd = 7
          · simp only [if_pos hk7] at hs ⊢
            split at hs
            · split at hs
              · rename_i hc
                cases hs
                exact if_pos hc
              · cases hs
            · cases hs
          · simp only [if_neg hk7] at hs
            cases hs
theorem xt_spc (hC : ab_xC E call call') {own i pc pc' : Nat} {S S' : List Value} {L L' : ab_L} (hs : ab_spc call own i pc L S h = some (.inl (pc', L', S', h'))) (hl : h'.1.length = h.1.length) : ab_spc call' own i pc L S (ab_xt E h) = some (.inl (pc', L', S', ab_xt E h')) := by
  unfold ab_spc at hs ⊢
  cases hm : ab_ml own i with
  | none => rw [hm] at hs; cases hs
  | some x =>
    obtain ⟨mi, kd⟩ := x
    rw [hm] at hs
    simp only at hs ⊢
    by_cases hk5 : kd = 5
    · simp only [if_pos hk5] at hs ⊢
      split at hs
      · split at hs
        · rename_i hc
          cases hs
          exact if_pos hc
        · cases hs
      · cases hs
    · simp only [if_neg hk5] at hs ⊢
      by_cases hk : kd = 3 ∨ kd = 4
      · simp only [if_pos hk] at hs ⊢
        split at hs
        · split at hs
          · rename_i hc
            rw [if_pos ⟨hc.1, xt_ref hc.2.1, hc.2.2⟩]
            exact xt_call hC hs hl
          · cases hs
        · cases hs
      · simp only [if_neg hk] at hs
        cases hs
theorem xt_go {pc pc' : Nat} {off : Int} {S S' : List Value} {L L' : ab_L} (hs : ab_go pc off L S h = some (.inl (pc', L', S', h'))) : ab_go pc off L S (ab_xt E h) = some (.inl (pc', L', S', ab_xt E h')) := by
  unfold ab_go at hs ⊢
  split at hs
  · rename_i hc
    cases hs
    exact if_pos hc
  · cases hs
set_option maxHeartbeats 4000000 in
theorem xt_step (hC : ab_xC E call call') {own len pc pc' : Nat} {ini : Bool} {ret : Option FieldType} {ins : Instr} {L L' : ab_L} {S S' : List Value} (hs : ab_step call own ini ret none ins len pc L S h = some (.inl (pc', L', S', h'))) (hl : h'.1.length = h.1.length) : ab_step call' own ini ret sc ins len pc L S (ab_xt E h) = some (.inl (pc', L', S', ab_xt E h')) := by
  unfold ab_step at hs ⊢
  cases ins with
  | iconst n =>
    dsimp only at hs ⊢
    cases hs
    rfl
  | bipush n =>
    dsimp only at hs ⊢
    cases hs
    rfl
  | sipush n =>
    dsimp only at hs ⊢
    cases hs
    rfl
  | lconst n =>
    dsimp only at hs ⊢
    cases hs
    rfl
  | iload_n j =>
    dsimp only at hs ⊢
    split at hs
    · rename_i x hv
      cases hs
      simp only [hv]
    · cases hs
  | iload j =>
    dsimp only at hs ⊢
    split at hs
    · rename_i x hv
      cases hs
      simp only [hv]
    · cases hs
  | lload_n j =>
    dsimp only at hs ⊢
    split at hs
    · rename_i x hv
      cases hs
      simp only [hv]
    · cases hs
  | lload j =>
    dsimp only at hs ⊢
    split at hs
    · rename_i x hv
      cases hs
      simp only [hv]
    · cases hs
  | aload_n j =>
    dsimp only at hs ⊢
    split at hs
    · rename_i x hv
      cases hs
      simp only [hv]
    · cases hs
  | aload j =>
    dsimp only at hs ⊢
    split at hs
    · rename_i x hv
      cases hs
      simp only [hv]
    · cases hs
  | ldc i =>
    dsimp only at hs ⊢
    split at hs
    · rename_i v hv
      cases hs
      simp only [hv]
    · split at hs
      · rename_i k hk
        cases hs
        simp only [hk]
      · cases hs
  | ldc_w i =>
    dsimp only at hs ⊢
    split at hs
    · rename_i v hv
      cases hs
      simp only [hv]
    · cases hs
  | ldc2_w i =>
    dsimp only at hs ⊢
    split at hs
    · rename_i v hv
      cases hs
      simp only [hv]
    · cases hs
  | iadd =>
    dsimp only at hs ⊢
    split at hs
    · cases hs
      rfl
    · cases hs
  | isub =>
    dsimp only at hs ⊢
    split at hs
    · cases hs
      rfl
    · cases hs
  | imul =>
    dsimp only at hs ⊢
    split at hs
    · cases hs
      rfl
    · cases hs
  | iand =>
    dsimp only at hs ⊢
    split at hs
    · cases hs
      rfl
    · cases hs
  | ior =>
    dsimp only at hs ⊢
    split at hs
    · cases hs
      rfl
    · cases hs
  | ixor =>
    dsimp only at hs ⊢
    split at hs
    · cases hs
      rfl
    · cases hs
  | ishl =>
    dsimp only at hs ⊢
    split at hs
    · cases hs
      rfl
    · cases hs
  | ishr =>
    dsimp only at hs ⊢
    split at hs
    · cases hs
      rfl
    · cases hs
  | iushr =>
    dsimp only at hs ⊢
    split at hs
    · cases hs
      rfl
    · cases hs
  | ladd =>
    dsimp only at hs ⊢
    split at hs
    · cases hs
      rfl
    · cases hs
  | lsub =>
    dsimp only at hs ⊢
    split at hs
    · cases hs
      rfl
    · cases hs
  | lmul =>
    dsimp only at hs ⊢
    split at hs
    · cases hs
      rfl
    · cases hs
  | lneg =>
    dsimp only at hs ⊢
    split at hs
    · cases hs
      rfl
    · cases hs
  | lshr =>
    dsimp only at hs ⊢
    split at hs
    · cases hs
      rfl
    · cases hs
  | lcmp =>
    dsimp only at hs ⊢
    split at hs
    · cases hs
      rfl
    · cases hs
  | i2l =>
    dsimp only at hs ⊢
    split at hs
    · cases hs
      rfl
    · cases hs
  | l2i =>
    dsimp only at hs ⊢
    split at hs
    · cases hs
      rfl
    · cases hs
  | i2b =>
    dsimp only at hs ⊢
    split at hs
    · cases hs
      rfl
    · cases hs
  | i2s =>
    dsimp only at hs ⊢
    split at hs
    · cases hs
      rfl
    · cases hs
  | istore_n j =>
    dsimp only at hs ⊢
    split at hs
    · split at hs
      · rename_i hc
        cases hs
        exact if_pos hc
      · cases hs
    · cases hs
  | istore j =>
    dsimp only at hs ⊢
    split at hs
    · split at hs
      · rename_i hc
        cases hs
        exact if_pos hc
      · cases hs
    · cases hs
  | lstore_n j =>
    dsimp only at hs ⊢
    split at hs
    · split at hs
      · rename_i hc
        cases hs
        exact if_pos hc
      · cases hs
    · cases hs
  | lstore j =>
    dsimp only at hs ⊢
    split at hs
    · split at hs
      · rename_i hc
        cases hs
        exact if_pos hc
      · cases hs
    · cases hs
  | astore_n j =>
    dsimp only at hs ⊢
    split at hs
    · split at hs
      · rename_i hc
        cases hs
        exact if_pos hc
      · cases hs
    · cases hs
  | astore j =>
    dsimp only at hs ⊢
    split at hs
    · split at hs
      · rename_i hc
        cases hs
        exact if_pos hc
      · cases hs
    · cases hs
  | dup =>
    dsimp only at hs ⊢
    split at hs
    · split at hs
      · rename_i hc
        cases hs
        exact if_pos hc
      · cases hs
    · cases hs
  | dup2 =>
    dsimp only at hs ⊢
    split at hs
    · split at hs
      · rename_i hc
        cases hs
        exact if_pos hc
      · cases hs
    · cases hs
  | pop =>
    dsimp only at hs ⊢
    split at hs
    · split at hs
      · rename_i hc
        cases hs
        exact if_pos hc
      · cases hs
    · cases hs
  | pop2 =>
    dsimp only at hs ⊢
    split at hs
    · split at hs
      · rename_i hc
        cases hs
        exact if_pos hc
      · cases hs
    · cases hs
  | if_icmp c off =>
    dsimp only at hs ⊢
    split at hs
    · split at hs
      · rename_i hc
        cases hs
        exact if_pos hc
      · cases hs
    · cases hs
  | ifCond c off =>
    dsimp only at hs ⊢
    split at hs
    · split at hs
      · rename_i hc
        cases hs
        exact if_pos hc
      · cases hs
    · cases hs
  | irem =>
    dsimp only at hs ⊢
    split at hs
    · split at hs
      · cases hs
      · rename_i hc
        cases hs
        exact if_neg hc
    · cases hs
  | idiv =>
    dsimp only at hs ⊢
    split at hs
    · split at hs
      · cases hs
      · rename_i hc
        cases hs
        exact if_neg hc
    · cases hs
  | ldiv =>
    dsimp only at hs ⊢
    split at hs
    · split at hs
      · cases hs
      · rename_i hc
        cases hs
        exact if_neg hc
    · cases hs
  | iinc j n =>
    dsimp only at hs ⊢
    split at hs
    · rename_i x hv
      split at hs
      · rename_i hc
        cases hs
        exact if_pos hc
      · cases hs
    · cases hs
  | goto off =>
    dsimp only at hs ⊢
    exact xt_go hs
  | tableswitch dflt lo hi offs =>
    dsimp only at hs ⊢
    split at hs
    · split at hs
      · rename_i hc
        rw [if_pos hc]
        exact xt_go hs
      · rename_i hc
        rw [if_neg hc]
        split at hs
        · exact xt_go hs
        · cases hs
    · cases hs
  | lookupswitch dflt ps =>
    dsimp only at hs ⊢
    split at hs
    · split at hs
      · rename_i hc
        rw [if_pos hc]
        exact xt_go hs
      · cases hs
    · cases hs
  | getfield i =>
    dsimp only at hs ⊢
    split at hs
    · rename_i ci k o S2 hf
      split at hs
      · rename_i hc
        cases hs
        simp only [Bool.and_eq_true, decide_eq_true_eq] at hc
        rw [if_pos (by simp only [Bool.and_eq_true, decide_eq_true_eq]; exact ⟨⟨xt_ref hc.1.1, hc.1.2⟩, hc.2⟩), xt_gv (xt_r hc.1.1)]
      · cases hs
    · cases hs
  | putfield i =>
    dsimp only at hs ⊢
    split at hs
    · rename_i ci k v o S2 hf
      split at hs
      · rename_i hc
        cases hs
        simp only [Bool.and_eq_true, Bool.or_eq_true, Bool.not_eq_true', decide_eq_true_eq] at hc
        obtain ⟨⟨⟨⟨⟨⟨c1, c2⟩, c3⟩, c4⟩, c5⟩, c6⟩, c7⟩ := hc
        rw [if_pos (by simp only [Bool.and_eq_true, Bool.or_eq_true, Bool.not_eq_true', decide_eq_true_eq]; exact ⟨⟨⟨⟨⟨⟨xt_ref c1, c2⟩, c3⟩, c4⟩, xt_rlok (xt_r c1) c5⟩, xt_lt c6⟩, c7⟩), xt_setv (xt_r c1)]
      · cases hs
    · cases hs
  | iaload =>
    dsimp only at hs ⊢
    split at hs
    · rename_i i o S2
      split at hs
      · cases hs
      · rename_i ho
        rw [if_neg ho]
        split at hs
        · rename_i hc
          cases hs
          rw [Bool.and_eq_true] at hc
          refine if_pos ?_
          rw [xt_ref hc.1, xt_ln (xt_r hc.1), hc.2]
          rfl
        · cases hs
    · cases hs
  | laload =>
    dsimp only at hs ⊢
    split at hs
    · split at hs
      · rename_i hc
        cases hs
        rw [Bool.and_eq_true] at hc
        refine if_pos ?_
        rw [xt_ref hc.1, xt_ln (xt_r hc.1), hc.2]
        rfl
      · cases hs
    · cases hs
  | baload =>
    dsimp only at hs ⊢
    split at hs
    · split at hs
      · rename_i hc
        cases hs
        rw [Bool.and_eq_true, Bool.or_eq_true] at hc
        refine if_pos ?_
        rw [Bool.and_eq_true, Bool.or_eq_true]
        rcases hc.1 with z | z
        · exact ⟨Or.inl (xt_ref z), by rw [xt_ln (xt_r z)]; exact hc.2⟩
        · exact ⟨Or.inr (xt_ref z), by rw [xt_ln (xt_r z)]; exact hc.2⟩
      · cases hs
    · cases hs
  | aaload =>
    dsimp only at hs ⊢
    split at hs
    · split at hs
      · rename_i hc
        cases hs
        rw [Bool.and_eq_true, Bool.or_eq_true] at hc
        have hlt := hc.1.elim xt_r xt_r
        rw [if_pos (by
          rw [Bool.and_eq_true, Bool.or_eq_true, xt_ln hlt]
          exact ⟨hc.1.imp xt_ref xt_ref, hc.2⟩), xt_rf hlt]
      · cases hs
    · cases hs
  | iastore =>
    dsimp only at hs ⊢
    split at hs
    · split at hs
      · rename_i hc
        cases hs
        rw [Bool.and_eq_true] at hc
        refine if_pos ?_
        rw [xt_ref hc.1, xt_ln (xt_r hc.1), hc.2]
        rfl
      · cases hs
    · cases hs
  | lastore =>
    dsimp only at hs ⊢
    split at hs
    · split at hs
      · rename_i hc
        cases hs
        rw [Bool.and_eq_true] at hc
        refine if_pos ?_
        rw [xt_ref hc.1, xt_ln (xt_r hc.1), hc.2]
        rfl
      · cases hs
    · cases hs
  | bastore =>
    dsimp only at hs ⊢
    split at hs
    · split at hs
      · rename_i hc
        cases hs
        rw [Bool.and_eq_true, Bool.or_eq_true] at hc
        have hlt := hc.1.elim xt_r xt_r
        rw [if_pos (by
          rw [Bool.and_eq_true, Bool.or_eq_true, xt_ln hlt]
          exact ⟨hc.1.imp xt_ref xt_ref, hc.2⟩), xt_kd hlt]
        rfl
      · cases hs
    · cases hs
  | aastore =>
    dsimp only at hs ⊢
    split at hs
    · split at hs
      · rename_i hc
        cases hs
        simp only [Bool.and_eq_true, decide_eq_true_eq] at hc
        rw [if_pos (by simp only [Bool.and_eq_true, decide_eq_true_eq]; rw [xt_ln (xt_r hc.1.1.1), xt_rl (xt_r hc.1.1.1)]; exact ⟨⟨⟨xt_ref hc.1.1.1, xt_ref hc.1.1.2⟩, hc.1.2⟩, hc.2⟩), xt_setr (xt_r hc.1.1.1)]
      · cases hs
    · cases hs
  | arraylength =>
    dsimp only at hs ⊢
    split at hs
    · split at hs
      · cases hs
      · cases hs
    · cases hs
  | new i =>
    dsimp only at hs ⊢
    split at hs
    · split at hs
      · cases hs
        exfalso
        have e : (h.1 ++ _).length = h.1.length := hl
        rw [List.length_append] at e
        simp at e
      · cases hs
    · cases hs
  | newarray ty =>
    dsimp only at hs ⊢
    split at hs
    · unfold ab_newarr at hs
      split at hs
      · split at hs
        all_goals first | (cases hs; exfalso; have e : (h.1 ++ _).length = h.1.length := hl; rw [List.length_append] at e; simp at e; done) | cases hs
      · cases hs
    · cases hs
  | anewarray i =>
    dsimp only at hs ⊢
    split at hs
    · split at hs
      · cases hs
        exfalso
        have e : (h.1 ++ _).length = h.1.length := hl
        rw [List.length_append] at e
        simp at e
      · cases hs
    · cases hs
  | multianewarray i d =>
    dsimp only at hs ⊢
    split at hs
    · split at hs
      · cases hs
        exfalso
        have e : (h.1 ++ _).length = h.1.length := hl
        rw [List.length_append] at e
        simp at e
      · cases hs
    · cases hs
  | ireturn =>
    dsimp only at hs ⊢
    exfalso
    unfold ab_ret at hs
    repeat' (first | (cases hs; done) | split at hs)
  | lreturn =>
    dsimp only at hs ⊢
    exfalso
    repeat' (first | (cases hs; done) | split at hs)
  | return_ =>
    dsimp only at hs ⊢
    exfalso
    repeat' (first | (cases hs; done) | split at hs)
  | invokevirtual i =>
    dsimp only at hs ⊢
    exact xt_inv hC hs hl
  | invokestatic i =>
    dsimp only at hs ⊢
    exact xt_inv hC hs hl
  | invokespecial i =>
    dsimp only at hs ⊢
    exact xt_spc hC hs hl
  | _ => cases hs
theorem xt_end {own len pc : Nat} {ini : Bool} {ret : Option FieldType} {ins : Instr} {L : ab_L} {S : List Value} {x : Option Value × ab_H} (hs : ab_step call own ini ret none ins len pc L S h = some (.inr x)) : ab_step call' own ini ret sc ins len pc L S (ab_xt E h) = some (.inr (x.1, ab_xt E x.2)) := by
  rcases ab_step_ret hs with ⟨v, ty, rfl, rfl, rfl, hn, rfl⟩ | ⟨v, rfl, rfl, rfl, rfl⟩ | ⟨rfl, rfl, rfl, rfl⟩
  · unfold ab_step ab_ret
    exact if_pos hn
  · unfold ab_step
    exact if_pos rfl
  · unfold ab_step
    exact if_pos rfl
theorem xt_mono {code : Nat → Option (Instr × Nat)} {own : Nat} {ini : Bool} {ret : Option FieldType} {x : Option Value × ab_H} : ∀ (n : Nat) (F : ab_F), ab_loop call code own ini ret sc n F = some x → ab_nx F.2.2.2 ≤ ab_nx x.2 := by
  intro n
  induction n with
  | zero => intro F hF; cases hF
  | succ n ih =>
    intro F hF
    obtain ⟨pc, L, S, h⟩ := F
    unfold ab_loop at hF
    split at hF
    · split at hF
      · rename_i st hst
        exact Nat.le_trans (ab_step_mono hst).1 (ih st hF)
      · rename_i r hst
        cases hF
        rcases ab_step_ret hst with ⟨v, ty, -, -, -, -, rfl⟩ | ⟨v, -, -, -, rfl⟩ | ⟨-, -, -, rfl⟩ <;> exact Nat.le_refl _
      · cases hF
    · cases hF
theorem xt_loop (hC : ab_xC E call call') {code : Nat → Option (Instr × Nat)} {own : Nat} {ini : Bool} {ret : Option FieldType} {x : Option Value × ab_H} : ∀ (n : Nat) (F : ab_F), ab_loop call code own ini ret none n F = some x → x.2.1.length = F.2.2.2.1.length → ab_loop call' code own ini ret sc n (F.1, F.2.1, F.2.2.1, ab_xt E F.2.2.2) = some (x.1, ab_xt E x.2) := by
  intro n
  induction n with
  | zero => intro F hF; cases hF
  | succ n ih =>
    intro F hF hl
    obtain ⟨pc, L, S, h⟩ := F
    unfold ab_loop at hF ⊢
    dsimp only
    split at hF
    · rename_i ins len hpc
      split at hF
      · rename_i st hst
        have m1 : h.1.length ≤ st.2.2.2.1.length := (ab_step_mono hst).1
        have m2 : st.2.2.2.1.length ≤ x.2.1.length := xt_mono n st hF
        have hl : x.2.1.length = h.1.length := hl
        obtain ⟨pc', L', S', h'⟩ := st
        have m1 : h.1.length ≤ h'.1.length := m1
        have m2 : h'.1.length ≤ x.2.1.length := m2
        rw [xt_step hC hst (by omega)]
        exact ih _ hF (by show x.2.1.length = h'.1.length; omega)
      · rename_i r hst
        cases hF
        rw [xt_end hst]
      · cases hF
    · cases hF
theorem xt_ex (E : ab_Sh) (sc : Option (List Int32)) : ∀ n, ab_xC E (ab_ex none n) (ab_ex sc n) := by
  intro n
  induction n with
  | zero => intro mi vs h r h' hx; cases hx
  | succ n ih =>
    intro mi vs h r h' hx hl
    unfold ab_ex at hx ⊢
    split at hx
    · rename_i hc
      rw [if_pos hc]
      exact xt_loop (x := (r, h')) ih n _ hx hl
    · cases hx
/-- a contract of the class, beside more objects -/
theorem Ey_of {xs : List Int32} {mi : Nat} {vs : List Value} {sh : ab_Sh} {I : Nat → Nat → Int32} {J : Nat → Nat → Int64} {Q : Option Value → ab_H → Prop} (z : Ex mi vs (sh, I, J) (fun r h' => ∃ I' J', h' = (sh, I', J') ∧ Q r (sh ++ E, I', J'))) : Ey xs mi vs (sh ++ E, I, J) Q := by
  obtain ⟨n, r, h', h1, I', J', rfl, h2⟩ := z
  exact ⟨n, r, _, xt_ex E (some xs) n mi vs (sh, I, J) r (sh, I', J') h1 rfl, h2⟩
end EXT
end
