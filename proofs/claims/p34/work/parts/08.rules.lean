/-! RULES: what an instruction asks, and where it leads -/
section RUL
variable {mi pc len : Nat} {L : ab_L} {S : List Value} {h : ab_H} {Q : Option Value → ab_H → Prop}
theorem Go_iconst {n : Int} : Go (some (.iconst n, len)) mi pc (L) (S) h Q = Go (ab_at mi (pc + 1)) mi (pc + 1) (L) (.int (Int32.ofInt n) :: S) h Q := Go_next fun _ => rfl
theorem Go_bipush {n : Int} : Go (some (.bipush n, len)) mi pc (L) (S) h Q = Go (ab_at mi (pc + 2)) mi (pc + 2) (L) (.int (Int8.ofInt n).toInt32 :: S) h Q := Go_next fun _ => rfl
theorem Go_sipush {n : Int} : Go (some (.sipush n, len)) mi pc (L) (S) h Q = Go (ab_at mi (pc + 3)) mi (pc + 3) (L) (.int (Int16.ofInt n).toInt32 :: S) h Q := Go_next fun _ => rfl
theorem Go_lconst {n : Fin 2} : Go (some (.lconst n, len)) mi pc (L) (S) h Q = Go (ab_at mi (pc + 1)) mi (pc + 1) (L) (.long (Int64.ofNat n) :: S) h Q := Go_next fun _ => rfl
theorem Go_iload_0 {x : Int32} : Go (some (.iload_n 0, len)) mi pc (some (.int x) :: L) (S) h Q = Go (ab_at mi (pc + 1)) mi (pc + 1) (some (.int x) :: L) (.int x :: S) h Q := Go_next fun _ => rfl
theorem Go_lload_0 {x : Int64} : Go (some (.lload_n 0, len)) mi pc (some (.long x) :: L) (S) h Q = Go (ab_at mi (pc + 1)) mi (pc + 1) (some (.long x) :: L) (.long x :: S) h Q := Go_next fun _ => rfl
theorem Go_aload_0 {x : Nat} : Go (some (.aload_n 0, len)) mi pc (some (.ref x) :: L) (S) h Q = Go (ab_at mi (pc + 1)) mi (pc + 1) (some (.ref x) :: L) (.ref x :: S) h Q := Go_next fun _ => rfl
theorem Go_istore_0 {b : Option Value} {x : Int32} : Go (some (.istore_n 0, len)) mi pc (b :: L) (.int x :: S) h Q = Go (ab_at mi (pc + 1)) mi (pc + 1) (ab_put 0 (.int x) (b :: L)) (S) h Q := Go_next fun _ => by unfold ab_step; exact if_pos (show 0 < List.length (b :: L) by simp)
theorem Go_astore_0 {b : Option Value} {x : Nat} : Go (some (.astore_n 0, len)) mi pc (b :: L) (.ref x :: S) h Q = Go (ab_at mi (pc + 1)) mi (pc + 1) (ab_put 0 (.ref x) (b :: L)) (S) h Q := Go_next fun _ => by unfold ab_step; exact if_pos (show 0 < List.length (b :: L) by simp)
theorem Go_lstore_0 {b b2 : Option Value} {x : Int64} : Go (some (.lstore_n 0, len)) mi pc (b :: b2 :: L) (.long x :: S) h Q = Go (ab_at mi (pc + 1)) mi (pc + 1) (ab_put 0 (.long x) (b :: b2 :: L)) (S) h Q := Go_next fun _ => by unfold ab_step; exact if_pos (show 1 < List.length (b :: b2 :: L) by simp)
theorem Go_iinc_0 {x : Int32} {n : Int} : Go (some (.iinc 0 n, len)) mi pc (some (.int x) :: L) (S) h Q = Go (ab_at mi (pc + 3)) mi (pc + 3) (ab_put 0 (.int (x + Int32.ofInt n)) (some (.int x) :: L)) (S) h Q := Go_next fun _ => by unfold ab_step; exact if_pos (show 0 < List.length (some (.int x) :: L) by simp)
theorem Go_iload_1 {a0 : Option Value} {x : Int32} : Go (some (.iload_n 1, len)) mi pc (a0 :: some (.int x) :: L) (S) h Q = Go (ab_at mi (pc + 1)) mi (pc + 1) (a0 :: some (.int x) :: L) (.int x :: S) h Q := Go_next fun _ => rfl
theorem Go_lload_1 {a0 : Option Value} {x : Int64} : Go (some (.lload_n 1, len)) mi pc (a0 :: some (.long x) :: L) (S) h Q = Go (ab_at mi (pc + 1)) mi (pc + 1) (a0 :: some (.long x) :: L) (.long x :: S) h Q := Go_next fun _ => rfl
theorem Go_aload_1 {a0 : Option Value} {x : Nat} : Go (some (.aload_n 1, len)) mi pc (a0 :: some (.ref x) :: L) (S) h Q = Go (ab_at mi (pc + 1)) mi (pc + 1) (a0 :: some (.ref x) :: L) (.ref x :: S) h Q := Go_next fun _ => rfl
theorem Go_istore_1 {a0 : Option Value} {b : Option Value} {x : Int32} : Go (some (.istore_n 1, len)) mi pc (a0 :: b :: L) (.int x :: S) h Q = Go (ab_at mi (pc + 1)) mi (pc + 1) (ab_put 1 (.int x) (a0 :: b :: L)) (S) h Q := Go_next fun _ => by unfold ab_step; exact if_pos (show 1 < List.length (a0 :: b :: L) by simp)
theorem Go_astore_1 {a0 : Option Value} {b : Option Value} {x : Nat} : Go (some (.astore_n 1, len)) mi pc (a0 :: b :: L) (.ref x :: S) h Q = Go (ab_at mi (pc + 1)) mi (pc + 1) (ab_put 1 (.ref x) (a0 :: b :: L)) (S) h Q := Go_next fun _ => by unfold ab_step; exact if_pos (show 1 < List.length (a0 :: b :: L) by simp)
theorem Go_lstore_1 {a0 : Option Value} {b b2 : Option Value} {x : Int64} : Go (some (.lstore_n 1, len)) mi pc (a0 :: b :: b2 :: L) (.long x :: S) h Q = Go (ab_at mi (pc + 1)) mi (pc + 1) (ab_put 1 (.long x) (a0 :: b :: b2 :: L)) (S) h Q := Go_next fun _ => by unfold ab_step; exact if_pos (show 2 < List.length (a0 :: b :: b2 :: L) by simp)
theorem Go_iinc_1 {a0 : Option Value} {x : Int32} {n : Int} : Go (some (.iinc 1 n, len)) mi pc (a0 :: some (.int x) :: L) (S) h Q = Go (ab_at mi (pc + 3)) mi (pc + 3) (ab_put 1 (.int (x + Int32.ofInt n)) (a0 :: some (.int x) :: L)) (S) h Q := Go_next fun _ => by unfold ab_step; exact if_pos (show 1 < List.length (a0 :: some (.int x) :: L) by simp)
theorem Go_iload_2 {a0 a1 : Option Value} {x : Int32} : Go (some (.iload_n 2, len)) mi pc (a0 :: a1 :: some (.int x) :: L) (S) h Q = Go (ab_at mi (pc + 1)) mi (pc + 1) (a0 :: a1 :: some (.int x) :: L) (.int x :: S) h Q := Go_next fun _ => rfl
theorem Go_lload_2 {a0 a1 : Option Value} {x : Int64} : Go (some (.lload_n 2, len)) mi pc (a0 :: a1 :: some (.long x) :: L) (S) h Q = Go (ab_at mi (pc + 1)) mi (pc + 1) (a0 :: a1 :: some (.long x) :: L) (.long x :: S) h Q := Go_next fun _ => rfl
theorem Go_aload_2 {a0 a1 : Option Value} {x : Nat} : Go (some (.aload_n 2, len)) mi pc (a0 :: a1 :: some (.ref x) :: L) (S) h Q = Go (ab_at mi (pc + 1)) mi (pc + 1) (a0 :: a1 :: some (.ref x) :: L) (.ref x :: S) h Q := Go_next fun _ => rfl
theorem Go_istore_2 {a0 a1 : Option Value} {b : Option Value} {x : Int32} : Go (some (.istore_n 2, len)) mi pc (a0 :: a1 :: b :: L) (.int x :: S) h Q = Go (ab_at mi (pc + 1)) mi (pc + 1) (ab_put 2 (.int x) (a0 :: a1 :: b :: L)) (S) h Q := Go_next fun _ => by unfold ab_step; exact if_pos (show 2 < List.length (a0 :: a1 :: b :: L) by simp)
theorem Go_astore_2 {a0 a1 : Option Value} {b : Option Value} {x : Nat} : Go (some (.astore_n 2, len)) mi pc (a0 :: a1 :: b :: L) (.ref x :: S) h Q = Go (ab_at mi (pc + 1)) mi (pc + 1) (ab_put 2 (.ref x) (a0 :: a1 :: b :: L)) (S) h Q := Go_next fun _ => by unfold ab_step; exact if_pos (show 2 < List.length (a0 :: a1 :: b :: L) by simp)
theorem Go_lstore_2 {a0 a1 : Option Value} {b b2 : Option Value} {x : Int64} : Go (some (.lstore_n 2, len)) mi pc (a0 :: a1 :: b :: b2 :: L) (.long x :: S) h Q = Go (ab_at mi (pc + 1)) mi (pc + 1) (ab_put 2 (.long x) (a0 :: a1 :: b :: b2 :: L)) (S) h Q := Go_next fun _ => by unfold ab_step; exact if_pos (show 3 < List.length (a0 :: a1 :: b :: b2 :: L) by simp)
theorem Go_iinc_2 {a0 a1 : Option Value} {x : Int32} {n : Int} : Go (some (.iinc 2 n, len)) mi pc (a0 :: a1 :: some (.int x) :: L) (S) h Q = Go (ab_at mi (pc + 3)) mi (pc + 3) (ab_put 2 (.int (x + Int32.ofInt n)) (a0 :: a1 :: some (.int x) :: L)) (S) h Q := Go_next fun _ => by unfold ab_step; exact if_pos (show 2 < List.length (a0 :: a1 :: some (.int x) :: L) by simp)
theorem Go_iload_3 {a0 a1 a2 : Option Value} {x : Int32} : Go (some (.iload_n 3, len)) mi pc (a0 :: a1 :: a2 :: some (.int x) :: L) (S) h Q = Go (ab_at mi (pc + 1)) mi (pc + 1) (a0 :: a1 :: a2 :: some (.int x) :: L) (.int x :: S) h Q := Go_next fun _ => rfl
theorem Go_lload_3 {a0 a1 a2 : Option Value} {x : Int64} : Go (some (.lload_n 3, len)) mi pc (a0 :: a1 :: a2 :: some (.long x) :: L) (S) h Q = Go (ab_at mi (pc + 1)) mi (pc + 1) (a0 :: a1 :: a2 :: some (.long x) :: L) (.long x :: S) h Q := Go_next fun _ => rfl
theorem Go_aload_3 {a0 a1 a2 : Option Value} {x : Nat} : Go (some (.aload_n 3, len)) mi pc (a0 :: a1 :: a2 :: some (.ref x) :: L) (S) h Q = Go (ab_at mi (pc + 1)) mi (pc + 1) (a0 :: a1 :: a2 :: some (.ref x) :: L) (.ref x :: S) h Q := Go_next fun _ => rfl
theorem Go_istore_3 {a0 a1 a2 : Option Value} {b : Option Value} {x : Int32} : Go (some (.istore_n 3, len)) mi pc (a0 :: a1 :: a2 :: b :: L) (.int x :: S) h Q = Go (ab_at mi (pc + 1)) mi (pc + 1) (ab_put 3 (.int x) (a0 :: a1 :: a2 :: b :: L)) (S) h Q := Go_next fun _ => by unfold ab_step; exact if_pos (show 3 < List.length (a0 :: a1 :: a2 :: b :: L) by simp)
theorem Go_astore_3 {a0 a1 a2 : Option Value} {b : Option Value} {x : Nat} : Go (some (.astore_n 3, len)) mi pc (a0 :: a1 :: a2 :: b :: L) (.ref x :: S) h Q = Go (ab_at mi (pc + 1)) mi (pc + 1) (ab_put 3 (.ref x) (a0 :: a1 :: a2 :: b :: L)) (S) h Q := Go_next fun _ => by unfold ab_step; exact if_pos (show 3 < List.length (a0 :: a1 :: a2 :: b :: L) by simp)
theorem Go_lstore_3 {a0 a1 a2 : Option Value} {b b2 : Option Value} {x : Int64} : Go (some (.lstore_n 3, len)) mi pc (a0 :: a1 :: a2 :: b :: b2 :: L) (.long x :: S) h Q = Go (ab_at mi (pc + 1)) mi (pc + 1) (ab_put 3 (.long x) (a0 :: a1 :: a2 :: b :: b2 :: L)) (S) h Q := Go_next fun _ => by unfold ab_step; exact if_pos (show 4 < List.length (a0 :: a1 :: a2 :: b :: b2 :: L) by simp)
theorem Go_iinc_3 {a0 a1 a2 : Option Value} {x : Int32} {n : Int} : Go (some (.iinc 3 n, len)) mi pc (a0 :: a1 :: a2 :: some (.int x) :: L) (S) h Q = Go (ab_at mi (pc + 3)) mi (pc + 3) (ab_put 3 (.int (x + Int32.ofInt n)) (a0 :: a1 :: a2 :: some (.int x) :: L)) (S) h Q := Go_next fun _ => by unfold ab_step; exact if_pos (show 3 < List.length (a0 :: a1 :: a2 :: some (.int x) :: L) by simp)
theorem Go_iload_4 {a0 a1 a2 a3 : Option Value} {x : Int32} : Go (some (.iload 4, len)) mi pc (a0 :: a1 :: a2 :: a3 :: some (.int x) :: L) (S) h Q = Go (ab_at mi (pc + 2)) mi (pc + 2) (a0 :: a1 :: a2 :: a3 :: some (.int x) :: L) (.int x :: S) h Q := Go_next fun _ => rfl
theorem Go_lload_4 {a0 a1 a2 a3 : Option Value} {x : Int64} : Go (some (.lload 4, len)) mi pc (a0 :: a1 :: a2 :: a3 :: some (.long x) :: L) (S) h Q = Go (ab_at mi (pc + 2)) mi (pc + 2) (a0 :: a1 :: a2 :: a3 :: some (.long x) :: L) (.long x :: S) h Q := Go_next fun _ => rfl
theorem Go_istore_4 {a0 a1 a2 a3 : Option Value} {b : Option Value} {x : Int32} : Go (some (.istore 4, len)) mi pc (a0 :: a1 :: a2 :: a3 :: b :: L) (.int x :: S) h Q = Go (ab_at mi (pc + 2)) mi (pc + 2) (ab_put 4 (.int x) (a0 :: a1 :: a2 :: a3 :: b :: L)) (S) h Q := Go_next fun _ => by unfold ab_step; exact if_pos (show 4 < List.length (a0 :: a1 :: a2 :: a3 :: b :: L) by simp)
theorem Go_lstore_4 {a0 a1 a2 a3 : Option Value} {b b2 : Option Value} {x : Int64} : Go (some (.lstore 4, len)) mi pc (a0 :: a1 :: a2 :: a3 :: b :: b2 :: L) (.long x :: S) h Q = Go (ab_at mi (pc + 2)) mi (pc + 2) (ab_put 4 (.long x) (a0 :: a1 :: a2 :: a3 :: b :: b2 :: L)) (S) h Q := Go_next fun _ => by unfold ab_step; exact if_pos (show 5 < List.length (a0 :: a1 :: a2 :: a3 :: b :: b2 :: L) by simp)
theorem Go_iinc_4 {a0 a1 a2 a3 : Option Value} {x : Int32} {n : Int} : Go (some (.iinc 4 n, len)) mi pc (a0 :: a1 :: a2 :: a3 :: some (.int x) :: L) (S) h Q = Go (ab_at mi (pc + 3)) mi (pc + 3) (ab_put 4 (.int (x + Int32.ofInt n)) (a0 :: a1 :: a2 :: a3 :: some (.int x) :: L)) (S) h Q := Go_next fun _ => by unfold ab_step; exact if_pos (show 4 < List.length (a0 :: a1 :: a2 :: a3 :: some (.int x) :: L) by simp)
theorem Go_iload_5 {a0 a1 a2 a3 a4 : Option Value} {x : Int32} : Go (some (.iload 5, len)) mi pc (a0 :: a1 :: a2 :: a3 :: a4 :: some (.int x) :: L) (S) h Q = Go (ab_at mi (pc + 2)) mi (pc + 2) (a0 :: a1 :: a2 :: a3 :: a4 :: some (.int x) :: L) (.int x :: S) h Q := Go_next fun _ => rfl
theorem Go_lload_5 {a0 a1 a2 a3 a4 : Option Value} {x : Int64} : Go (some (.lload 5, len)) mi pc (a0 :: a1 :: a2 :: a3 :: a4 :: some (.long x) :: L) (S) h Q = Go (ab_at mi (pc + 2)) mi (pc + 2) (a0 :: a1 :: a2 :: a3 :: a4 :: some (.long x) :: L) (.long x :: S) h Q := Go_next fun _ => rfl
theorem Go_istore_5 {a0 a1 a2 a3 a4 : Option Value} {b : Option Value} {x : Int32} : Go (some (.istore 5, len)) mi pc (a0 :: a1 :: a2 :: a3 :: a4 :: b :: L) (.int x :: S) h Q = Go (ab_at mi (pc + 2)) mi (pc + 2) (ab_put 5 (.int x) (a0 :: a1 :: a2 :: a3 :: a4 :: b :: L)) (S) h Q := Go_next fun _ => by unfold ab_step; exact if_pos (show 5 < List.length (a0 :: a1 :: a2 :: a3 :: a4 :: b :: L) by simp)
theorem Go_lstore_5 {a0 a1 a2 a3 a4 : Option Value} {b b2 : Option Value} {x : Int64} : Go (some (.lstore 5, len)) mi pc (a0 :: a1 :: a2 :: a3 :: a4 :: b :: b2 :: L) (.long x :: S) h Q = Go (ab_at mi (pc + 2)) mi (pc + 2) (ab_put 5 (.long x) (a0 :: a1 :: a2 :: a3 :: a4 :: b :: b2 :: L)) (S) h Q := Go_next fun _ => by unfold ab_step; exact if_pos (show 6 < List.length (a0 :: a1 :: a2 :: a3 :: a4 :: b :: b2 :: L) by simp)
theorem Go_iinc_5 {a0 a1 a2 a3 a4 : Option Value} {x : Int32} {n : Int} : Go (some (.iinc 5 n, len)) mi pc (a0 :: a1 :: a2 :: a3 :: a4 :: some (.int x) :: L) (S) h Q = Go (ab_at mi (pc + 3)) mi (pc + 3) (ab_put 5 (.int (x + Int32.ofInt n)) (a0 :: a1 :: a2 :: a3 :: a4 :: some (.int x) :: L)) (S) h Q := Go_next fun _ => by unfold ab_step; exact if_pos (show 5 < List.length (a0 :: a1 :: a2 :: a3 :: a4 :: some (.int x) :: L) by simp)
theorem Go_iload_6 {a0 a1 a2 a3 a4 a5 : Option Value} {x : Int32} : Go (some (.iload 6, len)) mi pc (a0 :: a1 :: a2 :: a3 :: a4 :: a5 :: some (.int x) :: L) (S) h Q = Go (ab_at mi (pc + 2)) mi (pc + 2) (a0 :: a1 :: a2 :: a3 :: a4 :: a5 :: some (.int x) :: L) (.int x :: S) h Q := Go_next fun _ => rfl
theorem Go_lload_6 {a0 a1 a2 a3 a4 a5 : Option Value} {x : Int64} : Go (some (.lload 6, len)) mi pc (a0 :: a1 :: a2 :: a3 :: a4 :: a5 :: some (.long x) :: L) (S) h Q = Go (ab_at mi (pc + 2)) mi (pc + 2) (a0 :: a1 :: a2 :: a3 :: a4 :: a5 :: some (.long x) :: L) (.long x :: S) h Q := Go_next fun _ => rfl
theorem Go_istore_6 {a0 a1 a2 a3 a4 a5 : Option Value} {b : Option Value} {x : Int32} : Go (some (.istore 6, len)) mi pc (a0 :: a1 :: a2 :: a3 :: a4 :: a5 :: b :: L) (.int x :: S) h Q = Go (ab_at mi (pc + 2)) mi (pc + 2) (ab_put 6 (.int x) (a0 :: a1 :: a2 :: a3 :: a4 :: a5 :: b :: L)) (S) h Q := Go_next fun _ => by unfold ab_step; exact if_pos (show 6 < List.length (a0 :: a1 :: a2 :: a3 :: a4 :: a5 :: b :: L) by simp)
theorem Go_lstore_6 {a0 a1 a2 a3 a4 a5 : Option Value} {b b2 : Option Value} {x : Int64} : Go (some (.lstore 6, len)) mi pc (a0 :: a1 :: a2 :: a3 :: a4 :: a5 :: b :: b2 :: L) (.long x :: S) h Q = Go (ab_at mi (pc + 2)) mi (pc + 2) (ab_put 6 (.long x) (a0 :: a1 :: a2 :: a3 :: a4 :: a5 :: b :: b2 :: L)) (S) h Q := Go_next fun _ => by unfold ab_step; exact if_pos (show 7 < List.length (a0 :: a1 :: a2 :: a3 :: a4 :: a5 :: b :: b2 :: L) by simp)
theorem Go_iinc_6 {a0 a1 a2 a3 a4 a5 : Option Value} {x : Int32} {n : Int} : Go (some (.iinc 6 n, len)) mi pc (a0 :: a1 :: a2 :: a3 :: a4 :: a5 :: some (.int x) :: L) (S) h Q = Go (ab_at mi (pc + 3)) mi (pc + 3) (ab_put 6 (.int (x + Int32.ofInt n)) (a0 :: a1 :: a2 :: a3 :: a4 :: a5 :: some (.int x) :: L)) (S) h Q := Go_next fun _ => by unfold ab_step; exact if_pos (show 6 < List.length (a0 :: a1 :: a2 :: a3 :: a4 :: a5 :: some (.int x) :: L) by simp)
theorem Go_iload_7 {a0 a1 a2 a3 a4 a5 a6 : Option Value} {x : Int32} : Go (some (.iload 7, len)) mi pc (a0 :: a1 :: a2 :: a3 :: a4 :: a5 :: a6 :: some (.int x) :: L) (S) h Q = Go (ab_at mi (pc + 2)) mi (pc + 2) (a0 :: a1 :: a2 :: a3 :: a4 :: a5 :: a6 :: some (.int x) :: L) (.int x :: S) h Q := Go_next fun _ => rfl
theorem Go_lload_7 {a0 a1 a2 a3 a4 a5 a6 : Option Value} {x : Int64} : Go (some (.lload 7, len)) mi pc (a0 :: a1 :: a2 :: a3 :: a4 :: a5 :: a6 :: some (.long x) :: L) (S) h Q = Go (ab_at mi (pc + 2)) mi (pc + 2) (a0 :: a1 :: a2 :: a3 :: a4 :: a5 :: a6 :: some (.long x) :: L) (.long x :: S) h Q := Go_next fun _ => rfl
theorem Go_istore_7 {a0 a1 a2 a3 a4 a5 a6 : Option Value} {b : Option Value} {x : Int32} : Go (some (.istore 7, len)) mi pc (a0 :: a1 :: a2 :: a3 :: a4 :: a5 :: a6 :: b :: L) (.int x :: S) h Q = Go (ab_at mi (pc + 2)) mi (pc + 2) (ab_put 7 (.int x) (a0 :: a1 :: a2 :: a3 :: a4 :: a5 :: a6 :: b :: L)) (S) h Q := Go_next fun _ => by unfold ab_step; exact if_pos (show 7 < List.length (a0 :: a1 :: a2 :: a3 :: a4 :: a5 :: a6 :: b :: L) by simp)
theorem Go_lstore_7 {a0 a1 a2 a3 a4 a5 a6 : Option Value} {b b2 : Option Value} {x : Int64} : Go (some (.lstore 7, len)) mi pc (a0 :: a1 :: a2 :: a3 :: a4 :: a5 :: a6 :: b :: b2 :: L) (.long x :: S) h Q = Go (ab_at mi (pc + 2)) mi (pc + 2) (ab_put 7 (.long x) (a0 :: a1 :: a2 :: a3 :: a4 :: a5 :: a6 :: b :: b2 :: L)) (S) h Q := Go_next fun _ => by unfold ab_step; exact if_pos (show 8 < List.length (a0 :: a1 :: a2 :: a3 :: a4 :: a5 :: a6 :: b :: b2 :: L) by simp)
theorem Go_iinc_7 {a0 a1 a2 a3 a4 a5 a6 : Option Value} {x : Int32} {n : Int} : Go (some (.iinc 7 n, len)) mi pc (a0 :: a1 :: a2 :: a3 :: a4 :: a5 :: a6 :: some (.int x) :: L) (S) h Q = Go (ab_at mi (pc + 3)) mi (pc + 3) (ab_put 7 (.int (x + Int32.ofInt n)) (a0 :: a1 :: a2 :: a3 :: a4 :: a5 :: a6 :: some (.int x) :: L)) (S) h Q := Go_next fun _ => by unfold ab_step; exact if_pos (show 7 < List.length (a0 :: a1 :: a2 :: a3 :: a4 :: a5 :: a6 :: some (.int x) :: L) by simp)
theorem Go_iload_8 {a0 a1 a2 a3 a4 a5 a6 a7 : Option Value} {x : Int32} : Go (some (.iload 8, len)) mi pc (a0 :: a1 :: a2 :: a3 :: a4 :: a5 :: a6 :: a7 :: some (.int x) :: L) (S) h Q = Go (ab_at mi (pc + 2)) mi (pc + 2) (a0 :: a1 :: a2 :: a3 :: a4 :: a5 :: a6 :: a7 :: some (.int x) :: L) (.int x :: S) h Q := Go_next fun _ => rfl
theorem Go_lload_8 {a0 a1 a2 a3 a4 a5 a6 a7 : Option Value} {x : Int64} : Go (some (.lload 8, len)) mi pc (a0 :: a1 :: a2 :: a3 :: a4 :: a5 :: a6 :: a7 :: some (.long x) :: L) (S) h Q = Go (ab_at mi (pc + 2)) mi (pc + 2) (a0 :: a1 :: a2 :: a3 :: a4 :: a5 :: a6 :: a7 :: some (.long x) :: L) (.long x :: S) h Q := Go_next fun _ => rfl
theorem Go_istore_8 {a0 a1 a2 a3 a4 a5 a6 a7 : Option Value} {b : Option Value} {x : Int32} : Go (some (.istore 8, len)) mi pc (a0 :: a1 :: a2 :: a3 :: a4 :: a5 :: a6 :: a7 :: b :: L) (.int x :: S) h Q = Go (ab_at mi (pc + 2)) mi (pc + 2) (ab_put 8 (.int x) (a0 :: a1 :: a2 :: a3 :: a4 :: a5 :: a6 :: a7 :: b :: L)) (S) h Q := Go_next fun _ => by unfold ab_step; exact if_pos (show 8 < List.length (a0 :: a1 :: a2 :: a3 :: a4 :: a5 :: a6 :: a7 :: b :: L) by simp)
theorem Go_lstore_8 {a0 a1 a2 a3 a4 a5 a6 a7 : Option Value} {b b2 : Option Value} {x : Int64} : Go (some (.lstore 8, len)) mi pc (a0 :: a1 :: a2 :: a3 :: a4 :: a5 :: a6 :: a7 :: b :: b2 :: L) (.long x :: S) h Q = Go (ab_at mi (pc + 2)) mi (pc + 2) (ab_put 8 (.long x) (a0 :: a1 :: a2 :: a3 :: a4 :: a5 :: a6 :: a7 :: b :: b2 :: L)) (S) h Q := Go_next fun _ => by unfold ab_step; exact if_pos (show 9 < List.length (a0 :: a1 :: a2 :: a3 :: a4 :: a5 :: a6 :: a7 :: b :: b2 :: L) by simp)
theorem Go_iinc_8 {a0 a1 a2 a3 a4 a5 a6 a7 : Option Value} {x : Int32} {n : Int} : Go (some (.iinc 8 n, len)) mi pc (a0 :: a1 :: a2 :: a3 :: a4 :: a5 :: a6 :: a7 :: some (.int x) :: L) (S) h Q = Go (ab_at mi (pc + 3)) mi (pc + 3) (ab_put 8 (.int (x + Int32.ofInt n)) (a0 :: a1 :: a2 :: a3 :: a4 :: a5 :: a6 :: a7 :: some (.int x) :: L)) (S) h Q := Go_next fun _ => by unfold ab_step; exact if_pos (show 8 < List.length (a0 :: a1 :: a2 :: a3 :: a4 :: a5 :: a6 :: a7 :: some (.int x) :: L) by simp)
theorem Go_iload_9 {a0 a1 a2 a3 a4 a5 a6 a7 a8 : Option Value} {x : Int32} : Go (some (.iload 9, len)) mi pc (a0 :: a1 :: a2 :: a3 :: a4 :: a5 :: a6 :: a7 :: a8 :: some (.int x) :: L) (S) h Q = Go (ab_at mi (pc + 2)) mi (pc + 2) (a0 :: a1 :: a2 :: a3 :: a4 :: a5 :: a6 :: a7 :: a8 :: some (.int x) :: L) (.int x :: S) h Q := Go_next fun _ => rfl
theorem Go_lload_9 {a0 a1 a2 a3 a4 a5 a6 a7 a8 : Option Value} {x : Int64} : Go (some (.lload 9, len)) mi pc (a0 :: a1 :: a2 :: a3 :: a4 :: a5 :: a6 :: a7 :: a8 :: some (.long x) :: L) (S) h Q = Go (ab_at mi (pc + 2)) mi (pc + 2) (a0 :: a1 :: a2 :: a3 :: a4 :: a5 :: a6 :: a7 :: a8 :: some (.long x) :: L) (.long x :: S) h Q := Go_next fun _ => rfl
theorem Go_istore_9 {a0 a1 a2 a3 a4 a5 a6 a7 a8 : Option Value} {b : Option Value} {x : Int32} : Go (some (.istore 9, len)) mi pc (a0 :: a1 :: a2 :: a3 :: a4 :: a5 :: a6 :: a7 :: a8 :: b :: L) (.int x :: S) h Q = Go (ab_at mi (pc + 2)) mi (pc + 2) (ab_put 9 (.int x) (a0 :: a1 :: a2 :: a3 :: a4 :: a5 :: a6 :: a7 :: a8 :: b :: L)) (S) h Q := Go_next fun _ => by unfold ab_step; exact if_pos (show 9 < List.length (a0 :: a1 :: a2 :: a3 :: a4 :: a5 :: a6 :: a7 :: a8 :: b :: L) by simp)
theorem Go_lstore_9 {a0 a1 a2 a3 a4 a5 a6 a7 a8 : Option Value} {b b2 : Option Value} {x : Int64} : Go (some (.lstore 9, len)) mi pc (a0 :: a1 :: a2 :: a3 :: a4 :: a5 :: a6 :: a7 :: a8 :: b :: b2 :: L) (.long x :: S) h Q = Go (ab_at mi (pc + 2)) mi (pc + 2) (ab_put 9 (.long x) (a0 :: a1 :: a2 :: a3 :: a4 :: a5 :: a6 :: a7 :: a8 :: b :: b2 :: L)) (S) h Q := Go_next fun _ => by unfold ab_step; exact if_pos (show 10 < List.length (a0 :: a1 :: a2 :: a3 :: a4 :: a5 :: a6 :: a7 :: a8 :: b :: b2 :: L) by simp)
theorem Go_iinc_9 {a0 a1 a2 a3 a4 a5 a6 a7 a8 : Option Value} {x : Int32} {n : Int} : Go (some (.iinc 9 n, len)) mi pc (a0 :: a1 :: a2 :: a3 :: a4 :: a5 :: a6 :: a7 :: a8 :: some (.int x) :: L) (S) h Q = Go (ab_at mi (pc + 3)) mi (pc + 3) (ab_put 9 (.int (x + Int32.ofInt n)) (a0 :: a1 :: a2 :: a3 :: a4 :: a5 :: a6 :: a7 :: a8 :: some (.int x) :: L)) (S) h Q := Go_next fun _ => by unfold ab_step; exact if_pos (show 9 < List.length (a0 :: a1 :: a2 :: a3 :: a4 :: a5 :: a6 :: a7 :: a8 :: some (.int x) :: L) by simp)
theorem Go_iload_10 {a0 a1 a2 a3 a4 a5 a6 a7 a8 a9 : Option Value} {x : Int32} : Go (some (.iload 10, len)) mi pc (a0 :: a1 :: a2 :: a3 :: a4 :: a5 :: a6 :: a7 :: a8 :: a9 :: some (.int x) :: L) (S) h Q = Go (ab_at mi (pc + 2)) mi (pc + 2) (a0 :: a1 :: a2 :: a3 :: a4 :: a5 :: a6 :: a7 :: a8 :: a9 :: some (.int x) :: L) (.int x :: S) h Q := Go_next fun _ => rfl
theorem Go_lload_10 {a0 a1 a2 a3 a4 a5 a6 a7 a8 a9 : Option Value} {x : Int64} : Go (some (.lload 10, len)) mi pc (a0 :: a1 :: a2 :: a3 :: a4 :: a5 :: a6 :: a7 :: a8 :: a9 :: some (.long x) :: L) (S) h Q = Go (ab_at mi (pc + 2)) mi (pc + 2) (a0 :: a1 :: a2 :: a3 :: a4 :: a5 :: a6 :: a7 :: a8 :: a9 :: some (.long x) :: L) (.long x :: S) h Q := Go_next fun _ => rfl
theorem Go_istore_10 {a0 a1 a2 a3 a4 a5 a6 a7 a8 a9 : Option Value} {b : Option Value} {x : Int32} : Go (some (.istore 10, len)) mi pc (a0 :: a1 :: a2 :: a3 :: a4 :: a5 :: a6 :: a7 :: a8 :: a9 :: b :: L) (.int x :: S) h Q = Go (ab_at mi (pc + 2)) mi (pc + 2) (ab_put 10 (.int x) (a0 :: a1 :: a2 :: a3 :: a4 :: a5 :: a6 :: a7 :: a8 :: a9 :: b :: L)) (S) h Q := Go_next fun _ => by unfold ab_step; exact if_pos (show 10 < List.length (a0 :: a1 :: a2 :: a3 :: a4 :: a5 :: a6 :: a7 :: a8 :: a9 :: b :: L) by simp)
theorem Go_lstore_10 {a0 a1 a2 a3 a4 a5 a6 a7 a8 a9 : Option Value} {b b2 : Option Value} {x : Int64} : Go (some (.lstore 10, len)) mi pc (a0 :: a1 :: a2 :: a3 :: a4 :: a5 :: a6 :: a7 :: a8 :: a9 :: b :: b2 :: L) (.long x :: S) h Q = Go (ab_at mi (pc + 2)) mi (pc + 2) (ab_put 10 (.long x) (a0 :: a1 :: a2 :: a3 :: a4 :: a5 :: a6 :: a7 :: a8 :: a9 :: b :: b2 :: L)) (S) h Q := Go_next fun _ => by unfold ab_step; exact if_pos (show 11 < List.length (a0 :: a1 :: a2 :: a3 :: a4 :: a5 :: a6 :: a7 :: a8 :: a9 :: b :: b2 :: L) by simp)
theorem Go_iinc_10 {a0 a1 a2 a3 a4 a5 a6 a7 a8 a9 : Option Value} {x : Int32} {n : Int} : Go (some (.iinc 10 n, len)) mi pc (a0 :: a1 :: a2 :: a3 :: a4 :: a5 :: a6 :: a7 :: a8 :: a9 :: some (.int x) :: L) (S) h Q = Go (ab_at mi (pc + 3)) mi (pc + 3) (ab_put 10 (.int (x + Int32.ofInt n)) (a0 :: a1 :: a2 :: a3 :: a4 :: a5 :: a6 :: a7 :: a8 :: a9 :: some (.int x) :: L)) (S) h Q := Go_next fun _ => by unfold ab_step; exact if_pos (show 10 < List.length (a0 :: a1 :: a2 :: a3 :: a4 :: a5 :: a6 :: a7 :: a8 :: a9 :: some (.int x) :: L) by simp)
theorem Go_iload_11 {a0 a1 a2 a3 a4 a5 a6 a7 a8 a9 a10 : Option Value} {x : Int32} : Go (some (.iload 11, len)) mi pc (a0 :: a1 :: a2 :: a3 :: a4 :: a5 :: a6 :: a7 :: a8 :: a9 :: a10 :: some (.int x) :: L) (S) h Q = Go (ab_at mi (pc + 2)) mi (pc + 2) (a0 :: a1 :: a2 :: a3 :: a4 :: a5 :: a6 :: a7 :: a8 :: a9 :: a10 :: some (.int x) :: L) (.int x :: S) h Q := Go_next fun _ => rfl
theorem Go_lload_11 {a0 a1 a2 a3 a4 a5 a6 a7 a8 a9 a10 : Option Value} {x : Int64} : Go (some (.lload 11, len)) mi pc (a0 :: a1 :: a2 :: a3 :: a4 :: a5 :: a6 :: a7 :: a8 :: a9 :: a10 :: some (.long x) :: L) (S) h Q = Go (ab_at mi (pc + 2)) mi (pc + 2) (a0 :: a1 :: a2 :: a3 :: a4 :: a5 :: a6 :: a7 :: a8 :: a9 :: a10 :: some (.long x) :: L) (.long x :: S) h Q := Go_next fun _ => rfl
theorem Go_istore_11 {a0 a1 a2 a3 a4 a5 a6 a7 a8 a9 a10 : Option Value} {b : Option Value} {x : Int32} : Go (some (.istore 11, len)) mi pc (a0 :: a1 :: a2 :: a3 :: a4 :: a5 :: a6 :: a7 :: a8 :: a9 :: a10 :: b :: L) (.int x :: S) h Q = Go (ab_at mi (pc + 2)) mi (pc + 2) (ab_put 11 (.int x) (a0 :: a1 :: a2 :: a3 :: a4 :: a5 :: a6 :: a7 :: a8 :: a9 :: a10 :: b :: L)) (S) h Q := Go_next fun _ => by unfold ab_step; exact if_pos (show 11 < List.length (a0 :: a1 :: a2 :: a3 :: a4 :: a5 :: a6 :: a7 :: a8 :: a9 :: a10 :: b :: L) by simp)
theorem Go_lstore_11 {a0 a1 a2 a3 a4 a5 a6 a7 a8 a9 a10 : Option Value} {b b2 : Option Value} {x : Int64} : Go (some (.lstore 11, len)) mi pc (a0 :: a1 :: a2 :: a3 :: a4 :: a5 :: a6 :: a7 :: a8 :: a9 :: a10 :: b :: b2 :: L) (.long x :: S) h Q = Go (ab_at mi (pc + 2)) mi (pc + 2) (ab_put 11 (.long x) (a0 :: a1 :: a2 :: a3 :: a4 :: a5 :: a6 :: a7 :: a8 :: a9 :: a10 :: b :: b2 :: L)) (S) h Q := Go_next fun _ => by unfold ab_step; exact if_pos (show 12 < List.length (a0 :: a1 :: a2 :: a3 :: a4 :: a5 :: a6 :: a7 :: a8 :: a9 :: a10 :: b :: b2 :: L) by simp)
theorem Go_iinc_11 {a0 a1 a2 a3 a4 a5 a6 a7 a8 a9 a10 : Option Value} {x : Int32} {n : Int} : Go (some (.iinc 11 n, len)) mi pc (a0 :: a1 :: a2 :: a3 :: a4 :: a5 :: a6 :: a7 :: a8 :: a9 :: a10 :: some (.int x) :: L) (S) h Q = Go (ab_at mi (pc + 3)) mi (pc + 3) (ab_put 11 (.int (x + Int32.ofInt n)) (a0 :: a1 :: a2 :: a3 :: a4 :: a5 :: a6 :: a7 :: a8 :: a9 :: a10 :: some (.int x) :: L)) (S) h Q := Go_next fun _ => by unfold ab_step; exact if_pos (show 11 < List.length (a0 :: a1 :: a2 :: a3 :: a4 :: a5 :: a6 :: a7 :: a8 :: a9 :: a10 :: some (.int x) :: L) by simp)
/-- what a store leaves of the local ahead of it -/
def ab_kl : Option Value → Option Value
  | some (.long _) => none
  | some (.double _) => none
  | a => a
theorem ab_kl_n : ab_kl none = none := rfl
theorem ab_kl_i (x : Int32) : ab_kl (some (.int x)) = some (.int x) := rfl
theorem ab_kl_r (x : Nat) : ab_kl (some (.ref x)) = some (.ref x) := rfl
theorem ab_kl_l (x : Int64) : ab_kl (some (.long x)) = none := rfl
theorem ab_put_int_0 {b : Option Value} {x : Int32} : ab_put 0 (.int x) (b :: L) = some (.int x) :: L := rfl
theorem ab_put_ref_0 {b : Option Value} {x : Nat} : ab_put 0 (.ref x) (b :: L) = some (.ref x) :: L := rfl
theorem ab_put_long_0 {b b2 : Option Value} {x : Int64} : ab_put 0 (.long x) (b :: b2 :: L) = some (.long x) :: none :: L := rfl
theorem ab_put_int_1 {a0 : Option Value} {b : Option Value} {x : Int32} : ab_put 1 (.int x) (a0 :: b :: L) = ab_kl a0 :: some (.int x) :: L := by
  rcases a0 with _ | v
  · rfl
  · cases v <;> rfl
theorem ab_put_ref_1 {a0 : Option Value} {b : Option Value} {x : Nat} : ab_put 1 (.ref x) (a0 :: b :: L) = ab_kl a0 :: some (.ref x) :: L := by
  rcases a0 with _ | v
  · rfl
  · cases v <;> rfl
theorem ab_put_long_1 {a0 : Option Value} {b b2 : Option Value} {x : Int64} : ab_put 1 (.long x) (a0 :: b :: b2 :: L) = ab_kl a0 :: some (.long x) :: none :: L := by
  rcases a0 with _ | v
  · rfl
  · cases v <;> rfl
theorem ab_put_int_2 {a0 a1 : Option Value} {b : Option Value} {x : Int32} : ab_put 2 (.int x) (a0 :: a1 :: b :: L) = a0 :: ab_kl a1 :: some (.int x) :: L := by
  rcases a1 with _ | v
  · rfl
  · cases v <;> rfl
theorem ab_put_ref_2 {a0 a1 : Option Value} {b : Option Value} {x : Nat} : ab_put 2 (.ref x) (a0 :: a1 :: b :: L) = a0 :: ab_kl a1 :: some (.ref x) :: L := by
  rcases a1 with _ | v
  · rfl
  · cases v <;> rfl
theorem ab_put_long_2 {a0 a1 : Option Value} {b b2 : Option Value} {x : Int64} : ab_put 2 (.long x) (a0 :: a1 :: b :: b2 :: L) = a0 :: ab_kl a1 :: some (.long x) :: none :: L := by
  rcases a1 with _ | v
  · rfl
  · cases v <;> rfl
theorem ab_put_int_3 {a0 a1 a2 : Option Value} {b : Option Value} {x : Int32} : ab_put 3 (.int x) (a0 :: a1 :: a2 :: b :: L) = a0 :: a1 :: ab_kl a2 :: some (.int x) :: L := by
  rcases a2 with _ | v
  · rfl
  · cases v <;> rfl
theorem ab_put_ref_3 {a0 a1 a2 : Option Value} {b : Option Value} {x : Nat} : ab_put 3 (.ref x) (a0 :: a1 :: a2 :: b :: L) = a0 :: a1 :: ab_kl a2 :: some (.ref x) :: L := by
  rcases a2 with _ | v
  · rfl
  · cases v <;> rfl
theorem ab_put_long_3 {a0 a1 a2 : Option Value} {b b2 : Option Value} {x : Int64} : ab_put 3 (.long x) (a0 :: a1 :: a2 :: b :: b2 :: L) = a0 :: a1 :: ab_kl a2 :: some (.long x) :: none :: L := by
  rcases a2 with _ | v
  · rfl
  · cases v <;> rfl
theorem ab_put_int_4 {a0 a1 a2 a3 : Option Value} {b : Option Value} {x : Int32} : ab_put 4 (.int x) (a0 :: a1 :: a2 :: a3 :: b :: L) = a0 :: a1 :: a2 :: ab_kl a3 :: some (.int x) :: L := by
  rcases a3 with _ | v
  · rfl
  · cases v <;> rfl
theorem ab_put_ref_4 {a0 a1 a2 a3 : Option Value} {b : Option Value} {x : Nat} : ab_put 4 (.ref x) (a0 :: a1 :: a2 :: a3 :: b :: L) = a0 :: a1 :: a2 :: ab_kl a3 :: some (.ref x) :: L := by
  rcases a3 with _ | v
  · rfl
  · cases v <;> rfl
theorem ab_put_long_4 {a0 a1 a2 a3 : Option Value} {b b2 : Option Value} {x : Int64} : ab_put 4 (.long x) (a0 :: a1 :: a2 :: a3 :: b :: b2 :: L) = a0 :: a1 :: a2 :: ab_kl a3 :: some (.long x) :: none :: L := by
  rcases a3 with _ | v
  · rfl
  · cases v <;> rfl
theorem ab_put_int_5 {a0 a1 a2 a3 a4 : Option Value} {b : Option Value} {x : Int32} : ab_put 5 (.int x) (a0 :: a1 :: a2 :: a3 :: a4 :: b :: L) = a0 :: a1 :: a2 :: a3 :: ab_kl a4 :: some (.int x) :: L := by
  rcases a4 with _ | v
  · rfl
  · cases v <;> rfl
theorem ab_put_ref_5 {a0 a1 a2 a3 a4 : Option Value} {b : Option Value} {x : Nat} : ab_put 5 (.ref x) (a0 :: a1 :: a2 :: a3 :: a4 :: b :: L) = a0 :: a1 :: a2 :: a3 :: ab_kl a4 :: some (.ref x) :: L := by
  rcases a4 with _ | v
  · rfl
  · cases v <;> rfl
theorem ab_put_long_5 {a0 a1 a2 a3 a4 : Option Value} {b b2 : Option Value} {x : Int64} : ab_put 5 (.long x) (a0 :: a1 :: a2 :: a3 :: a4 :: b :: b2 :: L) = a0 :: a1 :: a2 :: a3 :: ab_kl a4 :: some (.long x) :: none :: L := by
  rcases a4 with _ | v
  · rfl
  · cases v <;> rfl
theorem ab_put_int_6 {a0 a1 a2 a3 a4 a5 : Option Value} {b : Option Value} {x : Int32} : ab_put 6 (.int x) (a0 :: a1 :: a2 :: a3 :: a4 :: a5 :: b :: L) = a0 :: a1 :: a2 :: a3 :: a4 :: ab_kl a5 :: some (.int x) :: L := by
  rcases a5 with _ | v
  · rfl
  · cases v <;> rfl
theorem ab_put_ref_6 {a0 a1 a2 a3 a4 a5 : Option Value} {b : Option Value} {x : Nat} : ab_put 6 (.ref x) (a0 :: a1 :: a2 :: a3 :: a4 :: a5 :: b :: L) = a0 :: a1 :: a2 :: a3 :: a4 :: ab_kl a5 :: some (.ref x) :: L := by
  rcases a5 with _ | v
  · rfl
  · cases v <;> rfl
theorem ab_put_long_6 {a0 a1 a2 a3 a4 a5 : Option Value} {b b2 : Option Value} {x : Int64} : ab_put 6 (.long x) (a0 :: a1 :: a2 :: a3 :: a4 :: a5 :: b :: b2 :: L) = a0 :: a1 :: a2 :: a3 :: a4 :: ab_kl a5 :: some (.long x) :: none :: L := by
  rcases a5 with _ | v
  · rfl
  · cases v <;> rfl
theorem ab_put_int_7 {a0 a1 a2 a3 a4 a5 a6 : Option Value} {b : Option Value} {x : Int32} : ab_put 7 (.int x) (a0 :: a1 :: a2 :: a3 :: a4 :: a5 :: a6 :: b :: L) = a0 :: a1 :: a2 :: a3 :: a4 :: a5 :: ab_kl a6 :: some (.int x) :: L := by
  rcases a6 with _ | v
  · rfl
  · cases v <;> rfl
theorem ab_put_ref_7 {a0 a1 a2 a3 a4 a5 a6 : Option Value} {b : Option Value} {x : Nat} : ab_put 7 (.ref x) (a0 :: a1 :: a2 :: a3 :: a4 :: a5 :: a6 :: b :: L) = a0 :: a1 :: a2 :: a3 :: a4 :: a5 :: ab_kl a6 :: some (.ref x) :: L := by
  rcases a6 with _ | v
  · rfl
  · cases v <;> rfl
theorem ab_put_long_7 {a0 a1 a2 a3 a4 a5 a6 : Option Value} {b b2 : Option Value} {x : Int64} : ab_put 7 (.long x) (a0 :: a1 :: a2 :: a3 :: a4 :: a5 :: a6 :: b :: b2 :: L) = a0 :: a1 :: a2 :: a3 :: a4 :: a5 :: ab_kl a6 :: some (.long x) :: none :: L := by
  rcases a6 with _ | v
  · rfl
  · cases v <;> rfl
theorem ab_put_int_8 {a0 a1 a2 a3 a4 a5 a6 a7 : Option Value} {b : Option Value} {x : Int32} : ab_put 8 (.int x) (a0 :: a1 :: a2 :: a3 :: a4 :: a5 :: a6 :: a7 :: b :: L) = a0 :: a1 :: a2 :: a3 :: a4 :: a5 :: a6 :: ab_kl a7 :: some (.int x) :: L := by
  rcases a7 with _ | v
  · rfl
  · cases v <;> rfl
theorem ab_put_ref_8 {a0 a1 a2 a3 a4 a5 a6 a7 : Option Value} {b : Option Value} {x : Nat} : ab_put 8 (.ref x) (a0 :: a1 :: a2 :: a3 :: a4 :: a5 :: a6 :: a7 :: b :: L) = a0 :: a1 :: a2 :: a3 :: a4 :: a5 :: a6 :: ab_kl a7 :: some (.ref x) :: L := by
  rcases a7 with _ | v
  · rfl
  · cases v <;> rfl
theorem ab_put_long_8 {a0 a1 a2 a3 a4 a5 a6 a7 : Option Value} {b b2 : Option Value} {x : Int64} : ab_put 8 (.long x) (a0 :: a1 :: a2 :: a3 :: a4 :: a5 :: a6 :: a7 :: b :: b2 :: L) = a0 :: a1 :: a2 :: a3 :: a4 :: a5 :: a6 :: ab_kl a7 :: some (.long x) :: none :: L := by
  rcases a7 with _ | v
  · rfl
  · cases v <;> rfl
theorem ab_put_int_9 {a0 a1 a2 a3 a4 a5 a6 a7 a8 : Option Value} {b : Option Value} {x : Int32} : ab_put 9 (.int x) (a0 :: a1 :: a2 :: a3 :: a4 :: a5 :: a6 :: a7 :: a8 :: b :: L) = a0 :: a1 :: a2 :: a3 :: a4 :: a5 :: a6 :: a7 :: ab_kl a8 :: some (.int x) :: L := by
  rcases a8 with _ | v
  · rfl
  · cases v <;> rfl
theorem ab_put_ref_9 {a0 a1 a2 a3 a4 a5 a6 a7 a8 : Option Value} {b : Option Value} {x : Nat} : ab_put 9 (.ref x) (a0 :: a1 :: a2 :: a3 :: a4 :: a5 :: a6 :: a7 :: a8 :: b :: L) = a0 :: a1 :: a2 :: a3 :: a4 :: a5 :: a6 :: a7 :: ab_kl a8 :: some (.ref x) :: L := by
  rcases a8 with _ | v
  · rfl
  · cases v <;> rfl
theorem ab_put_long_9 {a0 a1 a2 a3 a4 a5 a6 a7 a8 : Option Value} {b b2 : Option Value} {x : Int64} : ab_put 9 (.long x) (a0 :: a1 :: a2 :: a3 :: a4 :: a5 :: a6 :: a7 :: a8 :: b :: b2 :: L) = a0 :: a1 :: a2 :: a3 :: a4 :: a5 :: a6 :: a7 :: ab_kl a8 :: some (.long x) :: none :: L := by
  rcases a8 with _ | v
  · rfl
  · cases v <;> rfl
theorem ab_put_int_10 {a0 a1 a2 a3 a4 a5 a6 a7 a8 a9 : Option Value} {b : Option Value} {x : Int32} : ab_put 10 (.int x) (a0 :: a1 :: a2 :: a3 :: a4 :: a5 :: a6 :: a7 :: a8 :: a9 :: b :: L) = a0 :: a1 :: a2 :: a3 :: a4 :: a5 :: a6 :: a7 :: a8 :: ab_kl a9 :: some (.int x) :: L := by
  rcases a9 with _ | v
  · rfl
  · cases v <;> rfl
theorem ab_put_ref_10 {a0 a1 a2 a3 a4 a5 a6 a7 a8 a9 : Option Value} {b : Option Value} {x : Nat} : ab_put 10 (.ref x) (a0 :: a1 :: a2 :: a3 :: a4 :: a5 :: a6 :: a7 :: a8 :: a9 :: b :: L) = a0 :: a1 :: a2 :: a3 :: a4 :: a5 :: a6 :: a7 :: a8 :: ab_kl a9 :: some (.ref x) :: L := by
  rcases a9 with _ | v
  · rfl
  · cases v <;> rfl
theorem ab_put_long_10 {a0 a1 a2 a3 a4 a5 a6 a7 a8 a9 : Option Value} {b b2 : Option Value} {x : Int64} : ab_put 10 (.long x) (a0 :: a1 :: a2 :: a3 :: a4 :: a5 :: a6 :: a7 :: a8 :: a9 :: b :: b2 :: L) = a0 :: a1 :: a2 :: a3 :: a4 :: a5 :: a6 :: a7 :: a8 :: ab_kl a9 :: some (.long x) :: none :: L := by
  rcases a9 with _ | v
  · rfl
  · cases v <;> rfl
theorem ab_put_int_11 {a0 a1 a2 a3 a4 a5 a6 a7 a8 a9 a10 : Option Value} {b : Option Value} {x : Int32} : ab_put 11 (.int x) (a0 :: a1 :: a2 :: a3 :: a4 :: a5 :: a6 :: a7 :: a8 :: a9 :: a10 :: b :: L) = a0 :: a1 :: a2 :: a3 :: a4 :: a5 :: a6 :: a7 :: a8 :: a9 :: ab_kl a10 :: some (.int x) :: L := by
  rcases a10 with _ | v
  · rfl
  · cases v <;> rfl
theorem ab_put_ref_11 {a0 a1 a2 a3 a4 a5 a6 a7 a8 a9 a10 : Option Value} {b : Option Value} {x : Nat} : ab_put 11 (.ref x) (a0 :: a1 :: a2 :: a3 :: a4 :: a5 :: a6 :: a7 :: a8 :: a9 :: a10 :: b :: L) = a0 :: a1 :: a2 :: a3 :: a4 :: a5 :: a6 :: a7 :: a8 :: a9 :: ab_kl a10 :: some (.ref x) :: L := by
  rcases a10 with _ | v
  · rfl
  · cases v <;> rfl
theorem ab_put_long_11 {a0 a1 a2 a3 a4 a5 a6 a7 a8 a9 a10 : Option Value} {b b2 : Option Value} {x : Int64} : ab_put 11 (.long x) (a0 :: a1 :: a2 :: a3 :: a4 :: a5 :: a6 :: a7 :: a8 :: a9 :: a10 :: b :: b2 :: L) = a0 :: a1 :: a2 :: a3 :: a4 :: a5 :: a6 :: a7 :: a8 :: a9 :: ab_kl a10 :: some (.long x) :: none :: L := by
  rcases a10 with _ | v
  · rfl
  · cases v <;> rfl
theorem Go_iadd {x z : Int32} : Go (some (.iadd, len)) mi pc (L) (.int z :: .int x :: S) h Q = Go (ab_at mi (pc + 1)) mi (pc + 1) (L) (.int (x + z) :: S) h Q := Go_next fun _ => rfl
theorem Go_isub {x z : Int32} : Go (some (.isub, len)) mi pc (L) (.int z :: .int x :: S) h Q = Go (ab_at mi (pc + 1)) mi (pc + 1) (L) (.int (x - z) :: S) h Q := Go_next fun _ => rfl
theorem Go_imul {x z : Int32} : Go (some (.imul, len)) mi pc (L) (.int z :: .int x :: S) h Q = Go (ab_at mi (pc + 1)) mi (pc + 1) (L) (.int (x * z) :: S) h Q := Go_next fun _ => rfl
theorem Go_iand {x z : Int32} : Go (some (.iand, len)) mi pc (L) (.int z :: .int x :: S) h Q = Go (ab_at mi (pc + 1)) mi (pc + 1) (L) (.int (x &&& z) :: S) h Q := Go_next fun _ => rfl
theorem Go_ior {x z : Int32} : Go (some (.ior, len)) mi pc (L) (.int z :: .int x :: S) h Q = Go (ab_at mi (pc + 1)) mi (pc + 1) (L) (.int (x ||| z) :: S) h Q := Go_next fun _ => rfl
theorem Go_ixor {x z : Int32} : Go (some (.ixor, len)) mi pc (L) (.int z :: .int x :: S) h Q = Go (ab_at mi (pc + 1)) mi (pc + 1) (L) (.int (x ^^^ z) :: S) h Q := Go_next fun _ => rfl
theorem Go_ishl {x z : Int32} : Go (some (.ishl, len)) mi pc (L) (.int z :: .int x :: S) h Q = Go (ab_at mi (pc + 1)) mi (pc + 1) (L) (.int (x <<< (z &&& 31)) :: S) h Q := Go_next fun _ => rfl
theorem Go_ishr {x z : Int32} : Go (some (.ishr, len)) mi pc (L) (.int z :: .int x :: S) h Q = Go (ab_at mi (pc + 1)) mi (pc + 1) (L) (.int (x >>> (z &&& 31)) :: S) h Q := Go_next fun _ => rfl
theorem Go_iushr {x z : Int32} : Go (some (.iushr, len)) mi pc (L) (.int z :: .int x :: S) h Q = Go (ab_at mi (pc + 1)) mi (pc + 1) (L) (.int ((x.toUInt32 >>> (z.toUInt32 &&& Int32.toUInt32 31)).toInt32) :: S) h Q := Go_next fun _ => rfl
theorem Go_ladd {x z : Int64} : Go (some (.ladd, len)) mi pc (L) (.long z :: .long x :: S) h Q = Go (ab_at mi (pc + 1)) mi (pc + 1) (L) (.long (x + z) :: S) h Q := Go_next fun _ => rfl
theorem Go_lsub {x z : Int64} : Go (some (.lsub, len)) mi pc (L) (.long z :: .long x :: S) h Q = Go (ab_at mi (pc + 1)) mi (pc + 1) (L) (.long (x - z) :: S) h Q := Go_next fun _ => rfl
theorem Go_lmul {x z : Int64} : Go (some (.lmul, len)) mi pc (L) (.long z :: .long x :: S) h Q = Go (ab_at mi (pc + 1)) mi (pc + 1) (L) (.long (x * z) :: S) h Q := Go_next fun _ => rfl
theorem Go_lneg {x : Int64} : Go (some (.lneg, len)) mi pc (L) (.long x :: S) h Q = Go (ab_at mi (pc + 1)) mi (pc + 1) (L) (.long (-x) :: S) h Q := Go_next fun _ => rfl
theorem Go_lcmp {x z : Int64} : Go (some (.lcmp, len)) mi pc (L) (.long z :: .long x :: S) h Q = Go (ab_at mi (pc + 1)) mi (pc + 1) (L) (.int (lg_cmp x z) :: S) h Q := Go_next fun _ => rfl
theorem Go_i2l {x : Int32} : Go (some (.i2l, len)) mi pc (L) (.int x :: S) h Q = Go (ab_at mi (pc + 1)) mi (pc + 1) (L) (.long x.toInt64 :: S) h Q := Go_next fun _ => rfl
theorem Go_l2i {x : Int64} : Go (some (.l2i, len)) mi pc (L) (.long x :: S) h Q = Go (ab_at mi (pc + 1)) mi (pc + 1) (L) (.int x.toInt32 :: S) h Q := Go_next fun _ => rfl
theorem Go_i2b {x : Int32} : Go (some (.i2b, len)) mi pc (L) (.int x :: S) h Q = Go (ab_at mi (pc + 1)) mi (pc + 1) (L) (.int x.toInt8.toInt32 :: S) h Q := Go_next fun _ => rfl
theorem Go_i2s {x : Int32} : Go (some (.i2s, len)) mi pc (L) (.int x :: S) h Q = Go (ab_at mi (pc + 1)) mi (pc + 1) (L) (.int x.toInt16.toInt32 :: S) h Q := Go_next fun _ => rfl
theorem Go_dup_int {x : Int32} : Go (some (.dup, len)) mi pc (L) (.int x :: S) h Q = Go (ab_at mi (pc + 1)) mi (pc + 1) (L) (.int x :: .int x :: S) h Q := Go_next fun _ => rfl
theorem Go_pop_int {x : Int32} : Go (some (.pop, len)) mi pc (L) (.int x :: S) h Q = Go (ab_at mi (pc + 1)) mi (pc + 1) (L) (S) h Q := Go_next fun _ => rfl
theorem Go_dup_ref {x : Nat} : Go (some (.dup, len)) mi pc (L) (.ref x :: S) h Q = Go (ab_at mi (pc + 1)) mi (pc + 1) (L) (.ref x :: .ref x :: S) h Q := Go_next fun _ => rfl
theorem Go_pop_ref {x : Nat} : Go (some (.pop, len)) mi pc (L) (.ref x :: S) h Q = Go (ab_at mi (pc + 1)) mi (pc + 1) (L) (S) h Q := Go_next fun _ => rfl
theorem Go_pop2 {x : Int64} : Go (some (.pop2, len)) mi pc (L) (.long x :: S) h Q = Go (ab_at mi (pc + 1)) mi (pc + 1) (L) (S) h Q := Go_next fun _ => rfl
theorem Go_dup2 {x : Int32} {z : Nat} : Go (some (.dup2, len)) mi pc (L) (.int x :: .ref z :: S) h Q = Go (ab_at mi (pc + 1)) mi (pc + 1) (L) (.int x :: .ref z :: .int x :: .ref z :: S) h Q := Go_next fun _ => rfl
theorem Go_cond {ins : Instr} {P : Prop} {q : Decidable P} {pc' : Nat} {L' : ab_L} {S' : List Value} {h' : ab_H} (hst : ∀ call, ab_step call (ab_own mi) (ab_ini mi) (ab_rt mi) none ins len pc L S h = if P then some (.inl (pc', L', S', h')) else none) : Go (some (ins, len)) mi pc L S h Q = (P ∧ Go (ab_at mi pc') mi pc' L' S' h' Q) := by
  by_cases hP : P
  · rw [Go_next (fun call => (hst call).trans (if_pos hP))]
    exact propext ⟨fun z => ⟨hP, z⟩, fun z => z.2⟩
  · rw [Go_stuck (fun call => (hst call).trans (if_neg hP))]
    exact propext ⟨fun z => z.elim, fun z => hP z.1⟩
theorem Go_irem {x z : Int32} : Go (some (.irem, len)) mi pc L (.int z :: .int x :: S) h Q = (¬ z = 0 ∧ Go (ab_at mi (pc + 1)) mi (pc + 1) L (.int (x - x / z * z) :: S) h Q) := by
  by_cases hz : z = 0
  · rw [Go_stuck (mi := mi) (pc := pc) (len := len) (ins := .irem) (L := L) (S := .int z :: .int x :: S) (h := h) (Q := Q) (fun call => if_pos hz)]
    exact propext ⟨fun w => w.elim, fun w => w.1 hz⟩
  · rw [Go_next (mi := mi) (pc := pc) (len := len) (ins := .irem) (L := L) (S := .int z :: .int x :: S) (h := h) (Q := Q) (fun call => if_neg hz)]
    exact propext ⟨fun w => ⟨hz, w⟩, fun w => w.2⟩
theorem Go_ldiv {x z : Int64} : Go (some (.ldiv, len)) mi pc L (.long z :: .long x :: S) h Q = (¬ z = 0 ∧ Go (ab_at mi (pc + 1)) mi (pc + 1) L (.long (x / z) :: S) h Q) := by
  by_cases hz : z = 0
  · rw [Go_stuck (mi := mi) (pc := pc) (len := len) (ins := .ldiv) (L := L) (S := .long z :: .long x :: S) (h := h) (Q := Q) (fun call => if_pos hz)]
    exact propext ⟨fun w => w.elim, fun w => w.1 hz⟩
  · rw [Go_next (mi := mi) (pc := pc) (len := len) (ins := .ldiv) (L := L) (S := .long z :: .long x :: S) (h := h) (Q := Q) (fun call => if_neg hz)]
    exact propext ⟨fun w => ⟨hz, w⟩, fun w => w.2⟩
theorem Go_ite {P : Prop} {q : Decidable P} {a b : Nat} : Go (ab_at mi (if P then a else b)) mi (if P then a else b) L S h Q = if P then Go (ab_at mi a) mi a L S h Q else Go (ab_at mi b) mi b L S h Q := by
  split <;> rfl
theorem Go_icmp {c : Jvm.ClassFile.Cond} {off : Int} {x z : Int32} : Go (some (.if_icmp c off, len)) mi pc L (.int z :: .int x :: S) h Q = (0 ≤ (pc : Int) + off ∧ if ab_cmp c x z = true then Go (ab_at mi ((pc : Int) + off).toNat) mi ((pc : Int) + off).toNat L S h Q else Go (ab_at mi (pc + 3)) mi (pc + 3) L S h Q) := by
  rw [Go_cond (mi := mi) (pc := pc) (len := len) (ins := .if_icmp c off) (L := L) (S := .int z :: .int x :: S) (h := h) (Q := Q) (fun _ => rfl), Go_ite]
theorem Go_if {c : Jvm.ClassFile.Cond} {off : Int} {x : Int32} : Go (some (.ifCond c off, len)) mi pc L (.int x :: S) h Q = (0 ≤ (pc : Int) + off ∧ if ab_cmp c x 0 = true then Go (ab_at mi ((pc : Int) + off).toNat) mi ((pc : Int) + off).toNat L S h Q else Go (ab_at mi (pc + 3)) mi (pc + 3) L S h Q) := by
  rw [Go_cond (mi := mi) (pc := pc) (len := len) (ins := .ifCond c off) (L := L) (S := .int x :: S) (h := h) (Q := Q) (fun _ => rfl), Go_ite]
theorem Go_goto {off : Int} : Go (some (.goto off, len)) mi pc L S h Q = (0 ≤ (pc : Int) + off ∧ Go (ab_at mi ((pc : Int) + off).toNat) mi ((pc : Int) + off).toNat L S h Q) := Go_cond fun _ => rfl
theorem ab_cmp_eq (x z : Int32) : (ab_cmp .eq x z = true) = (x = z) := by simp [ab_cmp]
theorem ab_cmp_ne (x z : Int32) : (ab_cmp .ne x z = true) = (¬ x = z) := by simp [ab_cmp]
theorem ab_cmp_lt (x z : Int32) : (ab_cmp .lt x z = true) = (x < z) := by simp [ab_cmp]
theorem ab_cmp_ge (x z : Int32) : (ab_cmp .ge x z = true) = (z ≤ x) := by simp [ab_cmp]
theorem ab_cmp_gt (x z : Int32) : (ab_cmp .gt x z = true) = (z < x) := by simp [ab_cmp]
theorem ab_cmp_le (x z : Int32) : (ab_cmp .le x z = true) = (x ≤ z) := by simp [ab_cmp]
/-- a switch -/
theorem Go_table {dflt lo hi : Int} {offs : Array Int} {x : Int32} : Go (some (.tableswitch dflt lo hi offs, len)) mi pc L (.int x :: S) h Q = if x.toInt < lo ∨ hi < x.toInt then Go (some (.goto dflt, len)) mi pc L S h Q else match offs[(x.toInt - lo).toNat]? with | some off => Go (some (.goto off, len)) mi pc L S h Q | none => False := by
  by_cases hc : x.toInt < lo ∨ hi < x.toInt
  · rw [if_pos hc, Go_goto, Go_cond (mi := mi) (pc := pc) (len := len) (ins := .tableswitch dflt lo hi offs) (L := L) (S := .int x :: S) (h := h) (Q := Q) (fun _ => if_pos hc)]
  · rw [if_neg hc]
    cases ho : offs[(x.toInt - lo).toNat]? with
    | none =>
      rw [Go_stuck (mi := mi) (pc := pc) (len := len) (ins := .tableswitch dflt lo hi offs) (L := L) (S := .int x :: S) (h := h) (Q := Q) (fun _ => by unfold ab_step; simp only; rw [if_neg hc, ho])]
    | some off =>
      simp only
      rw [Go_goto, Go_cond (mi := mi) (pc := pc) (len := len) (ins := .tableswitch dflt lo hi offs) (L := L) (S := .int x :: S) (h := h) (Q := Q) (P := 0 ≤ (pc : Int) + off) (fun _ => by unfold ab_step; simp only; rw [if_neg hc, ho]; rfl)]
/-- fields -/
def GoG (x : Option (Nat × Nat)) (mi pc : Nat) (L : ab_L) (o : Nat) (S : List Value) (h : ab_H) (Q : Option Value → ab_H → Prop) : Prop := match x with
  | some (ci, k) => ab_ref h o ci = true ∧ k < ab_N ci ∧ ci < 8 ∧ Go (ab_at mi (pc + 3)) mi (pc + 3) L (ab_gv h o k (ab_ty ci k) :: S) h Q
  | none => False
theorem Go_getf {i o : Nat} : Go (some (.getfield i, len)) mi pc L (.ref o :: S) h Q = GoG (ab_fl (ab_own mi) i) mi pc L o S h Q := by
  cases hf : ab_fl (ab_own mi) i with
  | none =>
    rw [Go_stuck (mi := mi) (pc := pc) (len := len) (ins := .getfield i) (L := L) (S := .ref o :: S) (h := h) (Q := Q) (fun _ => by unfold ab_step; simp only; rw [hf])]
    rfl
  | some x =>
    obtain ⟨ci, k⟩ := x
    rw [Go_cond (mi := mi) (pc := pc) (len := len) (ins := .getfield i) (L := L) (S := .ref o :: S) (h := h) (Q := Q) (P := (ab_ref h o ci && decide (k < ab_N ci) && decide (ci < 8)) = true) (fun _ => by unfold ab_step; simp only; rw [hf])]
    simp only [GoG, Bool.and_eq_true, decide_eq_true_eq, and_assoc]
def GoP (x : Option (Nat × Nat)) (mi pc : Nat) (L : ab_L) (o : Nat) (v : Value) (S : List Value) (h : ab_H) (Q : Option Value → ab_H → Prop) : Prop := match x with
  | some (ci, k) => ab_ref h o ci = true ∧ k < ab_N ci ∧ ci < 8 ∧ ab_fit (ab_ty ci k) v = true ∧ ab_rlok h o k v = true ∧ ab_lt (ab_nx h) v = true ∧ ((ab_T ci k).2.2.2 = false ∨ (ab_ini mi = true ∧ ab_own mi = ci)) ∧ Go (ab_at mi (pc + 3)) mi (pc + 3) L S (ab_setv h o k v) Q
  | none => False
theorem Go_putf {i o : Nat} {v : Value} : Go (some (.putfield i, len)) mi pc L (v :: .ref o :: S) h Q = GoP (ab_fl (ab_own mi) i) mi pc L o v S h Q := by
  cases hf : ab_fl (ab_own mi) i with
  | none =>
    rw [Go_stuck (mi := mi) (pc := pc) (len := len) (ins := .putfield i) (L := L) (S := v :: .ref o :: S) (h := h) (Q := Q) (fun _ => by unfold ab_step; simp only; rw [hf])]
    rfl
  | some x =>
    obtain ⟨ci, k⟩ := x
    rw [Go_cond (mi := mi) (pc := pc) (len := len) (ins := .putfield i) (L := L) (S := v :: .ref o :: S) (h := h) (Q := Q) (P := (ab_ref h o ci && decide (k < ab_N ci) && decide (ci < 8) && ab_fit (ab_ty ci k) v && ab_rlok h o k v && ab_lt (ab_nx h) v && (!(ab_T ci k).2.2.2 || (ab_ini mi && decide (ab_own mi = ci)))) = true) (fun _ => by unfold ab_step; simp only; rw [hf])]
    simp only [GoP, Bool.and_eq_true, Bool.or_eq_true, Bool.not_eq_true', decide_eq_true_eq, and_assoc]
/-- arrays -/
theorem Go_iaload {i : Int32} {o : Nat} (ho : o < 2000) : Go (some (.iaload, len)) mi pc L (.int i :: .ref o :: S) h Q = (ab_ref h o 10 = true ∧ ab_in i (ab_ln h o) = true ∧ Go (ab_at mi (pc + 1)) mi (pc + 1) L (.int (h.2.1 o i.toNatClampNeg) :: S) h Q) := by
  rw [Go_cond (mi := mi) (pc := pc) (len := len) (ins := .iaload) (L := L) (S := .int i :: .ref o :: S) (h := h) (Q := Q) (P := (ab_ref h o 10 && ab_in i (ab_ln h o)) = true) (fun _ => if_neg (show ¬ o = 2000 by omega)), Bool.and_eq_true, and_assoc]
theorem Go_baload {i : Int32} {o : Nat} : Go (some (.baload, len)) mi pc L (.int i :: .ref o :: S) h Q = ((ab_ref h o 12 || ab_ref h o 13) = true ∧ ab_in i (ab_ln h o) = true ∧ Go (ab_at mi (pc + 1)) mi (pc + 1) L (.int (h.2.1 o i.toNatClampNeg) :: S) h Q) := by
  rw [Go_cond (mi := mi) (pc := pc) (len := len) (ins := .baload) (L := L) (S := .int i :: .ref o :: S) (h := h) (Q := Q) (P := ((ab_ref h o 12 || ab_ref h o 13) && ab_in i (ab_ln h o)) = true) (fun _ => rfl), Bool.and_eq_true, and_assoc]
theorem Go_laload {i : Int32} {o : Nat} : Go (some (.laload, len)) mi pc L (.int i :: .ref o :: S) h Q = (ab_ref h o 11 = true ∧ ab_in i (ab_ln h o) = true ∧ Go (ab_at mi (pc + 1)) mi (pc + 1) L (.long (h.2.2 o i.toNatClampNeg) :: S) h Q) := by
  rw [Go_cond (mi := mi) (pc := pc) (len := len) (ins := .laload) (L := L) (S := .int i :: .ref o :: S) (h := h) (Q := Q) (P := (ab_ref h o 11 && ab_in i (ab_ln h o)) = true) (fun _ => rfl), Bool.and_eq_true, and_assoc]
theorem Go_aaload {i : Int32} {o : Nat} : Go (some (.aaload, len)) mi pc L (.int i :: .ref o :: S) h Q = ((ab_ref h o 14 || ab_ref h o 15) = true ∧ ab_in i (ab_ln h o) = true ∧ Go (ab_at mi (pc + 1)) mi (pc + 1) L (va_rf (ab_rf h o i.toNatClampNeg) :: S) h Q) := by
  rw [Go_cond (mi := mi) (pc := pc) (len := len) (ins := .aaload) (L := L) (S := .int i :: .ref o :: S) (h := h) (Q := Q) (P := ((ab_ref h o 14 || ab_ref h o 15) && ab_in i (ab_ln h o)) = true) (fun _ => rfl), Bool.and_eq_true, and_assoc]
theorem Go_iastore {i x : Int32} {o : Nat} : Go (some (.iastore, len)) mi pc L (.int x :: .int i :: .ref o :: S) h Q = (ab_ref h o 10 = true ∧ ab_in i (ab_ln h o) = true ∧ Go (ab_at mi (pc + 1)) mi (pc + 1) L S (ab_seti h o i.toNatClampNeg x) Q) := by
  rw [Go_cond (mi := mi) (pc := pc) (len := len) (ins := .iastore) (L := L) (S := .int x :: .int i :: .ref o :: S) (h := h) (Q := Q) (P := (ab_ref h o 10 && ab_in i (ab_ln h o)) = true) (fun _ => rfl), Bool.and_eq_true, and_assoc]
theorem Go_lastore {i : Int32} {x : Int64} {o : Nat} : Go (some (.lastore, len)) mi pc L (.long x :: .int i :: .ref o :: S) h Q = (ab_ref h o 11 = true ∧ ab_in i (ab_ln h o) = true ∧ Go (ab_at mi (pc + 1)) mi (pc + 1) L S (ab_setl h o i.toNatClampNeg x) Q) := by
  rw [Go_cond (mi := mi) (pc := pc) (len := len) (ins := .lastore) (L := L) (S := .long x :: .int i :: .ref o :: S) (h := h) (Q := Q) (P := (ab_ref h o 11 && ab_in i (ab_ln h o)) = true) (fun _ => rfl), Bool.and_eq_true, and_assoc]
theorem Go_bastore {i x : Int32} {o : Nat} : Go (some (.bastore, len)) mi pc L (.int x :: .int i :: .ref o :: S) h Q = ((ab_ref h o 12 || ab_ref h o 13) = true ∧ ab_in i (ab_ln h o) = true ∧ Go (ab_at mi (pc + 1)) mi (pc + 1) L S (ab_seti h o i.toNatClampNeg (if ab_kd h o = 12 then vp_nar .boolean x else vp_nar .byte x)) Q) := by
  rw [Go_cond (mi := mi) (pc := pc) (len := len) (ins := .bastore) (L := L) (S := .int x :: .int i :: .ref o :: S) (h := h) (Q := Q) (P := ((ab_ref h o 12 || ab_ref h o 13) && ab_in i (ab_ln h o)) = true) (fun _ => rfl), Bool.and_eq_true, and_assoc]
theorem Go_ldc {i : Nat} {v : Int32} (hv : ab_kI (ab_own mi) i = some v) : Go (some (.ldc i, len)) mi pc L S h Q = Go (ab_at mi (pc + 2)) mi (pc + 2) L (.int v :: S) h Q := Go_next fun _ => by unfold ab_step; simp only; rw [hv]
theorem Go_ldc_w {i : Nat} {v : Int32} (hv : ab_kI (ab_own mi) i = some v) : Go (some (.ldc_w i, len)) mi pc L S h Q = Go (ab_at mi (pc + 3)) mi (pc + 3) L (.int v :: S) h Q := Go_next fun _ => by unfold ab_step; simp only; rw [hv]
theorem Go_ldc2 {i : Nat} {v : Int64} (hv : ab_kL (ab_own mi) i = some v) : Go (some (.ldc2_w i, len)) mi pc L S h Q = Go (ab_at mi (pc + 3)) mi (pc + 3) L (.long v :: S) h Q := Go_next fun _ => by unfold ab_step; simp only; rw [hv]
/-- ends -/
theorem Go_ireturn {v : Int32} {ty : FieldType} (hr : ab_rt mi = some ty) : Go (some (.ireturn, len)) mi pc L [.int v] h Q = (narrow ty (.int v) = .int v ∧ Q (some (.int v)) h) := by
  by_cases hn : narrow ty (.int v) = .int v
  · rw [Go_end (r := (some (.int v), h)) (fun _ => by unfold ab_step ab_ret; rw [hr]; exact if_pos hn)]
    exact propext ⟨fun z => ⟨hn, z⟩, fun z => z.2⟩
  · rw [Go_stuck (fun _ => by unfold ab_step ab_ret; rw [hr]; exact if_neg hn)]
    exact propext ⟨fun z => z.elim, fun z => hn z.1⟩
theorem Go_lreturn {v : Int64} (hr : ab_rt mi = some .long) : Go (some (.lreturn, len)) mi pc L [.long v] h Q = Q (some (.long v)) h := Go_end (r := (some (.long v), h)) fun _ => if_pos hr
theorem Go_return (hr : ab_rt mi = none) : Go (some (.return_, len)) mi pc L [] h Q = Q none h := Go_end (r := (none, h)) fun _ => if_pos hr
/-- calls -/
def ab_sh (h h' : ab_H) (L : ab_L) (rest : List Value) : Prop := (ab_nx h' = ab_nx h ∧ ab_sl h' = ab_sl h) ∨ (ab_nx h ≤ ab_nx h' ∧ ab_sl h ≤ ab_sl h' ∧ (L.all (fun v => (v.map (ab_ok (ab_nx h))).getD true) && rest.all (ab_ok (ab_nx h))) = true)
theorem Go_callgen {ins : Instr} {mj : Nat} {vs rest : List Value} (hst : ∀ call, ab_step call (ab_own mi) (ab_ini mi) (ab_rt mi) none ins len pc L S h = ab_call call mj vs pc L rest h) : Go (some (ins, len)) mi pc L S h Q = (ab_cat rest ≤ 8 ∧ Ex mj vs h (fun r h' => ab_sh h h' L rest ∧ Go (ab_at mi (pc + 3)) mi (pc + 3) L (r.toList ++ rest) h' Q)) := by
  apply propext
  constructor
  · intro z
    unfold Go at z
    simp only [hst] at z
    obtain ⟨n, z⟩ := z
    unfold ab_call at z
    by_cases hc : ab_cat rest ≤ 8
    · rw [if_pos hc] at z
      refine ⟨hc, ?_⟩
      cases hcl : ab_ex none n mj vs h with
      | none => rw [hcl] at z; exact z.elim
      | some x =>
        obtain ⟨rv, h'⟩ := x
        rw [hcl] at z
        simp only at z
        refine ⟨n, rv, h', hcl, ?_⟩
        by_cases hs : ab_sh h h' L rest
        · refine ⟨hs, ?_⟩
          unfold ab_sh at hs
          rw [if_pos hs] at z
          exact Rn_Go.mp ⟨n, z⟩
        · unfold ab_sh at hs
          rw [if_neg hs] at z
          exact z.elim
    · rw [if_neg hc] at z
      exact z.elim
  · rintro ⟨hc, n, rv, h', hcl, hs, hg⟩
    obtain ⟨k, r, h2, h3, h4⟩ := Rn_Go.mpr hg
    unfold Go
    simp only [hst]
    refine ⟨n + k, ?_⟩
    unfold ab_call
    rw [if_pos hc, ab_ex_le n (n + k) (by omega) _ _ _ _ hcl]
    simp only
    unfold ab_sh at hs
    rw [if_pos hs]
    exact ⟨r, h2, ab_loop_le (ab_ex_le k (n + k) (by omega)) k (n + k) _ (by omega) h3, h4⟩
def GoV (x : Option (Nat × Nat)) (mi pc : Nat) (L : ab_L) (S : List Value) (h : ab_H) (Q : Option Value → ab_H → Prop) : Prop := match x with
  | some (mj, kd) => kd = 0 ∧ ∃ b rest, S.drop (ab_np mj) = .ref b :: rest ∧ ab_ref h b (ab_own mj) = true ∧ ab_own mj < 8 ∧ (S.take (ab_np mj)).all (ab_ok (ab_nx h)) = true ∧ ab_cat rest ≤ 8 ∧ Ex mj (.ref b :: (S.take (ab_np mj)).reverse) h (fun r h' => ab_sh h h' L rest ∧ Go (ab_at mi (pc + 3)) mi (pc + 3) L (r.toList ++ rest) h' Q)
  | none => False
theorem Go_invv {i mj b : Nat} {rest : List Value} (hm : ab_ml (ab_own mi) i = some (mj, 0)) (hd : S.drop (ab_np mj) = .ref b :: rest) (hr : ab_ref h b (ab_own mj) = true) (h9 : ab_own mj < 8) (ha : (S.take (ab_np mj)).all (ab_ok (ab_nx h)) = true) : Go (some (.invokevirtual i, len)) mi pc L S h Q = (ab_cat rest ≤ 8 ∧ Ex mj (.ref b :: (S.take (ab_np mj)).reverse) h (fun r h' => ab_sh h h' L rest ∧ Go (ab_at mi (pc + 3)) mi (pc + 3) L (r.toList ++ rest) h' Q)) := by
  refine Go_callgen (fun call => ?_)
  show ab_inv call (ab_own mi) i true pc L S h = _
  unfold ab_inv
  rw [hm]
  simp only [if_true]
  rw [hd]
  simp only
  rw [if_pos (by rw [hr, decide_eq_true h9, ha]; rfl)]
theorem Go_invs {i mj kd : Nat} (hm : ab_ml (ab_own mi) i = some (mj, kd)) (hk : kd = 1 ∨ kd = 2) (hl : ab_np mj ≤ S.length) (ha : (S.take (ab_np mj)).all (ab_ok (ab_nx h)) = true) : Go (some (.invokestatic i, len)) mi pc L S h Q = (ab_cat (S.drop (ab_np mj)) ≤ 8 ∧ Ex mj (S.take (ab_np mj)).reverse h (fun r h' => ab_sh h h' L (S.drop (ab_np mj)) ∧ Go (ab_at mi (pc + 3)) mi (pc + 3) L (r.toList ++ S.drop (ab_np mj)) h' Q)) := by
  refine Go_callgen (fun call => ?_)
  show ab_inv call (ab_own mi) i false pc L S h = _
  unfold ab_inv
  rw [hm]
  simp only [Bool.false_eq_true, if_false]
  rw [if_pos hk, if_pos ⟨hl, ha⟩]
end RUL
