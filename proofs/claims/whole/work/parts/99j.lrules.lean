/-! THE LAW'S STEPS -/
/-- from here the law comes to its end with Q -/
def LR (xs : List Int32) (F : ab_F) (Q : Option Value → ab_H → Prop) : Prop := ∃ (n : Nat) (r : Option Value) (h' : ab_H), ab_loop (ab_ex n) lw_cd 10 false (some .boolean) (some xs) n F = some (r, h') ∧ Q r h'
section LWR
variable {xs : List Int32} {pc len : Nat} {ins : Instr} {L : ab_L} {S : List Value} {h : ab_H} {F : ab_F} {Q : Option Value → ab_H → Prop} {i : Int32} {I : Nat → Nat → Int32} {J : Nat → Nat → Int64}
theorem LR_ste (hc : lw_cd pc = some (ins, len)) (hs : ∀ call, ab_step call 10 false (some .boolean) (some xs) ins len pc L S h = some (.inl F)) (z : LR xs F Q) : LR xs (pc, L, S, h) Q := by
  obtain ⟨n, r, h', h1, h2⟩ := z
  refine ⟨n + 1, r, h', ?_, h2⟩
  unfold ab_loop
  rw [hc]
  simp only [hs]
  exact ab_loop_le (ab_ex_le n (n + 1) (by omega)) n n F (Nat.le_refl _) h1
theorem LR_end {r : Option Value × ab_H} (hc : lw_cd pc = some (ins, len)) (hs : ∀ call, ab_step call 10 false (some .boolean) (some xs) ins len pc L S h = some (.inr r)) (z : Q r.1 r.2) : LR xs (pc, L, S, h) Q := by
  refine ⟨1, r.1, r.2, ?_, z⟩
  unfold ab_loop
  rw [hc]
  simp only [hs]
theorem LR_call {mj : Nat} {vs rest : List Value} (hc : lw_cd pc = some (ins, len)) (hst : ∀ call, ab_step call 10 false (some .boolean) (some xs) ins len pc L S h = ab_call call mj vs pc L rest h) (hcat : ab_cat rest ≤ 8) (z : Ex mj vs h (fun r h' => ab_sh h h' L rest ∧ LR xs (pc + 3, L, r.toList ++ rest, h') Q)) : LR xs (pc, L, S, h) Q := by
  obtain ⟨n, rv, h', hcl, hs, k, r, h2, h3, h4⟩ := z
  refine ⟨n + k + 1, r, h2, ?_, h4⟩
  unfold ab_loop
  rw [hc]
  simp only [hst]
  unfold ab_call
  rw [if_pos hcat, ab_ex_le n (n + k + 1) (by omega) _ _ _ _ hcl]
  simp only
  unfold ab_sh at hs
  rw [if_pos hs]
  exact ab_loop_le (ab_ex_le k (n + k + 1) (by omega)) k (n + k) _ (by omega) h3
theorem Ex_mono {mi : Nat} {vs : List Value} {Q' : Option Value → ab_H → Prop} (z : Ex mi vs h Q) (hq : ∀ r h', Q r h' → Q' r h') : Ex mi vs h Q' := by
  obtain ⟨n, r, h', h1, h2⟩ := z
  exact ⟨n, r, h', h1, hq _ _ h2⟩
/-- the law's locals: the script, the class's object, the reference's, the place -/
def LL (i : Int32) : ab_L := [some (.ref 2000), some (.ref 0), some (.ref 199), some (.int i)]
def lw_x (xs : List Int32) (i : Int32) (j : Nat) : Int32 := xs.getD (i + Int32.ofInt (j : Int)).toNatClampNeg 0
def lw_is (pc j : Nat) : Bool := decide (lw_cd pc = some (.aload_n 0, 1) ∧ lw_cd (pc + 1) = some (.iload_n 3, 1) ∧ lw_cd (pc + 2) = some (.iconst (j : Int), 1) ∧ lw_cd (pc + 3) = some (.iadd, 1) ∧ lw_cd (pc + 4) = some (.iaload, 1))
def lw_B (xs : List Int32) (i : Int32) : Prop := ∀ j : Nat, j ≤ 5 → ab_in (i + Int32.ofInt (j : Int)) xs.length = true
theorem lr_arg {j : Nat} (hk : lw_is pc j = true) (hb : ab_in (i + Int32.ofInt (j : Int)) xs.length = true) (z : LR xs (pc + 5, LL i, .int (lw_x xs i j) :: S, h) Q) : LR xs (pc, LL i, S, h) Q := by
  obtain ⟨e0, e1, e2, e3, e4⟩ := of_decide_eq_true hk
  refine LR_ste e0 (F := (pc + 1, LL i, .ref 2000 :: S, h)) (fun call => rfl) ?_
  refine LR_ste e1 (F := (pc + 2, LL i, .int i :: .ref 2000 :: S, h)) (fun call => rfl) ?_
  refine LR_ste e2 (F := (pc + 3, LL i, .int (Int32.ofInt (j : Int)) :: .int i :: .ref 2000 :: S, h)) (fun call => rfl) ?_
  refine LR_ste e3 (F := (pc + 4, LL i, .int (i + Int32.ofInt (j : Int)) :: .ref 2000 :: S, h)) (fun call => rfl) ?_
  refine LR_ste e4 (F := (pc + 5, LL i, .int (lw_x xs i j) :: S, h)) (fun call => ?_) z
  unfold ab_step
  exact (if_pos rfl).trans (if_pos hb)
def lw_A (xs : List Int32) (i : Int32) (k : Nat) : List Value := (List.range k).map (fun j => Value.int (lw_x xs i (j + 1)))
theorem lw_A_len (k : Nat) : (lw_A xs i k).length = k := by
  unfold lw_A
  rw [List.length_map, List.length_range]
theorem lw_A_ok (k n : Nat) : (lw_A xs i k).all (ab_ok n) = true := by
  unfold lw_A
  rw [List.all_eq_true]
  intro v hv
  obtain ⟨j, -, rfl⟩ := List.mem_map.mp hv
  rfl
def lw_as (pc k : Nat) : Bool := (List.range k).all (fun j => lw_is (pc + 5 * j) (j + 1))
theorem lr_args (hb : lw_B xs i) : ∀ (k : Nat), k ≤ 5 → lw_as pc k = true → LR xs (pc + 5 * k, LL i, (lw_A xs i k).reverse ++ S, h) Q → LR xs (pc, LL i, S, h) Q := by
  intro k
  induction k with
  | zero => intro _ _ z; exact z
  | succ k ih =>
    intro hk ha z
    have hall := List.all_eq_true.mp ha
    refine ih (by omega) (List.all_eq_true.mpr fun j hj => hall j (List.mem_range.mpr (by have := List.mem_range.mp hj; omega))) ?_
    refine lr_arg (hall k (List.mem_range.mpr (by omega))) (hb (k + 1) hk) ?_
    have e : (lw_A xs i (k + 1)).reverse ++ S = Value.int (lw_x xs i (k + 1)) :: ((lw_A xs i k).reverse ++ S) := by
      unfold lw_A
      rw [List.range_succ, List.map_append, List.reverse_append]
      rfl
    rw [e] at z
    exact z
theorem lr_call {k ic mc b : Nat} {A : List Value} (hc : lw_cd pc = some (.invokevirtual ic, 3)) (hm : ab_ml 10 ic = some (mc, 0)) (hn : ab_np mc = k) (ho : ab_ref sh_z b (ab_own mc) = true) (h9 : ab_own mc < 9) (hA : A.length = k) (hok : A.all (ab_ok 219) = true) (hcat : ab_cat S ≤ 8) (z : Ex mc (.ref b :: A) (SH, I, J) (fun r h' => ∃ I' J', h' = (SH, I', J') ∧ LR xs (pc + 3, L, r.toList ++ S, (SH, I', J')) Q)) : LR xs (pc, L, A.reverse ++ .ref b :: S, (SH, I, J)) Q := by
  have hd : List.drop (ab_np mc) (A.reverse ++ .ref b :: S) = .ref b :: S := List.drop_left' (by rw [List.length_reverse, hA, hn])
  have ht : List.take (ab_np mc) (A.reverse ++ .ref b :: S) = A.reverse := List.take_left' (by rw [List.length_reverse, hA, hn])
  refine LR_call hc (mj := mc) (vs := .ref b :: A) (rest := S) (fun call => ?_) hcat (Ex_mono z fun r h' hq => ?_)
  · show ab_inv call 10 ic true pc L (A.reverse ++ .ref b :: S) (SH, I, J) = _
    unfold ab_inv
    rw [hm]
    simp only [if_true]
    rw [hd]
    simp only
    rw [ht, List.reverse_reverse]
    refine if_pos ?_
    rw [sh_ref, ho, decide_eq_true h9, List.all_reverse, sh_nx, hok]
    rfl
  · obtain ⟨I', J', rfl, z⟩ := hq
    exact ⟨Or.inl ⟨rfl, rfl⟩, z⟩
def lw_two (p k ic im mc mm : Nat) : Bool := decide (lw_cd p = some (.aload_n 1, 1)) && lw_as (p + 1) k && decide (lw_cd (p + 1 + 5 * k) = some (.invokevirtual ic, 3)) && decide (lw_cd (p + 1 + 5 * k + 3) = some (.aload_n 2, 1)) && lw_as (p + 1 + 5 * k + 3 + 1) k && decide (lw_cd (p + 1 + 5 * k + 3 + 1 + 5 * k) = some (.invokevirtual im, 3)) && decide (ab_ml 10 ic = some (mc, 0) ∧ ab_ml 10 im = some (mm, 0) ∧ ab_np mc = k ∧ ab_np mm = k ∧ ab_own mc = 7 ∧ ab_own mm = 8 ∧ k ≤ 5)
theorem lr_two {p k ic im mc mm : Nat} {T : Value → Value → Prop} (hk : lw_two p k ic im mc mm = true) (hb : lw_B xs i) (hT : ∀ v w, T v w → v.category ≤ 2)
    (hend : ∀ v w I J, T v w → LR xs (1068, LL i, [], (SH, I, J)) Q → LR xs (p + 1 + 5 * k + 3 + 1 + 5 * k + 3, LL i, [w, v], (SH, I, J)) Q)
    (z : Ex mc (.ref 0 :: lw_A xs i k) (SH, I, J) (fun r h' => ∃ I1 J1 v, h' = (SH, I1, J1) ∧ r = some v ∧ v.category ≤ 2 ∧ Ex mm (.ref 199 :: lw_A xs i k) (SH, I1, J1) (fun r h' => ∃ I2 J2 w, h' = (SH, I2, J2) ∧ r = some w ∧ T v w ∧ LR xs (1068, LL i, [], (SH, I2, J2)) Q))) : LR xs (p, LL i, [], (SH, I, J)) Q := by
  unfold lw_two at hk
  simp only [Bool.and_eq_true, decide_eq_true_eq] at hk
  obtain ⟨⟨⟨⟨⟨⟨c0, c1⟩, c2⟩, c3⟩, c4⟩, c5⟩, m1, m2, n1, n2, o1, o2, k5⟩ := hk
  refine LR_ste c0 (F := (p + 1, LL i, [.ref 0], (SH, I, J))) (fun call => rfl) ?_
  refine lr_args hb k k5 c1 ?_
  refine lr_call c2 m1 n1 (by rw [o1]; decide +kernel) (by rw [o1]; decide) (lw_A_len k) (lw_A_ok k _) (by decide) (Ex_mono z fun r h' hq => ?_)
  obtain ⟨I1, J1, v, rfl, rfl, hv, z⟩ := hq
  refine ⟨I1, J1, rfl, ?_⟩
  refine LR_ste c3 (F := (p + 1 + 5 * k + 3 + 1, LL i, [.ref 199, v], (SH, I1, J1))) (fun call => rfl) ?_
  refine lr_args hb k k5 c4 ?_
  refine lr_call c5 m2 n2 (by rw [o2]; decide +kernel) (by rw [o2]; decide) (lw_A_len k) (lw_A_ok k _) (show v.category + 0 ≤ 8 by omega) (Ex_mono z fun r h' hq => ?_)
  obtain ⟨I2, J2, w, rfl, rfl, ht, z⟩ := hq
  exact ⟨I2, J2, rfl, hend v w I2 J2 ht z⟩
theorem lr_int {p k ic im mc mm : Nat} {off : Int} (hk : lw_two p k ic im mc mm = true) (hj : lw_cd (p + 1 + 5 * k + 3 + 1 + 5 * k + 3) = some (.if_icmp .eq off, 3)) (hof : ((p + 1 + 5 * k + 3 + 1 + 5 * k + 3 : Nat) : Int) + off = 1068) (hb : lw_B xs i)
    (z : Ex mc (.ref 0 :: lw_A xs i k) (SH, I, J) (fun r h' => ∃ I1 J1 x, h' = (SH, I1, J1) ∧ r = some (.int x) ∧ Ex mm (.ref 199 :: lw_A xs i k) (SH, I1, J1) (fun r h' => ∃ I2 J2, h' = (SH, I2, J2) ∧ r = some (.int x) ∧ LR xs (1068, LL i, [], (SH, I2, J2)) Q))) : LR xs (p, LL i, [], (SH, I, J)) Q := by
  refine lr_two (T := fun v w => ∃ x, v = .int x ∧ w = .int x) hk hb ?_ ?_ (Ex_mono z fun r h' hq => ?_)
  · rintro v w ⟨x, rfl, rfl⟩
    exact (show (1 : Nat) ≤ 2 by omega)
  · rintro v w I J ⟨x, rfl, rfl⟩ z
    refine LR_ste hj (F := (1068, LL i, [], (SH, I, J))) (fun call => ?_) z
    unfold ab_step
    refine (if_pos (by rw [hof]; decide)).trans ?_
    rw [hof, if_pos (show ab_cmp .eq x x = true from decide_eq_true rfl)]
    rfl
  · obtain ⟨I1, J1, x, rfl, rfl, z⟩ := hq
    refine ⟨I1, J1, .int x, rfl, rfl, (show (1 : Nat) ≤ 2 by omega), Ex_mono z fun r h' hq => ?_⟩
    obtain ⟨I2, J2, rfl, rfl, z⟩ := hq
    exact ⟨I2, J2, .int x, rfl, rfl, ⟨x, rfl, rfl⟩, z⟩
theorem lr_long {p k ic im mc mm : Nat} {off : Int} (hk : lw_two p k ic im mc mm = true) (hl : lw_cd (p + 1 + 5 * k + 3 + 1 + 5 * k + 3) = some (.lcmp, 1)) (hj : lw_cd (p + 1 + 5 * k + 3 + 1 + 5 * k + 3 + 1) = some (.ifCond .eq off, 3)) (hof : ((p + 1 + 5 * k + 3 + 1 + 5 * k + 3 + 1 : Nat) : Int) + off = 1068) (hb : lw_B xs i)
    (z : Ex mc (.ref 0 :: lw_A xs i k) (SH, I, J) (fun r h' => ∃ I1 J1 x, h' = (SH, I1, J1) ∧ r = some (.long x) ∧ Ex mm (.ref 199 :: lw_A xs i k) (SH, I1, J1) (fun r h' => ∃ I2 J2, h' = (SH, I2, J2) ∧ r = some (.long x) ∧ LR xs (1068, LL i, [], (SH, I2, J2)) Q))) : LR xs (p, LL i, [], (SH, I, J)) Q := by
  refine lr_two (T := fun v w => ∃ x, v = .long x ∧ w = .long x) hk hb ?_ ?_ (Ex_mono z fun r h' hq => ?_)
  · rintro v w ⟨x, rfl, rfl⟩
    exact (show (2 : Nat) ≤ 2 by omega)
  · rintro v w I J ⟨x, rfl, rfl⟩ z
    have e0 : lg_cmp x x = 0 := by
      unfold lg_cmp
      simp
    refine LR_ste hl (F := (p + 1 + 5 * k + 3 + 1 + 5 * k + 3 + 1, LL i, [.int (lg_cmp x x)], (SH, I, J))) (fun call => rfl) ?_
    rw [e0]
    refine LR_ste hj (F := (1068, LL i, [], (SH, I, J))) (fun call => ?_) z
    unfold ab_step
    refine (if_pos (by rw [hof]; decide)).trans ?_
    rw [hof, if_pos (show ab_cmp .eq 0 0 = true by decide)]
    rfl
  · obtain ⟨I1, J1, x, rfl, rfl, z⟩ := hq
    refine ⟨I1, J1, .long x, rfl, rfl, (show (2 : Nat) ≤ 2 by omega), Ex_mono z fun r h' hq => ?_⟩
    obtain ⟨I2, J2, rfl, rfl, z⟩ := hq
    exact ⟨I2, J2, .long x, rfl, rfl, ⟨x, rfl, rfl⟩, z⟩
end LWR
