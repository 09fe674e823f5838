/-! REPLACED OPERANDS -/
def ex2 (A : Nat → Nat → Nat) (ld : Nat → Nat) (j q : Nat) (f k : Nat) : Nat := if f = 14 ∧ k < j then ld (A 14 k) else if f = 6 ∧ k < q then ld (A 6 k) else A f k
section EX2
variable {A : Nat → Nat → Nat} {ld : Nat → Nat} {j q : Nat}
theorem ex_o {f k : Nat} (h1 : f ≠ 14) (h2 : f ≠ 6) : ex2 A ld j q f k = A f k := by
  unfold ex2
  rw [if_neg (fun z => h1 z.1), if_neg (fun z => h2 z.1)]
theorem ex_0 {k : Nat} : ex2 A ld j q 0 k = A 0 k := ex_o (by omega) (by omega)
theorem ex_1 {k : Nat} : ex2 A ld j q 1 k = A 1 k := ex_o (by omega) (by omega)
theorem ex_2 {k : Nat} : ex2 A ld j q 2 k = A 2 k := ex_o (by omega) (by omega)
theorem ex_3 {k : Nat} : ex2 A ld j q 3 k = A 3 k := ex_o (by omega) (by omega)
theorem ex_4 {k : Nat} : ex2 A ld j q 4 k = A 4 k := ex_o (by omega) (by omega)
theorem ex_5 {k : Nat} : ex2 A ld j q 5 k = A 5 k := ex_o (by omega) (by omega)
theorem ex_7 {k : Nat} : ex2 A ld j q 7 k = A 7 k := ex_o (by omega) (by omega)
theorem ex_8 {k : Nat} : ex2 A ld j q 8 k = A 8 k := ex_o (by omega) (by omega)
theorem ex_9 {k : Nat} : ex2 A ld j q 9 k = A 9 k := ex_o (by omega) (by omega)
theorem ex_10 {k : Nat} : ex2 A ld j q 10 k = A 10 k := ex_o (by omega) (by omega)
theorem ex_11 {k : Nat} : ex2 A ld j q 11 k = A 11 k := ex_o (by omega) (by omega)
theorem ex_12 {k : Nat} : ex2 A ld j q 12 k = A 12 k := ex_o (by omega) (by omega)
theorem ex_13 {k : Nat} : ex2 A ld j q 13 k = A 13 k := ex_o (by omega) (by omega)
theorem ex_14 {k : Nat} : ex2 A ld j q 14 k = if k < j then ld (A 14 k) else A 14 k := by
  unfold ex2
  by_cases c : k < j
  · rw [if_pos ⟨rfl, c⟩, if_pos c]
  · rw [if_neg (fun z => c z.2), if_neg (by omega), if_neg c]
theorem ex_6 {k : Nat} : ex2 A ld j q 6 k = if k < q then ld (A 6 k) else A 6 k := by
  unfold ex2
  rw [if_neg (by omega)]
  by_cases c : k < q
  · rw [if_pos ⟨rfl, c⟩, if_pos c]
  · rw [if_neg (fun z => c z.2), if_neg c]
theorem ex_WB (hb : WB A) (hl : ∀ x, ld x < 1000) : WB (ex2 A ld j q) := by
  intro f k
  unfold ex2
  split
  · exact hl _
  · split
    · exact hl _
    · exact hb f k
theorem ex_WR (hr : WR A) (hl : ∀ x, x < A 0 1 → ld x < A 0 1) : WR (ex2 A ld j q) := by
  obtain ⟨r1, r2, r3, r4⟩ := hr
  unfold WR
  simp only [ex_0, ex_1, ex_2, ex_3, ex_4, ex_5, ex_6, ex_7, ex_8, ex_9, ex_10, ex_11, ex_12, ex_13, ex_14]
  refine ⟨r1, r2, fun b hb => ?_, fun n hn => ?_⟩
  · obtain ⟨q1, q2, q3, q4, q5, q6⟩ := r3 b hb
    refine ⟨q1, q2, q3, q4, fun z => ?_, q6⟩
    split
    · exact hl _ (q5 z)
    · exact q5 z
  · obtain ⟨q1, q2, q3, q4, q5, q6, q7, q8, q9, q10, q11⟩ := r4 n hn
    refine ⟨q1, q2, q3, q4, q5, q6, q7, q8, q9, q10, fun i hi => ?_⟩
    split
    · exact hl _ (q11 i hi)
    · exact q11 i hi
theorem ex_ed {b c : Nat} : ed (ex2 A ld j q) b c ↔ ed A b c := by
  unfold ed
  simp only [ex_0, ex_3, ex_4, ex_5]
theorem ex_rk {X : Nat → Prop} : ∀ k b, rk (ex2 A ld j q) X k b ↔ rk A X k b := by
  intro k
  induction k with
  | zero =>
    intro b
    show (b = 0 ∧ ¬ X b ∧ b < ex2 A ld j q 0 0) ↔ (b = 0 ∧ ¬ X b ∧ b < A 0 0)
    rw [ex_0]
  | succ k ih =>
    intro b
    show (rk (ex2 A ld j q) X k b ∨ ∃ c, rk (ex2 A ld j q) X k c ∧ ed (ex2 A ld j q) c b ∧ ¬ X b) ↔ (rk A X k b ∨ ∃ c, rk A X k c ∧ ed A c b ∧ ¬ X b)
    simp only [ih, ex_ed]
theorem ex_RE {X : Nat → Prop} {b : Nat} : RE (ex2 A ld j q) X b ↔ RE A X b := by
  unfold RE
  simp only [ex_rk]
theorem ex_WG (hg : WG A) : WG (ex2 A ld j q) := by
  unfold WG
  simp only [ex_0, ex_7, ex_8, ex_9, ex_10, ex_12, ex_RE, ex_ed]
  exact hg
theorem ex_WH (hg : WH A) : WH (ex2 A ld j q) := by
  unfold WH
  simp only [ex_0, ex_1, ex_2, ex_11]
  exact hg
theorem ex_PG {p : Nat} {I : Nat → Nat → Int32} : PG p I (ex2 A ld j q) ↔ PG p I A := by
  unfold PG
  simp only [ex_0, ex_7, ex_8, ex_9]
/-- lines that agree -/
theorem PC_eq {p : Nat} {I : Nat → Nat → Int32} {A' : Nat → Nat → Nat} (h : PC p I A) (h0 : ∀ f k, f ≠ 14 → f ≠ 6 → A' f k = A f k) (h6 : ∀ b, b < A 0 0 → A 3 b ≠ 0 → A' 6 b = A 6 b) (h14 : ∀ n i, n < A 0 1 → i < A 12 n → A' 14 (6 * n + i) = A 14 (6 * n + i)) : PC p I A' := by
  obtain ⟨e0, e1, e2, e3, e4, e5, e6, e7, e8, e9, e10, e11, e12⟩ := h
  unfold PC
  simp only [fun k => h0 0 k (by omega) (by omega), fun k => h0 1 k (by omega) (by omega), fun k => h0 2 k (by omega) (by omega), fun k => h0 3 k (by omega) (by omega), fun k => h0 4 k (by omega) (by omega), fun k => h0 5 k (by omega) (by omega), fun k => h0 10 k (by omega) (by omega), fun k => h0 11 k (by omega) (by omega), fun k => h0 12 k (by omega) (by omega), fun k => h0 13 k (by omega) (by omega)]
  exact ⟨e0, e1, e2, e3, e4, e5, e6, fun b hb c => by rw [h6 b hb c]; exact e7 b hb c, e8, e9, e10, e11, fun n i hn hi => by rw [h14 n i hn hi]; exact e12 n i hn hi⟩
/-- one more operand -/
theorem ex_C14 {p : Nat} {I : Nat → Nat → Int32} (hr : WR A) {n i : Nat} (hn : n < A 0 1) (hi : i < A 12 n) (h : PC p I (ex2 A ld (6 * n + i) q)) : PC p (ab_up I (p + 21 + n) i (nI (ld (A 14 (6 * n + i))))) (ex2 A ld (6 * n + i + 1) q) := by
  have r2 := hr.2.1
  have r1 := hr.1
  unfold PC at h ⊢
  simp only [ex_0, ex_1, ex_2, ex_3, ex_4, ex_5, ex_6, ex_10, ex_11, ex_12, ex_13, ex_14] at h ⊢
  obtain ⟨e0, e1, e2, e3, e4, e5, e6, e7, e8, e9, e10, e11, e12⟩ := h
  refine ⟨?_, ?_, fun b hb => ?_, fun b hb => ?_, fun b hb => ?_, fun b hb hc => ?_, fun b hb hc => ?_, fun b hb hc => ?_, fun m hm => ?_, fun m hm => ?_, fun m hm => ?_, fun m hm hc => ?_, fun m k hm hk => ?_⟩
  · rw [fr_seti (by omega)]; exact e0
  · rw [fr_seti (by omega)]; exact e1
  · rw [fr_seti (by omega)]; exact e2 b hb
  · rw [fr_seti (by omega)]; exact e3 b hb
  · rw [fr_seti (by omega)]; exact e4 b hb
  · rw [fr_seti (by omega)]; exact e5 b hb hc
  · rw [fr_seti (by omega)]; exact e6 b hb hc
  · rw [fr_seti (by omega)]; exact e7 b hb hc
  · rw [fr_seti (by omega)]; exact e8 m hm
  · rw [fr_seti (by omega)]; exact e9 m hm
  · rw [fr_seti (by omega)]; exact e10 m hm
  · rw [fr_seti (by omega)]; exact e11 m hm hc
  · have a1 := (hr.2.2.2 m hm).2.2.1
    have a2 := (hr.2.2.2 n hn).2.2.1
    by_cases c : m = n
    · subst c
      by_cases d : k = i
      · subst d
        rw [fr_sets, if_pos (by omega)]
      · rw [fr_setk d, e12 m k hm hk]
        by_cases y : 6 * m + k < 6 * m + i
        · rw [if_pos y, if_pos (by omega)]
        · rw [if_neg y, if_neg (by omega)]
    · rw [fr_seti (by omega), e12 m k hm hk]
      by_cases y : 6 * m + k < 6 * n + i
      · rw [if_pos y, if_pos (by omega)]
      · rw [if_neg y, if_neg (by omega)]
theorem ex_C6 {p : Nat} {I : Nat → Nat → Int32} (hr : WR A) {b : Nat} (hb : b < A 0 0) (h : PC p I (ex2 A ld j b)) : PC p (ab_up I (p + 6) b (nI (ld (A 6 b)))) (ex2 A ld j (b + 1)) := by
  have r2 := hr.2.1
  have r1 := hr.1
  unfold PC at h ⊢
  simp only [ex_0, ex_1, ex_2, ex_3, ex_4, ex_5, ex_6, ex_10, ex_11, ex_12, ex_13, ex_14] at h ⊢
  obtain ⟨e0, e1, e2, e3, e4, e5, e6, e7, e8, e9, e10, e11, e12⟩ := h
  refine ⟨?_, ?_, fun b hb => ?_, fun b hb => ?_, fun b hb => ?_, fun b hb hc => ?_, fun b hb hc => ?_, fun c hc hd => ?_, fun m hm => ?_, fun m hm => ?_, fun m hm => ?_, fun m hm hc => ?_, fun m k hm hk => ?_⟩
  · rw [fr_seti (by omega)]; exact e0
  · rw [fr_seti (by omega)]; exact e1
  · rw [fr_seti (by omega)]; exact e2 b hb
  · rw [fr_seti (by omega)]; exact e3 b hb
  · rw [fr_seti (by omega)]; exact e4 b hb
  · rw [fr_seti (by omega)]; exact e5 b hb hc
  · rw [fr_seti (by omega)]; exact e6 b hb hc
  · by_cases d : c = b
    · subst d
      rw [fr_sets, if_pos (by omega)]
    · rw [fr_setk d, e7 c hc hd]
      by_cases y : c < b
      · rw [if_pos y, if_pos (by omega)]
      · rw [if_neg y, if_neg (by omega)]
  · rw [fr_seti (by omega)]; exact e8 m hm
  · rw [fr_seti (by omega)]; exact e9 m hm
  · rw [fr_seti (by omega)]; exact e10 m hm
  · rw [fr_seti (by omega)]; exact e11 m hm hc
  · rw [fr_seti (by omega)]; exact e12 m k hm hk
end EX2
