/-! PROGRAMS that the law makes: what holds of them; leaves of a form are seen where it is -/
def ZP (A : Nat → Nat → Nat) : Prop :=
  (∀ n, n < A 0 1 → A 1 (A 11 n) ≤ n ∧ n < A 1 (A 11 n) + A 2 (A 11 n)) ∧
  (∀ n i, n < A 0 1 → i < A 12 n → so A (A 14 (6 * n + i)) n i = true ∧ A 10 (A 14 (6 * n + i)) ≠ 8) ∧
  (∀ b, b < A 0 0 → A 3 b ≠ 0 → se A (A 6 b) b = true ∧ A 10 (A 6 b) ≠ 8) ∧
  (∀ n m, n < A 0 1 → m < A 0 1 → A 11 n = A 11 m → n < m → A 10 m = 7 → A 10 n = 7 ∨ A 10 n = 8) ∧
  (∀ b d, b < A 0 0 → (A 9 b).testBit d = true → d ≤ b) ∧
  (∀ n m, n < A 0 1 → m < A 0 1 → A 11 n < A 11 m → n < m) ∧
  (∀ n, n < A 0 1 → A 12 n ≤ 2)
section LEA
variable {A : Nat → Nat → Nat}
theorem so_sn {m n i : Nat} (h7 : A 10 n ≠ 7) (h : so A m n i = true) : sn A m n = true := by
  unfold so at h
  rw [if_neg h7] at h
  exact h
theorem so_se {m n i : Nat} (h7 : A 10 n = 7) (h : so A m n i = true) : (A 9 (A 8 (6 * A 11 n + i))).testBit (A 11 m) = true := by
  unfold so at h
  rw [if_pos h7] at h
  exact h
theorem sn_lt (hr : WR A) (hz : ZP A) {m n : Nat} (hm : m < A 0 1) (hn : n < A 0 1) (h : sn A m n = true) : m < n := by
  unfold sn at h
  by_cases e : A 11 m = A 11 n
  · rw [if_pos e, decide_eq_true_eq] at h; exact h
  · rw [if_neg e] at h
    have := hz.2.2.2.2.1 _ _ (hr.2.2.2 n hn).2.1 h
    exact hz.2.2.2.2.2.1 m n hm hn (by omega)
theorem ZP_AHD (hr : WR A) (hz : ZP A) : AHD A := fun m i hm h7 hi => sn_lt hr hz ((hr.2.2.2 m hm).2.2.2.2.2.2.2.2.2.2 i hi) hm (so_sn h7 (hz.2.1 m i hm hi).1)
/-- the home of one that is seen dominates -/
theorem sn_dom (hr : WR A) (hg : WG A) {m n : Nat} (hm : m < A 0 1) (hn : n < A 0 1) (h : sn A m n = true) : (A 9 (A 11 n)).testBit (A 11 m) = true := by
  unfold sn at h
  by_cases e : A 11 m = A 11 n
  · rw [e]
    exact (hg.2.1 _ _ (hr.2.2.2 n hn).2.1 (hr.2.2.2 n hn).2.1).mpr (D_refl _)
  · rw [if_neg e] at h; exact h
theorem dom_tr (hg : WG A) {a b c : Nat} (ha : a < A 0 0) (hb : b < A 0 0) (hc : c < A 0 0) (h1 : (A 9 b).testBit a = true) (h2 : (A 9 c).testBit b = true) : (A 9 c).testBit a = true :=
  (hg.2.1 c a hc ha).mpr (D_trans ((hg.2.1 b a hb ha).mp h1) ((hg.2.1 c b hc hb).mp h2))
theorem dom_refl (hg : WG A) {b : Nat} (hb : b < A 0 0) : (A 9 b).testBit b = true := (hg.2.1 b b hb hb).mpr (D_refl _)
/-- what dominates a block, itself apart, dominates those that lead to it -/
theorem dom_pred (hg : WG A) {b c d : Nat} (hb : b < A 0 0) (hc : c < A 0 0) (hd : d < A 0 0) (he : ed A c b) (hn : d ≠ b) (h : (A 9 b).testBit d = true) : (A 9 c).testBit d = true := by
  refine (hg.2.1 c d hc hd).mpr fun z => ?_
  exact (hg.2.1 b d hb hd).mp h (RE_step z he (fun w => hn w.symm))
theorem RE_last {X : Nat → Prop} {b : Nat} (h : RE A X b) : b = 0 ∨ ∃ c, RE A X c ∧ ed A c b := by
  obtain ⟨k, hk⟩ := h
  induction k with
  | zero => exact Or.inl hk.1
  | succ k ih =>
    rcases hk with hk | ⟨c, h1, h2, -⟩
    · exact ih hk
    · exact Or.inr ⟨c, ⟨k, h1⟩, h2⟩
/-- what dominates all that lead to a block dominates it, and is another -/
theorem dom_all (hr : WR A) (hg : WG A) {b d : Nat} (hb : b < A 0 0) (hd : d < A 0 0) (hp : 0 < A 7 b) (h : ∀ i, i < A 7 b → (A 9 (A 8 (6 * b + i))).testBit d = true) : d ≠ b ∧ (A 9 b).testBit d = true := by
  have hB : 0 < A 0 0 := by omega
  have hb0 : b ≠ 0 := fun z => by rw [z, hg.2.2.2.2.1 hB] at hp; omega
  have hc : ∀ c, ed A c b → ¬ RE A (fun x => x = d) c := by
    intro c he
    obtain ⟨i, hi, rfl⟩ := (hg.2.2.1 b c hb he.1).mp he
    exact (hg.2.1 _ d he.1 hd).mp (h i hi)
  refine ⟨fun z => ?_, (hg.2.1 b d hb hd).mpr fun z => ?_⟩
  · subst z
    have key : ∀ x, RE A NX x → RE A (fun y => y = d) x := fun x hx => RE_ind (S := fun x => RE A (fun y => y = d) x) (fun _ => RE_zero hB (fun w => hb0 w.symm)) (fun c x _ k1 k2 _ => by
      by_cases e : x = d
      · exact absurd k1 (hc c (e ▸ k2))
      · exact RE_step k1 k2 e) hx
    exact D_refl d (key d (hg.1 d hb))
  · rcases RE_last z with w | ⟨c, h1, h2⟩
    · exact hb0 w
    · exact hc c h2 h1
theorem LF_kind (hr : WR A) (hg : WG A) (ha : AHD A) {p : Nat} : ∀ m, m < A 0 1 → LF A (.inl m) p → (A 10 p = 7 ∨ A 10 p = 8) ∧ p ≤ m := by
  intro m
  induction m using Nat.strongRecOn with
  | ind m ih =>
    intro hm h
    by_cases c : A 10 m = 7 ∨ A 10 m = 8
    · rw [(LF_phi c).mp h]; exact ⟨c, Nat.le_refl _⟩
    · obtain ⟨i, hi, h2⟩ := (LF_op hr hg ha hm c).mp h
      have o := ha m i hm (fun z => c (Or.inl z)) hi
      cases hx : FF A (A 14 (6 * m + i)) with
      | inr v => rw [hx] at h2; exact h2.elim
      | inl f =>
        rw [hx] at h2
        have hf := ((F_ok hr hg ha _ (by omega)).1 f hx).1
        obtain ⟨j1, j2⟩ := ih f (by omega) (by omega) h2
        exact ⟨j1, by omega⟩
theorem LF_kindF (hr : WR A) (hg : WG A) (ha : AHD A) {n p : Nat} (hn : n < A 0 1) (h : LF A (FF A n) p) : (A 10 p = 7 ∨ A 10 p = 8) ∧ p ≤ n := by
  cases hx : FF A n with
  | inr v => rw [hx] at h; exact h.elim
  | inl f =>
    rw [hx] at h
    have hf := ((F_ok hr hg ha _ hn).1 f hx).1
    obtain ⟨j1, j2⟩ := LF_kind hr hg ha f (by omega) h
    exact ⟨j1, by omega⟩
/-- leaves of a phi that brings what its operands are: in blocks ahead -/
theorem LF_coll (hr : WR A) (hg : WG A) (hz : ZP A) {n p : Nat} (hn : n < A 0 1) (hp : p < A 0 1) (h7 : A 10 n = 7) (hi : ∀ i, i < A 12 n → p = A 14 (6 * n + i) ∨ sn A p (A 14 (6 * n + i)) = true) : A 11 p ≠ A 11 n ∧ (A 9 (A 11 n)).testBit (A 11 p) = true := by
  obtain ⟨-, hb, -, -, -, -, -, h12, -, -, q10⟩ := hr.2.2.2 n hn
  have har := h12 h7
  have h0 := hg.2.2.2.1 n hn h7
  refine dom_all hr hg hb (hr.2.2.2 p hp).2.1 (by omega) (fun i hi' => ?_)
  have hi2 : i < A 12 n := by omega
  have s1 := so_se h7 (hz.2.1 n i hn hi2).1
  have hq := q10 i hi2
  have hc := (hr.2.2.1 _ hb).2.2.2.2.2.2.2 i hi'
  rcases hi i hi2 with z | z
  · rw [z]; exact s1
  · exact dom_tr hg (hr.2.2.2 p hp).2.1 (hr.2.2.2 _ hq).2.1 hc (sn_dom hr hg hp hq z) s1
theorem sn_of_dom {p n : Nat} (h1 : A 11 p ≠ A 11 n) (h2 : (A 9 (A 11 n)).testBit (A 11 p) = true) : sn A p n = true := by
  unfold sn
  rw [if_neg h1]
  exact h2
theorem LF_seen (hr : WR A) (hg : WG A) (hz : ZP A) {p : Nat} : ∀ n, n < A 0 1 → LF A (FF A n) p → (p = n ∨ sn A p n = true) ∧ (A 10 n ≠ 8 → A 10 p = 7) := by
  have ha := ZP_AHD hr hz
  intro n
  induction n using Nat.strongRecOn with
  | ind n ih =>
    intro hn hl
    have hpN : p < A 0 1 := by have := (LF_kindF hr hg ha hn hl).2; omega
    obtain ⟨-, -, -, -, -, q5, q6, -, -, -, q10⟩ := hr.2.2.2 n hn
    -- an operand's leaf
    have op : ∀ i, i < A 12 n → A 10 n ≠ 7 → LF A (FF A (A 14 (6 * n + i))) p → (p = n ∨ sn A p n = true) ∧ (A 10 n ≠ 8 → A 10 p = 7) := by
      intro i hi h7 h
      obtain ⟨s1, s2⟩ := hz.2.1 n i hn hi
      have s3 := so_sn h7 s1
      obtain ⟨j1, j2⟩ := ih _ (ha n i hn h7 hi) (q10 i hi) h
      refine ⟨Or.inr ?_, fun _ => j2 s2⟩
      rcases j1 with j1 | j1
      · rw [j1]; exact s3
      · exact sn_trans hr hg hpN (q10 i hi) hn j1 s3
    rcases F_cases hr hg ha hn with ⟨c, h⟩ | ⟨c0, c8, c7, f, h, hE⟩ | ⟨c, h⟩ | ⟨c, u, hu, h⟩ | ⟨c, m, h1, h2, h⟩ | ⟨c, hb, h1, h⟩ | ⟨hp, u, v, hu, hv, h⟩ | ⟨hp, hv, h⟩ | ⟨hp, hv, h⟩ | ⟨hp, hv, h⟩
    · rw [h] at hl; exact hl.elim
    · rw [h] at hl
      obtain ⟨e1, e2, e3, e4, e5, e6⟩ := hE
      have hf : f < A 0 1 := by omega
      by_cases k7 : A 10 n = 7
      · have hp := (LF_phi (by omega)).mp hl
        subst hp
        refine ⟨?_, fun _ => by omega⟩
        rcases Nat.eq_or_lt_of_le e1 with z | z
        · exact Or.inl z
        · right
          unfold sn
          rw [if_pos (e5 k7).1]
          exact decide_eq_true z
      · obtain ⟨i, hi, h2⟩ := (LF_op hr hg ha hf (by omega)).mp hl
        have har := kd_ar hr hn hf e2 (fun z => absurd z k7)
        have c1 : A 10 n ≠ 1 := fun z => by
          have := (hr.2.2.2 n hn).2.2.2.1 (by omega)
          omega
        rcases e6 c1 with z | ⟨z1, z2, z3⟩
        · exact op i (by omega) k7 (by rw [z i (by omega)]; exact h2)
        · have a2 := q6 (by omega) (by omega) (by omega)
          rcases (by omega : i = 0 ∨ i = 1) with rfl | rfl
          · exact op 1 (by omega) k7 (by rw [z3]; exact h2)
          · exact op 0 (by omega) k7 (by rw [show 6 * n + 0 = 6 * n from rfl, z2]; exact h2)
    · rw [h] at hl
      have hp := (LF_phi (by omega)).mp hl
      exact ⟨Or.inl hp, fun z => by rw [hp]; omega⟩
    · rw [h] at hl; exact hl.elim
    · have a1 := q5 c
      have o0 : A 14 (6 * n) < n := ha n 0 hn (by omega) (by omega)
      have hm := ((F_ok hr hg ha _ (q10 0 (by omega))).1 m h1).1
      have hm : m ≤ A 14 (6 * n) := hm
      have hm2 : m < A 0 1 := by omega
      have am := (hr.2.2.2 m hm2).2.2.2.2.2.1 h2
      have o1 : A 14 (6 * m) < m := ha m 0 hm2 (by omega) (by omega)
      rw [FF_lt (by omega) (by omega)] at h
      rw [h] at hl
      refine op 0 (by omega) (by omega) ?_
      rw [show 6 * n + 0 = 6 * n from rfl, h1]
      exact (LF_op hr hg ha hm2 (by omega)).mpr ⟨0, by omega, hl⟩
    · rw [h] at hl
      have hbi := bh_iff.mp hb
      have h0 := hg.2.2.2.1 n hn c
      have hall : ∀ i, i < A 12 n → p = A 14 (6 * n + i) ∨ sn A p (A 14 (6 * n + i)) = true := fun i hi => (ih _ (hbi i hi) (q10 i hi) (by rw [h1 i hi]; exact hl)).1
      obtain ⟨d1, d2⟩ := LF_coll hr hg hz hn hpN c hall
      exact ⟨Or.inr (sn_of_dom d1 d2), fun _ => (ih _ (hbi 0 h0) (q10 0 h0) hl).2 (hz.2.1 n 0 hn h0).2⟩
    · rw [h] at hl; exact hl.elim
    · rw [h] at hl; exact hl.elim
    · rw [h] at hl
      have a2 := q6 hp.1 hp.2.1 hp.2.2
      exact op 1 (by omega) (by have := hp.2.1; omega) hl
    · rw [h] at hl
      have a2 := q6 hp.1 hp.2.1 hp.2.2
      exact op 0 (by omega) (by have := hp.2.1; omega) hl
end LEA
