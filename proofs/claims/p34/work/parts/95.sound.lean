/-! THE TEXT: what is sound -/
theorem bits_ex (P : Nat → Prop) : ∀ n : Nat, ∃ M : Nat, M < 2 ^ n ∧ ∀ d, M.testBit d = true ↔ d < n ∧ P d := by
  intro n
  induction n with
  | zero => exact ⟨0, by omega, fun d => by rw [Nat.zero_testBit]; exact ⟨fun z => (by cases z), fun z => absurd z.1 (Nat.not_lt_zero d)⟩⟩
  | succ n ih =>
    obtain ⟨M, m1, m2⟩ := ih
    by_cases c : P n
    · refine ⟨M ||| 1 <<< n, Nat.or_lt_two_pow (by rw [Nat.pow_succ]; omega) (by rw [Nat.one_shiftLeft]; exact Nat.pow_lt_pow_right (by omega) (by omega)), fun d => ?_⟩
      rw [Nat.testBit_or, Bool.or_eq_true, m2 d, tb_shl, decide_eq_true_eq]
      constructor
      · rintro (⟨z1, z2⟩ | rfl)
        · exact ⟨by omega, z2⟩
        · exact ⟨by omega, c⟩
      · rintro ⟨z1, z2⟩
        by_cases y : n = d
        · exact Or.inr y
        · exact Or.inl ⟨by omega, z2⟩
    · refine ⟨M, by rw [Nat.pow_succ]; omega, fun d => ?_⟩
      rw [m2 d]
      constructor
      · exact fun z => ⟨by omega, z.2⟩
      · rintro ⟨z1, z2⟩
        by_cases y : d = n
        · subst y; exact absurd z2 c
        · exact ⟨by omega, z2⟩
noncomputable def dbs (A : DD) (b : Nat) : Nat := Classical.epsilon (fun M => M < 64 ∧ domBits A b M)
theorem dbs_spec {A : DD} (h : A 0 0 ≤ 6) (b : Nat) : dbs A b < 64 ∧ domBits A b (dbs A b) := by
  apply Classical.epsilon_spec (p := fun M => M < 64 ∧ domBits A b M)
  obtain ⟨M, m1, m2⟩ := bits_ex (fun d => ¬ RE A (fun x => x = d) b) (A 0 0)
  exact ⟨M, Nat.lt_of_lt_of_le m1 (Nat.pow_le_pow_right (by omega) h), m2⟩
noncomputable def shp (A : DD) : DD := fun f x => if f = 7 then cn (fun c => edb A c x) (A 0 0) else if f = 8 then fu (fun c => edb A c (x / 6) && decide (cn (fun c => edb A c (x / 6)) c = x % 6)) (A 0 0) 0 else if f = 9 then dbs A x else A f x
theorem sh_o {A : DD} {f x : Nat} (h : f < 7 ∨ 9 < f) : shp A f x = A f x := by
  unfold shp
  rw [if_neg (by omega), if_neg (by omega), if_neg (by omega)]
theorem sh_7 {A : DD} {x : Nat} : shp A 7 x = cn (fun c => edb A c x) (A 0 0) := if_pos rfl
theorem sh_9 {A : DD} {x : Nat} : shp A 9 x = dbs A x := by unfold shp; rw [if_neg (by omega), if_neg (by omega), if_pos rfl]
theorem edb_shp {A : DD} {c b : Nat} : edb (shp A) c b = edb A c b := by
  unfold edb scs
  rw [sh_o (by omega), sh_o (by omega), sh_o (by omega)]
theorem ed_shp {A : DD} {c b : Nat} : ed (shp A) c b = ed A c b := by
  unfold ed
  rw [sh_o (by omega), sh_o (by omega), sh_o (by omega), sh_o (by omega)]
theorem rk_shp {A : DD} {X : Nat → Prop} : ∀ k b, rk (shp A) X k b = rk A X k b := by
  intro k
  induction k with
  | zero =>
    intro b
    show (b = 0 ∧ ¬ X b ∧ b < shp A 0 0) = (b = 0 ∧ ¬ X b ∧ b < A 0 0)
    rw [sh_o (by omega)]
  | succ k ih =>
    intro b
    show (rk (shp A) X k b ∨ ∃ c, rk (shp A) X k c ∧ ed (shp A) c b ∧ ¬ X b) = (rk A X k b ∨ ∃ c, rk A X k c ∧ ed A c b ∧ ¬ X b)
    rw [ih]
    simp only [ih, ed_shp]
theorem RE_shp {A : DD} {X : Nat → Prop} {b : Nat} : RE (shp A) X b = RE A X b := by
  unfold RE
  simp only [rk_shp]
theorem cn_lt_of {f : Nat → Bool} {a b : Nat} (h : a < b) (hf : f a = true) : cn f a < cn f b := by
  have h1 := cn_le_of (f := f) (a := a + 1) (b := b) (by omega)
  have : cn f (a + 1) = cn f a + (f a).toNat := rfl
  rw [hf] at this
  simp at this
  omega
theorem sh_8 {A : DD} (h6 : A 0 0 ≤ 6) {c b : Nat} (hc : c < A 0 0) (he : edb A c b = true) : shp A 8 (6 * b + cn (fun c => edb A c b) c) = c := by
  have h1 : cn (fun c => edb A c b) c ≤ c := cn_le _ _
  have e1 : (6 * b + cn (fun c => edb A c b) c) / 6 = b := by omega
  have e2 : (6 * b + cn (fun c => edb A c b) c) % 6 = cn (fun c => edb A c b) c := by omega
  unfold shp
  rw [if_neg (by omega), if_pos rfl, e1, e2]
  refine fu_at hc (by rw [he, decide_eq_true rfl]; rfl) (fun j hj => ?_)
  cases hx : edb A j b with
  | false => rfl
  | true =>
    have := cn_lt_of (f := fun c => edb A c b) hj hx
    rw [decide_eq_false (by omega)]
    rfl
theorem WS_shp {A : DD} (h6 : A 0 0 ≤ 6) : WS (shp A) := by
  intro b hb
  have e00 : shp A 0 0 = A 0 0 := sh_o (by omega)
  rw [e00] at hb ⊢
  have e : (fun c => edb (shp A) c b) = fun c => edb A c b := funext fun c => edb_shp
  rw [e]
  refine ⟨sh_7, fun c hc he => ?_, fun d => ?_⟩
  · rw [edb_shp] at he
    exact sh_8 h6 hc he
  · rw [sh_9, RE_shp]
    exact (dbs_spec h6 b).2 d
def NSn (A : DD) (n : Nat) : Prop := (A 10 n = 7 → A 12 n = shp A 7 (A 11 n)) ∧ ∀ i, i < A 12 n → A 14 (6 * n + i) < A 0 1 ∧ so (shp A) (A 14 (6 * n + i)) n i = true
def SND (A : DD) : Prop := (∀ b, b < A 0 0 → (A 3 b ≠ 2 → A 4 b < A 0 0) ∧ (A 3 b = 1 → A 5 b < A 0 0)) ∧ (∀ b, b < A 0 0 → RE A NX b) ∧ (∀ n, n < A 0 1 → NSn A n) ∧ (∀ b, b < A 0 0 → A 3 b ≠ 0 → A 6 b < A 0 1 ∧ se (shp A) (A 6 b) b = true)
theorem WL_snd {A : DD} (w : DW false A) (h : ∀ b, b < A 0 0 → (A 3 b ≠ 2 → A 4 b < A 0 0) ∧ (A 3 b = 1 → A 5 b < A 0 0)) : WL A := ⟨w.1.1, fun b hb => ⟨(w.2.2.2.2.2.1 b hb).1, (h b hb).1, (h b hb).2⟩⟩
theorem OA_shp {A : DD} (w : DW false A) (h : SND A) : OA (shp A) := by
  obtain ⟨s1, s2, s3, s4⟩ := h
  have hl := WL_snd w s1
  obtain ⟨⟨a1, a2, a3⟩, a4, a5, a6, a7, a8, a9⟩ := w
  have a8 : ∀ b, b < A 0 0 → _ := a8
  have hws := WS_shp a1
  have e00 : shp A 0 0 = A 0 0 := sh_o (by omega)
  have e01 : shp A 0 1 = A 0 1 := sh_o (by omega)
  have c7 : ∀ b, shp A 7 b ≤ 6 := fun b => by rw [sh_7]; exact Nat.le_trans (cn_le _ _) a1
  have h8 : ∀ b i, i < shp A 7 b → ∃ c, c < A 0 0 ∧ edb A c b = true ∧ cn (fun c => edb A c b) c = i ∧ shp A 8 (6 * b + i) = c := fun b i hi => by
    rw [sh_7] at hi
    obtain ⟨c, k1, k2, k3⟩ := cn_surj hi
    refine ⟨c, k1, k2, k3, ?_⟩
    rw [← k3]
    exact sh_8 a1 k1 k2
  refine ⟨fun f x => ?_, ⟨by omega, by omega, fun b hb => ?_, fun n hn => ?_⟩, ⟨fun b hb => ?_, fun b d hb hd => ?_, fun b c hb hc => ?_, fun n hn h7 => ?_, fun h0 => ?_, fun b d hb hd => ?_⟩, fun b n hb k1 k2 => ?_, hws⟩
  · have w1 := a4 f x
    have w2 := c7 x
    have w3 := (dbs_spec a1 x).1
    by_cases z7 : f = 7
    · rw [z7]; omega
    · by_cases z8 : f = 8
      · rw [z8]
        show (if (8 : Nat) = 7 then _ else if (8 : Nat) = 8 then _ else _) < 1000
        rw [if_neg (by omega), if_pos rfl]
        have := (fu_spec (fun c => edb A c (x / 6) && decide (cn (fun c => edb A c (x / 6)) c = x % 6)) (A 0 0) 0).2.1
        omega
      · by_cases z9 : f = 9
        · rw [z9, sh_9]; omega
        · rw [sh_o (by omega)]; exact w1
  · rw [e00] at hb
    rw [e00, e01, sh_o (by omega), sh_o (by omega), sh_o (by omega), sh_o (by omega), sh_o (by omega), sh_o (by omega)]
    have b8 := a8 b hb
    have b4 := s4 b hb
    refine ⟨a5 b hb, b8.1, (s1 b hb).1, (s1 b hb).2, fun z => (b4 z).1, c7 b, by rw [sh_9]; exact (dbs_spec a1 b).1, fun i hi => ?_⟩
    obtain ⟨c, k1, k2, k3, k4⟩ := h8 b i hi
    rw [k4]; exact k1
  · rw [e01] at hn
    have b9 := a9 n hn
    obtain ⟨n1, n2⟩ := s3 n hn
    rw [e00, e01, sh_o (f := 10) (by omega), sh_o (f := 11) (by omega), sh_o (f := 12) (by omega), sh_o (f := 13) (by omega)]
    have h14 : ∀ j, shp A 14 j = A 14 j := fun j => sh_o (by omega)
    simp only [h14]
    obtain ⟨b1, b2, b3, b4, b5, b6, b7, b8⟩ := b9
    refine ⟨by omega, b2, ?_, b3, fun z => by omega, b4, b5, n1, b7, b8, fun i hi => (n2 i hi).1⟩
    by_cases z : A 10 n = 7
    · have := c7 (A 11 n); have := n1 z; omega
    · by_cases z2 : A 10 n ≤ 1
      · have := b3 z2; omega
      · by_cases z3 : A 10 n = 4
        · have := b4 z3; omega
        · have := b5 (by omega) (by omega) z3; omega
  · rw [e00] at hb
    rw [RE_shp]; exact s2 b hb
  · rw [e00] at hb hd
    rw [sh_9, RE_shp, (dbs_spec a1 b).2 d]
    exact ⟨fun z => z.2, fun z => ⟨hd, z⟩⟩
  · rw [e00] at hb hc
    rw [ed_shp, ← edb_iff hc (a8 c hc).1]
    constructor
    · intro z
      refine ⟨cn (fun c => edb A c b) c, ?_, sh_8 a1 hc z⟩
      rw [sh_7]
      exact cn_lt_of (f := fun c => edb A c b) hc z
    · rintro ⟨i, hi, he⟩
      obtain ⟨c', k1, k2, k3, k4⟩ := h8 b i hi
      rw [k4] at he
      rw [← he]; exact k2
  · rw [e01] at hn
    rw [sh_o (by omega)] at h7
    rw [sh_o (by omega)]
    exact (a9 n hn).2.2.2.2.2.1 h7
  · rw [sh_7]
    have : ∀ n, n ≤ A 0 0 → cn (fun c => edb A c 0) n = 0 := by
      intro n
      induction n with
      | zero => intro _; rfl
      | succ n ih =>
        intro hn
        have e : edb A n 0 = false := by
          cases hx : edb A n 0 with
          | false => rfl
          | true =>
            have k8 := a8 n (by omega)
            obtain ⟨-, z | z⟩ := (edb_iff (b := 0) (show n < A 0 0 by omega) k8.1).mp hx
            · have := k8.2.1 z.1; omega
            · have := k8.2.2.1 z.1; omega
        show cn (fun c => edb A c 0) n + (edb A n 0).toNat = 0
        rw [ih (by omega), e]
        rfl
    exact this _ (Nat.le_refl _)
  · rw [e00] at hb hd
    rw [sh_9]
    cases hx : (dbs A b).testBit d with
    | false => rfl
    | true => have := ((dbs_spec a1 b).2 d).mp hx; omega
  · rw [e00] at hb
    rw [sh_o (by omega)] at k1
    rw [sh_o (by omega), sh_o (by omega)] at k2
    rw [sh_o (by omega)]
    exact a7 b n hb k1 k2
