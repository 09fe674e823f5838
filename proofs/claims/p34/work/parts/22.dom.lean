/-! WAYS: who dominates -/
def ed (A : Nat → Nat → Nat) (b c : Nat) : Prop := b < A 0 0 ∧ ((A 3 b ≠ 2 ∧ A 4 b = c) ∨ (A 3 b = 1 ∧ A 5 b = c))
def rk (A : Nat → Nat → Nat) (X : Nat → Prop) : Nat → Nat → Prop
  | 0, b => b = 0 ∧ ¬ X b ∧ b < A 0 0
  | k + 1, b => rk A X k b ∨ ∃ c, rk A X k c ∧ ed A c b ∧ ¬ X b
def RE (A : Nat → Nat → Nat) (X : Nat → Prop) (b : Nat) : Prop := ∃ k, rk A X k b
def NX : Nat → Prop := fun _ => False
def WG (A : Nat → Nat → Nat) : Prop :=
  (∀ b, b < A 0 0 → RE A NX b) ∧ (∀ b d, b < A 0 0 → d < A 0 0 → ((A 9 b).testBit d = true ↔ ¬ RE A (fun x => x = d) b)) ∧
  (∀ b c, b < A 0 0 → c < A 0 0 → (ed A c b ↔ ∃ i, i < A 7 b ∧ A 8 (6 * b + i) = c)) ∧ (∀ n, n < A 0 1 → A 10 n = 7 → 0 < A 12 n) ∧ (0 < A 0 0 → A 7 0 = 0) ∧ (∀ b d, b < A 0 0 → A 0 0 ≤ d → (A 9 b).testBit d = false)
section DOM
variable {A : Nat → Nat → Nat} {X : Nat → Prop}
theorem RE_ind {S : Nat → Prop} (h0 : ¬ X 0 → S 0) (hs : ∀ c b, RE A X c → S c → ed A c b → ¬ X b → S b) {b : Nat} (h : RE A X b) : S b := by
  obtain ⟨k, hk⟩ := h
  induction k generalizing b with
  | zero =>
    obtain ⟨rfl, h1, -⟩ := hk
    exact h0 h1
  | succ k ih =>
    rcases hk with hk | ⟨c, h1, h2, h3⟩
    · exact ih hk
    · exact hs c b ⟨k, h1⟩ (ih h1) h2 h3
theorem RE_step {c b : Nat} (h : RE A X c) (he : ed A c b) (hx : ¬ X b) : RE A X b := by
  obtain ⟨k, hk⟩ := h
  exact ⟨k + 1, Or.inr ⟨c, hk, he, hx⟩⟩
theorem RE_zero (h : 0 < A 0 0) (hx : ¬ X 0) : RE A X 0 := ⟨0, rfl, hx, h⟩
theorem RE_not {b : Nat} (h : RE A X b) : ¬ X b := RE_ind (S := fun b => ¬ X b) (fun h => h) (fun _ _ _ _ _ h => h) h
theorem RE_pos {b : Nat} (h : RE A X b) : 0 < A 0 0 := by
  obtain ⟨k, hk⟩ := h
  induction k generalizing b with
  | zero => obtain ⟨rfl, -, h1⟩ := hk; exact h1
  | succ k ih =>
    rcases hk with hk | ⟨c, h1, -, -⟩
    · exact ih hk
    · exact ih h1
theorem ed_lt (hr : WR A) {b c : Nat} (h : ed A b c) : c < A 0 0 := by
  obtain ⟨h1, h2⟩ := h
  obtain ⟨-, -, h3, h4, -⟩ := hr.2.2.1 b h1
  rcases h2 with ⟨k1, rfl⟩ | ⟨k1, rfl⟩
  · exact h3 k1
  · exact h4 k1
theorem RE_lt (hr : WR A) {b : Nat} (h : RE A X b) : b < A 0 0 := RE_ind (S := fun b => b < A 0 0) (fun _ => RE_pos h) (fun _ _ _ _ he _ => ed_lt hr he) h
/-- what is reached past a is reached past b, where b isn't reached past a -/
theorem RE_past {a b x : Nat} (hb : ¬ RE A (fun x => x = a) b) (h : RE A (fun x => x = a) x) : RE A (fun x => x = b) x := by
  refine RE_ind (S := fun x => RE A (fun x => x = b) x) (fun h0 => ?_) (fun c d h1 h2 h3 h4 => ?_) h
  · refine RE_zero (RE_pos h) (fun z => hb ?_)
    exact z ▸ RE_zero (RE_pos h) h0
  · refine RE_step h2 h3 (fun z => hb ?_)
    exact z ▸ RE_step h1 h3 h4
theorem D_refl (b : Nat) : ¬ RE A (fun x => x = b) b := fun h => RE_not h rfl
theorem D_trans {a b c : Nat} (h1 : ¬ RE A (fun x => x = a) b) (h2 : ¬ RE A (fun x => x = b) c) : ¬ RE A (fun x => x = a) c := fun h => h2 (RE_past h1 h)
theorem D_asymm {a b : Nat} (hn : a ≠ b) (ha : RE A NX a) (h1 : ¬ RE A (fun x => x = a) b) (h2 : ¬ RE A (fun x => x = b) a) : False := by
  have key : RE A (fun x => x = b) a := by
    refine RE_ind (S := fun x => RE A (fun x => x = b) x) (fun _ => ?_) (fun c d _ k1 k2 _ => ?_) ha
    · refine RE_zero (RE_pos ha) (fun z => ?_)
      have z2 : (0 : Nat) ≠ a := fun w => hn (w.symm.trans z)
      exact h1 (z ▸ RE_zero (RE_pos ha) z2)
    · refine RE_step k1 k2 (fun z => ?_)
      refine h1 ?_
      rw [← z]
      exact RE_step (RE_past h2 k1) k2 (fun w => hn (w.symm.trans z))
  exact h2 key
theorem D_chain {a b c : Nat} (hn : a ≠ b) (hc : RE A NX c) (h1 : ¬ RE A (fun x => x = a) c) (h2 : ¬ RE A (fun x => x = b) c) : ¬ RE A (fun x => x = a) b ∨ ¬ RE A (fun x => x = b) a := by
  refine Classical.byContradiction fun w => ?_
  have w1 : RE A (fun x => x = a) b := Classical.byContradiction fun z => w (Or.inl z)
  have w2 : RE A (fun x => x = b) a := Classical.byContradiction fun z => w (Or.inr z)
  have key : RE A (fun x => x = a) c ∨ RE A (fun x => x = b) c := by
    refine RE_ind (S := fun x => RE A (fun x => x = a) x ∨ RE A (fun x => x = b) x) (fun _ => ?_) (fun d e _ k1 k2 _ => ?_) hc
    · by_cases z : (0 : Nat) = a
      · exact Or.inr (RE_zero (RE_pos hc) (fun y => hn (z.symm.trans y)))
      · exact Or.inl (RE_zero (RE_pos hc) z)
    · rcases k1 with k1 | k1
      · by_cases z : e = a
        · exact Or.inr (z ▸ w2)
        · exact Or.inl (RE_step k1 k2 z)
      · by_cases z : e = b
        · exact Or.inl (z ▸ w1)
        · exact Or.inr (RE_step k1 k2 z)
  exact key.elim h1 h2
/-! SEEN: an order, and those seen at one place stand in a chain -/
theorem sn_irr (n : Nat) : sn A n n = false := by
  unfold sn
  rw [if_pos rfl]
  exact decide_eq_false (Nat.lt_irrefl n)
theorem sn_trans (hr : WR A) (hg : WG A) {a b c : Nat} (ha : a < A 0 1) (hb : b < A 0 1) (hc : c < A 0 1) (h1 : sn A a b = true) (h2 : sn A b c = true) : sn A a c = true := by
  have la := (hr.2.2.2 a ha).2.1
  have lb := (hr.2.2.2 b hb).2.1
  have lc := (hr.2.2.2 c hc).2.1
  have dm := fun b d hb hd => hg.2.1 b d hb hd
  unfold sn at h1 h2 ⊢
  by_cases e1 : A 11 a = A 11 b
  · rw [if_pos e1, decide_eq_true_eq] at h1
    by_cases e2 : A 11 b = A 11 c
    · rw [if_pos e2, decide_eq_true_eq] at h2
      rw [if_pos (e1.trans e2), decide_eq_true_eq]
      omega
    · rw [if_neg e2] at h2
      rw [if_neg (fun z => e2 (e1.symm.trans z)), e1]
      exact h2
  · rw [if_neg e1] at h1
    by_cases e2 : A 11 b = A 11 c
    · rw [if_neg (fun z => e1 (z.trans e2.symm)), ← e2]
      exact h1
    · rw [if_neg e2] at h2
      rw [dm _ _ lb la] at h1
      rw [dm _ _ lc lb] at h2
      have h3 := D_trans h1 h2
      by_cases e3 : A 11 a = A 11 c
      · exfalso
        rw [← e3] at h2
        exact D_asymm e1 (hg.1 _ la) h1 h2
      · rw [if_neg e3, dm _ _ lc la]
        exact h3
theorem sn_asymm (hr : WR A) (hg : WG A) {a b : Nat} (ha : a < A 0 1) (hb : b < A 0 1) (h1 : sn A a b = true) : sn A b a = false := by
  cases h2 : sn A b a with
  | false => rfl
  | true =>
    have := sn_trans hr hg ha hb ha h1 h2
    rw [sn_irr] at this
    exact this.symm
theorem sn_chain (hr : WR A) (hg : WG A) {a b c : Nat} (ha : a < A 0 1) (hb : b < A 0 1) (hc : c < A 0 1) (hn : a ≠ b) (h1 : sn A a c = true) (h2 : sn A b c = true) : sn A a b = true ∨ sn A b a = true := by
  have la := (hr.2.2.2 a ha).2.1
  have lb := (hr.2.2.2 b hb).2.1
  have lc := (hr.2.2.2 c hc).2.1
  have dm := fun b d hb hd => hg.2.1 b d hb hd
  have dd : ∀ x, x < A 0 1 → sn A x c = true → ¬ RE A (fun y => y = A 11 x) (A 11 c) := by
    intro x hx h
    have lx := (hr.2.2.2 x hx).2.1
    unfold sn at h
    by_cases e : A 11 x = A 11 c
    · rw [e]; exact D_refl _
    · rw [if_neg e, dm _ _ lc lx] at h
      exact h
  have k1 := dd a ha h1
  have k2 := dd b hb h2
  unfold sn
  by_cases e : A 11 a = A 11 b
  · rw [if_pos e, if_pos e.symm, decide_eq_true_eq, decide_eq_true_eq]
    omega
  · rw [if_neg e, if_neg (fun z => e z.symm), dm _ _ lb la, dm _ _ la lb]
    exact D_chain e (hg.1 _ lc) k1 k2
/-! LEADERS: both find the same -/
def amg (A : Nat → Nat → Nat) (P : Nat → Nat) (m n : Nat) : Bool := decide (P m = P n) && (decide (m = n) || sn A m n)
theorem amg_iff {P : Nat → Nat} {m n : Nat} : amg A P m n = true ↔ P m = P n ∧ (m = n ∨ sn A m n = true) := by
  unfold amg
  rw [Bool.and_eq_true, Bool.or_eq_true, decide_eq_true_eq, decide_eq_true_eq]
theorem ldc_inv (hr : WR A) (hg : WG A) {P : Nat → Nat} {n : Nat} (hn : n < A 0 1) : ∀ m, m ≤ A 0 1 → amg A P (ldc A P n m) n = true ∧ ∀ k, k < m → amg A P k n = true → k = ldc A P n m ∨ sn A (ldc A P n m) k = true := by
  intro m
  induction m with
  | zero => intro _; exact ⟨amg_iff.mpr ⟨rfl, Or.inl rfl⟩, fun k hk => absurd hk (Nat.not_lt_zero k)⟩
  | succ m ih =>
    intro hm
    obtain ⟨i1, i2⟩ := ih (by omega)
    have hbl := ldc_lt (A := A) (P := P) hn m (by omega)
    have e : ldc A P n (m + 1) = if P m = P n ∧ sn A m n = true ∧ sn A m (ldc A P n m) = true then m else ldc A P n m := rfl
    rw [e]
    generalize ldc A P n m = best at *
    by_cases c : P m = P n ∧ sn A m n = true ∧ sn A m best = true
    · rw [if_pos c]
      obtain ⟨c1, c2, c3⟩ := c
      refine ⟨amg_iff.mpr ⟨c1, Or.inr c2⟩, fun k hk ha => ?_⟩
      rcases Nat.lt_or_ge k m with d | d
      · rcases i2 k d ha with z | z
        · exact Or.inr (z ▸ c3)
        · exact Or.inr (sn_trans hr hg (by omega) hbl (by omega) c3 z)
      · exact Or.inl (by omega)
    · rw [if_neg c]
      refine ⟨i1, fun k hk ha => ?_⟩
      rcases Nat.lt_or_ge k m with d | d
      · exact i2 k d ha
      · have hkm : k = m := by omega
        subst hkm
        obtain ⟨a1, a2⟩ := amg_iff.mp ha
        obtain ⟨b1, b2⟩ := amg_iff.mp i1
        rcases a2 with a2 | a2
        · subst a2
          rcases b2 with b2 | b2
          · exact Or.inl b2.symm
          · exact Or.inr b2
        · rcases b2 with b2 | b2
          · subst b2
            exact absurd ⟨a1, a2, a2⟩ c
          · by_cases f : k = best
            · exact Or.inl f
            · rcases sn_chain hr hg (by omega) hbl hn f a2 b2 with z | z
              · exact absurd ⟨a1, a2, z⟩ c
              · exact Or.inr z
end DOM
