/-! THE TEXT: lines, mathematically: K tells a token's kind, V its figure -/
abbrev DD : Type := Nat → Nat → Nat
def rW (K : Nat → Nat) (i w : Nat) : Nat := if K i = 25 then 1 else w
def oo (a b : Option (Nat × Nat)) : Option (Nat × Nat) := match a with
  | some x => some x
  | none => b
def fN (K V : Nat → Nat) (lo hi i : Nat) : Option (Nat × Nat) := if K i = 22 then (if lo ≤ V i ∧ V i ≤ hi then none else some (3, i)) else some (rW K i 2, i)
def fS (K : Nat → Nat) (i : Nat) : Option (Nat × Nat) := if K i = 23 then none else some (rW K i 2, i)
def fNs (K V : Nat → Nat) (hi : Nat) : Nat → Nat → Option (Nat × Nat)
  | 0, _ => none
  | m + 1, i => oo (fN K V 0 hi i) (fNs K V hi m (i + 1))
def hiK (k : Nat) : Nat := if k = 0 then 99 else if k = 1 then 3 else 19
def mP (K : Nat → Nat) (i : Nat) : Nat := if K i = 22 then fu (fun j => decide (¬ K j = 22)) 400 i - i else 1
def mK (K : Nat → Nat) (i : Nat) : Nat := if K i = 7 then mP K (i + 1) else if K i ≤ 1 ∨ K i = 4 then 1 else 2
def fName (K V : Nat → Nat) (i : Nat) : Option (Nat × Nat) := oo (fNs K V (hiK (K i)) (mK K i) (i + 1)) (fS K (i + 1 + mK K i))
def fEnd (K V : Nat → Nat) (i : Nat) : Option (Nat × Nat) :=
  if K i = 10 then oo (fN K V 1 5 (i + 1)) (fS K (i + 2))
  else if K i = 11 then oo (fN K V 0 19 (i + 1)) (oo (fN K V 1 5 (i + 2)) (oo (fN K V 1 5 (i + 3)) (fS K (i + 4))))
  else oo (fN K V 0 19 (i + 1)) (fS K (i + 2))
def nxN (K : Nat → Nat) (i : Nat) : Nat := i + 2 + mK K i
def nxE (K : Nat → Nat) (i : Nat) : Nat := if K i = 11 then i + 5 else i + 3
def m99 (a : Nat) : Nat := if a ≤ 99 then a else 99
def hdA (A : DD) : DD := fun f x => if f = 0 ∧ x = 0 then A 0 0 + 1 else if f = 1 ∧ x = A 0 0 then A 0 1 else if f = 2 ∧ x = A 0 0 then 0 else A f x
def nmA (K V : Nat → Nat) (i : Nat) (A : DD) : DD := fun f x =>
  if f = 0 ∧ x = 1 then A 0 1 + 1 else if f = 2 ∧ x = A 0 0 - 1 then A 2 x + 1
  else if f = 10 ∧ x = A 0 1 then K i else if f = 11 ∧ x = A 0 1 then A 0 0 - 1
  else if f = 12 ∧ x = A 0 1 then (if K i ≤ 1 then 0 else mK K i)
  else if f = 13 ∧ x = A 0 1 then m99 (V (i + 1))
  else if f = 14 ∧ 6 * A 0 1 ≤ x ∧ x < 6 * A 0 1 + 6 then m99 (V (i + 1 + (x - 6 * A 0 1))) else A f x
def enA (K V : Nat → Nat) (i : Nat) (A : DD) : DD := fun f x =>
  if f = 3 ∧ x = A 0 0 - 1 then m99 (K i - 10)
  else if f = 4 ∧ x = A 0 0 - 1 then m99 (V (if K i = 11 then i + 2 else i + 1))
  else if f = 5 ∧ x = A 0 0 - 1 then m99 (V (i + 3))
  else if f = 6 ∧ x = A 0 0 - 1 then m99 (V (i + 1)) else A f x
abbrev ST : Type := (Nat × Nat) ⊕ (Bool × Bool × Nat × DD)
def stF (K V : Nat → Nat) (i : Nat) (A : DD) : ST := if K i = 20 then (if A 0 0 < 6 then (match fS K (i + 1) with
    | some x => .inl x
    | none => .inr (true, false, i + 2, hdA A)) else .inl (5, i)) else .inl (rW K i 2, i)
def stT (K V : Nat → Nat) (ph : Bool) (i : Nat) (A : DD) : ST := if K i ≤ 7 then (if K i = 7 ∧ ph = true then .inl (2, i) else if A 0 1 < 20 then (match fName K V i with
    | some x => .inl x
    | none => .inr (true, decide (¬ K i = 7), nxN K i, nmA K V i A)) else .inl (5, i))
    else if 10 ≤ K i ∧ K i ≤ 12 then (match fEnd K V i with
    | some x => .inl x
    | none => .inr (false, ph, nxE K i, enA K V i A)) else .inl (rW K i 2, i)
def stp (K V : Nat → Nat) (ib ph : Bool) (i : Nat) (A : DD) : ST := match ib with
  | false => stF K V i A
  | true => stT K V ph i A
theorem stp_f {K V : Nat → Nat} {ph : Bool} {i : Nat} {A : DD} : stp K V false ph i A = stF K V i A := rfl
theorem stp_t {K V : Nat → Nat} {ph : Bool} {i : Nat} {A : DD} : stp K V true ph i A = stT K V ph i A := rfl
/-- fault (0: none), its token, the draft -/
def rd2 (K V : Nat → Nat) : Nat → Bool → Bool → Nat → DD → (Nat × Nat) × DD
  | 0, _, _, i, A => ((0, i), A)
  | u + 1, ib, ph, i, A => if ib = false ∧ K i = 24 then ((0, i), A) else match stp K V ib ph i A with
    | .inl x => (x, A)
    | .inr (ib', ph', i', A') => rd2 K V u ib' ph' i' A'
theorem m99_le (a : Nat) : m99 a ≤ 99 := by
  unfold m99
  split <;> omega
theorem m99_id {a : Nat} (h : a ≤ 99) : m99 a = a := if_pos h
theorem oo_none {a b : Option (Nat × Nat)} (h : oo a b = none) : a = none ∧ b = none := by
  cases a with
  | none => exact ⟨rfl, h⟩
  | some x => cases h
theorem fN_none {K V : Nat → Nat} {lo hi i : Nat} (h : fN K V lo hi i = none) : K i = 22 ∧ lo ≤ V i ∧ V i ≤ hi := by
  unfold fN at h
  by_cases c : K i = 22
  · rw [if_pos c] at h
    by_cases d : lo ≤ V i ∧ V i ≤ hi
    · exact ⟨c, d⟩
    · rw [if_neg d] at h; cases h
  · rw [if_neg c] at h; cases h
theorem fS_none {K : Nat → Nat} {i : Nat} (h : fS K i = none) : K i = 23 := by
  unfold fS at h
  by_cases c : K i = 23
  · exact c
  · rw [if_neg c] at h; cases h
theorem fNs_none {K V : Nat → Nat} {hi : Nat} : ∀ m i, fNs K V hi m i = none → ∀ t, t < m → K (i + t) = 22 ∧ V (i + t) ≤ hi := by
  intro m
  induction m with
  | zero => intro i _ t ht; exact absurd ht (Nat.not_lt_zero t)
  | succ m ih =>
    intro i h t ht
    obtain ⟨h1, h2⟩ := oo_none h
    obtain ⟨k1, k2, k3⟩ := fN_none h1
    cases t with
    | zero => exact ⟨k1, k3⟩
    | succ t =>
      have := ih (i + 1) h2 t (by omega)
      rw [show i + (t + 1) = i + 1 + t by omega]
      exact this
theorem mK_pos (K : Nat → Nat) (i : Nat) : 0 < mK K i := by
  unfold mK
  split
  · unfold mP
    split
    · rename_i c
      obtain ⟨h1, h2, h3, h4⟩ := fu_spec (fun j => decide (¬ K j = 22)) 400 (i + 1)
      by_cases z : fu (fun j => decide (¬ K j = 22)) 400 (i + 1) = i + 1
      · rw [z] at h4
        have := of_decide_eq_true (h4 (by omega))
        exact absurd c this
      · omega
    · omega
  · split <;> omega
/-- of a phi, its numbers -/
theorem mK_phi {K : Nat → Nat} {i N : Nat} (h7 : K i = 7) (hi : i < N) (hN : N ≤ 320) (hK : ¬ K N = 22) : i + 1 + mK K i ≤ N + 1 ∧ (∀ t, 0 < t → t < mK K i → K (i + 1 + t) = 22) ∧ (K (i + 1) = 22 → ¬ K (i + 1 + mK K i) = 22 ∧ i + 1 + mK K i ≤ N) ∧ (¬ K (i + 1) = 22 → mK K i = 1) := by
  unfold mK
  rw [if_pos h7]
  unfold mP
  obtain ⟨h1, h2, h3, h4⟩ := fu_spec (fun j => decide (¬ K j = 22)) 400 (i + 1)
  have hle : fu (fun j => decide (¬ K j = 22)) 400 (i + 1) ≤ N := by
    rcases Nat.lt_or_ge N (fu (fun j => decide (¬ K j = 22)) 400 (i + 1)) with c | c
    · have := of_decide_eq_false (h3 N (by omega) c)
      exact absurd hK this
    · exact c
  by_cases c : K (i + 1) = 22
  · rw [if_pos c]
    refine ⟨by omega, fun t h5 h6 => ?_, fun _ => ⟨?_, by omega⟩, fun z => absurd c z⟩
    · have := of_decide_eq_false (h3 (i + 1 + t) (by omega) (by omega))
      exact Classical.not_not.mp this
    · rw [show i + 1 + (fu (fun j => decide (¬ K j = 22)) 400 (i + 1) - (i + 1)) = fu (fun j => decide (¬ K j = 22)) 400 (i + 1) by omega]
      exact of_decide_eq_true (h4 (by omega))
  · rw [if_neg c]
    exact ⟨by omega, fun t h5 h6 => by omega, fun z => absurd z c, fun _ => rfl⟩
/-! drafts -/
def cl (ib : Bool) (A : DD) : Nat := if ib then A 0 0 - 1 else A 0 0
def DW (ib : Bool) (A : DD) : Prop :=
  (A 0 0 ≤ 6 ∧ A 0 1 ≤ 20 ∧ (ib = true → 0 < A 0 0)) ∧ WB A ∧
  (∀ b, b < A 0 0 → A 1 b + A 2 b ≤ A 0 1) ∧ (ib = true → A 1 (A 0 0 - 1) + A 2 (A 0 0 - 1) = A 0 1) ∧ WH A ∧
  (∀ b, b < cl ib A → A 3 b ≤ 2 ∧ (A 3 b ≠ 2 → 1 ≤ A 4 b ∧ A 4 b ≤ 5) ∧ (A 3 b = 1 → 1 ≤ A 5 b ∧ A 5 b ≤ 5) ∧ (A 3 b ≠ 0 → A 6 b ≤ 19)) ∧
  (∀ n, n < A 0 1 → A 10 n ≤ 7 ∧ A 11 n < A 0 0 ∧ (A 10 n ≤ 1 → A 12 n = 0) ∧ (A 10 n = 4 → A 12 n = 1) ∧ (2 ≤ A 10 n → A 10 n ≤ 6 → A 10 n ≠ 4 → A 12 n = 2) ∧ (A 10 n = 7 → 0 < A 12 n) ∧ (A 10 n = 0 → A 13 n ≤ 99) ∧ (A 10 n = 1 → A 13 n ≤ 3))
theorem DW_0 : DW false (fun _ _ => 0) := ⟨⟨Nat.zero_le _, Nat.zero_le _, fun z => (by cases z)⟩, fun _ _ => (by decide : (0 : Nat) < 1000), fun b hb => absurd hb (Nat.not_lt_zero b), fun z => (by cases z), fun b n hb => absurd hb (Nat.not_lt_zero b), fun b hb => absurd hb (Nat.not_lt_zero b), fun n hn => absurd hn (Nat.not_lt_zero n)⟩
section DRW
variable {K V : Nat → Nat} {A : DD} {i : Nat}
theorem hd_o {f x : Nat} (h1 : ¬ (f = 0 ∧ x = 0)) (h2 : f = 1 → x ≠ A 0 0) (h3 : f = 2 → x ≠ A 0 0) : hdA A f x = A f x := by
  unfold hdA
  rw [if_neg h1, if_neg (fun z => h2 z.1 z.2), if_neg (fun z => h3 z.1 z.2)]
theorem DW_hd (h : DW false A) (h6 : A 0 0 < 6) : DW true (hdA A) := by
  obtain ⟨⟨a1, a2, a3⟩, a4, a5, a6, a7, a8, a9⟩ := h
  have e0 : hdA A 0 0 = A 0 0 + 1 := if_pos ⟨rfl, rfl⟩
  have e1 : hdA A 0 1 = A 0 1 := hd_o (by omega) (by omega) (by omega)
  have e2 : hdA A 1 (A 0 0) = A 0 1 := by unfold hdA; rw [if_neg (by omega), if_pos ⟨rfl, rfl⟩]
  have e3 : hdA A 2 (A 0 0) = 0 := by unfold hdA; rw [if_neg (by omega), if_neg (by omega), if_pos ⟨rfl, rfl⟩]
  refine ⟨⟨by omega, by omega, fun _ => by omega⟩, fun f x => ?_, fun b hb => ?_, fun _ => ?_, fun b n hb h1 h2 => ?_, fun b hb => ?_, fun n hn => ?_⟩
  · have := a4 f x
    unfold hdA
    split
    · omega
    · split
      · omega
      · split <;> omega
  · rw [e0] at hb
    rw [e1]
    by_cases c : b = A 0 0
    · rw [c, e2, e3]; omega
    · rw [hd_o (by omega) (by omega) (by omega), hd_o (by omega) (by omega) (by omega)]
      exact a5 b (by omega)
  · rw [e0, Nat.add_sub_cancel, e1, e2, e3]; omega
  · rw [e0] at hb
    by_cases c : b = A 0 0
    · rw [c, e2] at h1; rw [c, e2, e3] at h2; omega
    · rw [hd_o (by omega) (by omega) (by omega)] at h1
      rw [hd_o (by omega) (by omega) (by omega), hd_o (by omega) (by omega) (by omega)] at h2
      rw [hd_o (by omega) (by omega) (by omega)]
      exact a7 b n (by omega) h1 h2
  · have hb : b < hdA A 0 0 - 1 := hb
    rw [e0, Nat.add_sub_cancel] at hb
    rw [hd_o (by omega) (by omega) (by omega), hd_o (by omega) (by omega) (by omega), hd_o (by omega) (by omega) (by omega), hd_o (by omega) (by omega) (by omega)]
    exact a8 b hb
  · rw [e1] at hn
    rw [e0, hd_o (by omega) (by omega) (by omega), hd_o (by omega) (by omega) (by omega), hd_o (by omega) (by omega) (by omega), hd_o (by omega) (by omega) (by omega)]
    obtain ⟨b1, b2, b3⟩ := a9 n hn
    exact ⟨b1, by omega, b3⟩
theorem nm_0 : nmA K V i A 0 0 = A 0 0 := rfl
theorem nm_1 : nmA K V i A 0 1 = A 0 1 + 1 := rfl
theorem nm_f {f x : Nat} (h : f = 1 ∨ f = 3 ∨ f = 4 ∨ f = 5 ∨ f = 6) : nmA K V i A f x = A f x := by
  unfold nmA
  rw [if_neg (by omega), if_neg (by omega), if_neg (by omega), if_neg (by omega), if_neg (by omega), if_neg (by omega), if_neg (by omega)]
theorem nm_2 {x : Nat} : nmA K V i A 2 x = if x = A 0 0 - 1 then A 2 x + 1 else A 2 x := by
  unfold nmA
  rw [if_neg (by omega)]
  by_cases c : x = A 0 0 - 1
  · rw [if_pos ⟨rfl, c⟩, if_pos c]
  · rw [if_neg (by omega), if_neg (by omega), if_neg (by omega), if_neg (by omega), if_neg (by omega), if_neg (by omega), if_neg c]
theorem nm_10 {x : Nat} : nmA K V i A 10 x = if x = A 0 1 then K i else A 10 x := by
  unfold nmA
  rw [if_neg (by omega), if_neg (by omega)]
  by_cases c : x = A 0 1
  · rw [if_pos ⟨rfl, c⟩, if_pos c]
  · rw [if_neg (by omega), if_neg (by omega), if_neg (by omega), if_neg (by omega), if_neg (by omega), if_neg c]
theorem nm_11 {x : Nat} : nmA K V i A 11 x = if x = A 0 1 then A 0 0 - 1 else A 11 x := by
  unfold nmA
  rw [if_neg (by omega), if_neg (by omega), if_neg (by omega)]
  by_cases c : x = A 0 1
  · rw [if_pos ⟨rfl, c⟩, if_pos c]
  · rw [if_neg (by omega), if_neg (by omega), if_neg (by omega), if_neg (by omega), if_neg c]
theorem nm_12 {x : Nat} : nmA K V i A 12 x = if x = A 0 1 then (if K i ≤ 1 then 0 else mK K i) else A 12 x := by
  unfold nmA
  rw [if_neg (by omega), if_neg (by omega), if_neg (by omega), if_neg (by omega)]
  by_cases c : x = A 0 1
  · rw [if_pos ⟨rfl, c⟩, if_pos c]
  · rw [if_neg (by omega), if_neg (by omega), if_neg (by omega), if_neg c]
theorem nm_13 {x : Nat} : nmA K V i A 13 x = if x = A 0 1 then m99 (V (i + 1)) else A 13 x := by
  unfold nmA
  rw [if_neg (by omega), if_neg (by omega), if_neg (by omega), if_neg (by omega), if_neg (by omega)]
  by_cases c : x = A 0 1
  · rw [if_pos ⟨rfl, c⟩, if_pos c]
  · rw [if_neg (by omega), if_neg (by omega), if_neg c]
theorem nm_14 {n j : Nat} (hj : j < 6) : nmA K V i A 14 (6 * n + j) = if n = A 0 1 then m99 (V (i + 1 + j)) else A 14 (6 * n + j) := by
  unfold nmA
  rw [if_neg (by omega), if_neg (by omega), if_neg (by omega), if_neg (by omega), if_neg (by omega), if_neg (by omega)]
  by_cases c : n = A 0 1
  · rw [if_pos ⟨rfl, by omega, by omega⟩, if_pos c, c, show 6 * A 0 1 + j - 6 * A 0 1 = j by omega]
  · rw [if_neg (by omega), if_neg c]
theorem DW_nm (h : DW true A) (h20 : A 0 1 < 20) (hk : K i ≤ 7) (hm : mK K i < 1000) (hv : fName K V i = none) : DW true (nmA K V i A) := by
  obtain ⟨⟨a1, a2, a3⟩, a4, a5, a6, a7, a8, a9⟩ := h
  have a3 := a3 rfl
  have a6 := a6 rfl
  obtain ⟨v1, v2⟩ := oo_none hv
  have v3 := fNs_none _ _ v1 0 (mK_pos K i)
  rw [Nat.add_zero] at v3
  have hw := a4 2 (A 0 0 - 1)
  refine ⟨⟨by rw [nm_0]; omega, by rw [nm_1]; omega, fun _ => by rw [nm_0]; omega⟩, fun f x => ?_, fun b hb => ?_, fun _ => ?_, fun b n hb h1 h2 => ?_, fun b hb => ?_, fun n hn => ?_⟩
  · have w1 := a4 f x
    have w3 := m99_le (V (i + 1))
    have w4 := m99_le (V (i + 1 + (x - 6 * A 0 1)))
    have w5 := a5 (A 0 0 - 1) (by omega)
    unfold nmA
    split
    · omega
    · split
      · rename_i z; rw [z.2]; omega
      · split
        · omega
        · split
          · omega
          · split
            · split <;> omega
            · split
              · omega
              · split <;> omega
  · rw [nm_0] at hb
    rw [nm_1, nm_f (by omega), nm_2]
    have := a5 b hb
    split
    · omega
    · omega
  · rw [nm_0, nm_1, nm_f (by omega), nm_2, if_pos rfl]; omega
  · rw [nm_0] at hb
    rw [nm_f (by omega)] at h1 h2
    rw [nm_2] at h2
    rw [nm_11]
    by_cases c : n = A 0 1
    · rw [if_pos c]
      have := a5 b hb
      by_cases d : b = A 0 0 - 1
      · exact d.symm
      · rw [if_neg d] at h2; omega
    · rw [if_neg c]
      refine a7 b n hb h1 ?_
      by_cases d : b = A 0 0 - 1
      · rw [if_pos d] at h2
        have : A 2 b = A 2 (A 0 0 - 1) := by rw [d]
        have : A 1 b = A 1 (A 0 0 - 1) := by rw [d]
        omega
      · rw [if_neg d] at h2; exact h2
  · have hb : b < nmA K V i A 0 0 - 1 := hb
    rw [nm_0] at hb
    rw [nm_f (by omega), nm_f (by omega), nm_f (by omega), nm_f (by omega)]
    exact a8 b hb
  · rw [nm_1] at hn
    rw [nm_0, nm_10, nm_11, nm_12, nm_13]
    by_cases c : n = A 0 1
    · rw [if_pos c, if_pos c, if_pos c, if_pos c]
      have mp := mK_pos K i
      refine ⟨hk, by omega, fun z => if_pos z, fun z => ?_, fun z1 z2 z3 => ?_, fun z => ?_, fun z => ?_, fun z => ?_⟩
      · rw [if_neg (by omega)]; unfold mK; rw [if_neg (by omega), if_pos (Or.inr z)]
      · rw [if_neg (by omega)]; unfold mK; rw [if_neg (by omega), if_neg (by omega)]
      · rw [if_neg (by omega)]; exact mp
      · exact m99_le _
      · have e : hiK (K i) = 3 := by unfold hiK; rw [if_neg (by omega), if_pos z]
        rw [e] at v3
        rw [m99_id (by omega)]; exact v3.2
    · rw [if_neg c, if_neg c, if_neg c, if_neg c]
      exact a9 n (by omega)
theorem en_o {f x : Nat} (h : ¬ (3 ≤ f ∧ f ≤ 6) ∨ x ≠ A 0 0 - 1) : enA K V i A f x = A f x := by
  unfold enA
  rw [if_neg (by omega), if_neg (by omega), if_neg (by omega), if_neg (by omega)]
theorem fEnd_v (h10 : 10 ≤ K i) (h12 : K i ≤ 12) (hv : fEnd K V i = none) : (K i ≠ 12 → 1 ≤ V (if K i = 11 then i + 2 else i + 1) ∧ V (if K i = 11 then i + 2 else i + 1) ≤ 5) ∧ (K i = 11 → 1 ≤ V (i + 3) ∧ V (i + 3) ≤ 5) ∧ (K i ≠ 10 → V (i + 1) ≤ 19) := by
  unfold fEnd at hv
  by_cases c : K i = 10
  · rw [if_pos c] at hv
    have := fN_none (oo_none hv).1
    rw [if_neg (by omega)]
    exact ⟨fun _ => this.2, fun z => by omega, fun z => absurd c z⟩
  · rw [if_neg c] at hv
    by_cases d : K i = 11
    · rw [if_pos d] at hv
      obtain ⟨k1, k2⟩ := oo_none hv
      obtain ⟨k2, k3⟩ := oo_none k2
      obtain ⟨k3, k4⟩ := oo_none k3
      rw [if_pos d]
      exact ⟨fun _ => (fN_none k2).2, fun _ => (fN_none k3).2, fun _ => (fN_none k1).2.2⟩
    · rw [if_neg d] at hv
      exact ⟨fun z => by omega, fun z => absurd z d, fun _ => (fN_none (oo_none hv).1).2.2⟩
theorem DW_en (h : DW true A) (h10 : 10 ≤ K i) (h12 : K i ≤ 12) (hv : fEnd K V i = none) : DW false (enA K V i A) := by
  obtain ⟨⟨a1, a2, a3⟩, a4, a5, a6, a7, a8, a9⟩ := h
  have a3 := a3 rfl
  have e0 : ∀ x, enA K V i A 0 x = A 0 x := fun x => en_o (by omega)
  obtain ⟨v1, v2, v3⟩ := fEnd_v h10 h12 hv
  refine ⟨⟨by rw [e0]; omega, by rw [e0]; omega, fun z => (by cases z)⟩, fun f x => ?_, fun b hb => ?_, fun z => (by cases z), fun b n hb h1 h2 => ?_, fun b hb => ?_, fun n hn => ?_⟩
  · have := a4 f x
    have w1 := m99_le (K i - 10)
    have w2 := m99_le (V (if K i = 11 then i + 2 else i + 1))
    have w3 := m99_le (V (i + 3))
    have w4 := m99_le (V (i + 1))
    unfold enA
    split
    · omega
    · split
      · omega
      · split
        · omega
        · split <;> omega
  · rw [e0] at hb
    rw [e0, en_o (by omega), en_o (by omega)]
    exact a5 b hb
  · rw [e0] at hb
    rw [en_o (by omega)] at h1
    rw [en_o (by omega), en_o (by omega)] at h2
    rw [en_o (by omega)]
    exact a7 b n hb h1 h2
  · have hb : b < enA K V i A 0 0 := hb
    rw [e0] at hb
    by_cases c : b = A 0 0 - 1
    · have g3 : enA K V i A 3 b = K i - 10 := by
        have : enA K V i A 3 b = m99 (K i - 10) := if_pos ⟨rfl, c⟩
        rw [this, m99_id (by omega)]
      have g4 : enA K V i A 4 b = m99 (V (if K i = 11 then i + 2 else i + 1)) := by unfold enA; rw [if_neg (by omega), if_pos ⟨rfl, c⟩]
      have g5 : enA K V i A 5 b = m99 (V (i + 3)) := by unfold enA; rw [if_neg (by omega), if_neg (by omega), if_pos ⟨rfl, c⟩]
      have g6 : enA K V i A 6 b = m99 (V (i + 1)) := by unfold enA; rw [if_neg (by omega), if_neg (by omega), if_neg (by omega), if_pos ⟨rfl, c⟩]
      rw [g3, g4, g5, g6]
      refine ⟨by omega, fun z => ?_, fun z => ?_, fun z => ?_⟩
      · have := v1 (by omega); rw [m99_id (by omega)]; exact this
      · have := v2 (by omega); rw [m99_id (by omega)]; exact this
      · have := v3 (by omega); rw [m99_id (by omega)]; exact this
    · rw [en_o (Or.inr c), en_o (Or.inr c), en_o (Or.inr c), en_o (Or.inr c)]
      exact a8 b (by show b < A 0 0 - 1; omega)
  · rw [e0] at hn
    rw [e0, en_o (by omega), en_o (by omega), en_o (by omega), en_o (by omega)]
    exact a9 n hn
end DRW
section STP
variable {K V : Nat → Nat} {A A' : DD} {i i' N : Nat} {ib ib' ph ph' : Bool}
theorem nx_tok (hN : endK (K N)) {j : Nat} (hj : j ≤ N) (h : ¬ endK (K j)) : j < N := by
  by_cases c : j = N
  · subst c; exact absurd hN h
  · omega
theorem nx_num (hN : endK (K N)) {m : Nat} : ∀ j, j ≤ N → (∀ t, t < m → K (j + t) = 22) → j + m ≤ N := by
  induction m with
  | zero => intro j hj _; exact hj
  | succ m ih =>
    intro j hj h
    have h1 := ih j hj (fun t ht => h t (by omega))
    have h2 := h m (by omega)
    have := nx_tok hN h1 (by unfold endK; omega)
    omega
theorem stp_ok (hN : endK (K N)) (hN2 : N ≤ 320) (w : DW ib A) (hi : i ≤ N) (h24 : ¬ (ib = false ∧ K i = 24)) (h : stp K V ib ph i A = .inr (ib', ph', i', A')) : DW ib' A' ∧ i < i' ∧ i' ≤ N := by
  cases ib with
  | false =>
    rw [stp_f] at h; unfold stF at h
    by_cases c1 : K i = 20
    · rw [if_pos c1] at h
      by_cases c2 : A 0 0 < 6
      · rw [if_pos c2] at h
        cases c3 : fS K (i + 1) with
        | some x => rw [c3] at h; cases h
        | none =>
          rw [c3] at h
          cases h
          have := fS_none c3
          have h1 := nx_tok hN hi (by unfold endK; omega)
          have h2 := nx_tok hN (j := i + 1) (by omega) (by unfold endK; omega)
          exact ⟨DW_hd w c2, by omega, by omega⟩
      · rw [if_neg c2] at h; cases h
    · rw [if_neg c1] at h; cases h
  | true =>
    rw [stp_t] at h; unfold stT at h
    by_cases c1 : K i ≤ 7
    · rw [if_pos c1] at h
      by_cases c2 : K i = 7 ∧ ph = true
      · rw [if_pos c2] at h; cases h
      · rw [if_neg c2] at h
        by_cases c3 : A 0 1 < 20
        · rw [if_pos c3] at h
          cases c4 : fName K V i with
          | some x => rw [c4] at h; cases h
          | none =>
            rw [c4] at h
            cases h
            obtain ⟨v1, v2⟩ := oo_none c4
            have v3 := fS_none v2
            have h1 := nx_tok hN hi (by unfold endK; omega)
            have h2 := nx_num hN (m := mK K i) (i + 1) (by omega) (fun t ht => (fNs_none _ _ v1 t ht).1)
            have h3 := nx_tok hN h2 (by unfold endK; omega)
            exact ⟨DW_nm w c3 c1 (by omega) c4, by unfold nxN; omega, by unfold nxN; omega⟩
        · rw [if_neg c3] at h; cases h
    · rw [if_neg c1] at h
      by_cases c2 : 10 ≤ K i ∧ K i ≤ 12
      · rw [if_pos c2] at h
        cases c4 : fEnd K V i with
        | some x => rw [c4] at h; cases h
        | none =>
          rw [c4] at h
          cases h
          refine ⟨DW_en w c2.1 c2.2 c4, by unfold nxE; split <;> omega, ?_⟩
          have h1 := nx_tok hN hi (by unfold endK; omega)
          have hk : ∀ j, j ≤ N → K j = 22 ∨ K j = 23 → j + 1 ≤ N := fun j hj z => nx_tok hN hj (by unfold endK; omega)
          unfold fEnd at c4
          unfold nxE
          by_cases d : K i = 10
          · rw [if_pos d] at c4
            obtain ⟨k1, k2⟩ := oo_none c4
            have l1 := hk (i + 1) (by omega) (Or.inl (fN_none k1).1)
            have l2 := hk (i + 2) (by omega) (Or.inr (fS_none k2))
            rw [if_neg (by omega)]; omega
          · rw [if_neg d] at c4
            by_cases e : K i = 11
            · rw [if_pos e] at c4
              obtain ⟨k1, k2⟩ := oo_none c4
              obtain ⟨k2, k3⟩ := oo_none k2
              obtain ⟨k3, k4⟩ := oo_none k3
              have l1 := hk (i + 1) (by omega) (Or.inl (fN_none k1).1)
              have l2 := hk (i + 2) (by omega) (Or.inl (fN_none k2).1)
              have l3 := hk (i + 3) (by omega) (Or.inl (fN_none k3).1)
              have l4 := hk (i + 4) (by omega) (Or.inr (fS_none k4))
              rw [if_pos e]; omega
            · rw [if_neg e] at c4
              obtain ⟨k1, k2⟩ := oo_none c4
              have l1 := hk (i + 1) (by omega) (Or.inl (fN_none k1).1)
              have l2 := hk (i + 2) (by omega) (Or.inr (fS_none k2))
              rw [if_neg e]; omega
      · rw [if_neg c2] at h; cases h
end STP
