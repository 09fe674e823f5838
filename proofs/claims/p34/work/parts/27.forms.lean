/-! FORMS, told -/
def VOI : Int64 := lN 1000000000000
def NOT : Int64 := lN 2000000000000
def br (k : Nat) (x y : Int64) : Int64 := if x = VOI ∨ y = VOI then (if k = 5 then lN 0 else VOI) else if k = 2 then (x + y).toInt32.toInt64 else if k = 3 then (x * y).toInt32.toInt64 else if k = 4 then (-x).toInt32.toInt64 else if k = 5 then (if x < y then lN 1 else lN 0) else (if y = lN 0 then VOI else (x / y).toInt32.toInt64)
def cd : Nat ⊕ Int64 → Int64
  | .inl m => lN (3000000000000 + m)
  | .inr v => v
def isn : Nat ⊕ Int64 → Bool
  | .inl _ => true
  | .inr _ => false
def nmI : Nat ⊕ Int64 → Int32
  | .inl m => nI m
  | .inr _ => -4
def nvL : Nat ⊕ Int64 → Int64
  | .inl _ => NOT
  | .inr v => v
/-- what FORMS keep to -/
def okF (A : Nat → Nat → Nat) : Nat ⊕ Int64 → Prop
  | .inl m => m < A 0 1
  | .inr v => v.toInt < 3000000000000
def bh (A : Nat → Nat → Nat) (n : Nat) : Bool := !ay (fun i => decide (n ≤ A 14 (6 * n + i))) (A 12 n)
def pf (A : Nat → Nat → Nat) (F : Nat → Nat ⊕ Int64) (n m : Nat) : Bool := !ay (fun i => decide (¬ F (A 14 (6 * n + i)) = F (A 14 (6 * m + i)))) (A 12 n)
def cf (A : Nat → Nat → Nat) (F : Nat → Nat ⊕ Int64) (n m : Nat) : Bool := decide ((A 10 n = 2 ∨ A 10 n = 3) ∧ F (A 14 (6 * n)) = F (A 14 (6 * m + 1)) ∧ F (A 14 (6 * n + 1)) = F (A 14 (6 * m)))
def sf (A : Nat → Nat → Nat) (F : Nat → Nat ⊕ Int64) (n m : Nat) : Bool := if A 10 n = 1 then decide (A 13 m = A 13 n) else if A 10 n = 7 ∧ ¬ (A 11 m = A 11 n ∧ bh A m = true) then false else (pf A F n m || cf A F n m)
def ef (A : Nat → Nat → Nat) (F : Nat → Nat ⊕ Int64) (n : Nat) : Nat := fu (fun m => decide (A 10 m = A 10 n ∧ F m = .inl m) && sf A F n m) n 0
def fo (A : Nat → Nat → Nat) (F : Nat → Nat ⊕ Int64) (n : Nat) : Nat ⊕ Int64 :=
  if A 10 n = 0 then .inr (if A 13 n = 99 then VOI else lN (A 13 n))
  else if A 10 n = 1 then .inl (ef A F n)
  else if A 10 n = 8 then .inl n
  else if A 10 n = 4 then (match F (A 14 (6 * n)) with | .inr v => .inr (br 4 v (lN 0)) | .inl m => if A 10 m = 4 then F (A 14 (6 * m)) else .inl (ef A F n))
  else if A 10 n = 7 then (if bh A n = false then .inl n else if ay (fun i => decide (¬ F (A 14 (6 * n + i)) = F (A 14 (6 * n)))) (A 12 n) = false then F (A 14 (6 * n)) else .inl (ef A F n))
  else
    if (isn (F (A 14 (6 * n))) = false ∧ isn (F (A 14 (6 * n + 1))) = false) ∨ F (A 14 (6 * n)) = .inr VOI ∨ F (A 14 (6 * n + 1)) = .inr VOI then .inr (br (A 10 n) (cd (F (A 14 (6 * n)))) (cd (F (A 14 (6 * n + 1)))))
    else if (A 10 n = 2 ∧ F (A 14 (6 * n)) = .inr (lN 0)) ∨ (A 10 n = 3 ∧ F (A 14 (6 * n)) = .inr (lN 1)) then F (A 14 (6 * n + 1))
    else if (A 10 n = 2 ∧ F (A 14 (6 * n + 1)) = .inr (lN 0)) ∨ (A 10 n = 3 ∧ F (A 14 (6 * n + 1)) = .inr (lN 1)) ∨ (A 10 n = 6 ∧ F (A 14 (6 * n + 1)) = .inr (lN 1)) then F (A 14 (6 * n))
    else .inl (ef A F n)
def fs (A : Nat → Nat → Nat) : Nat → Nat → Nat ⊕ Int64
  | 0 => fun n => .inl n
  | k + 1 => fun n => if n = k then fo A (fs A k) k else fs A k n
section FOR
variable {A : Nat → Nat → Nat} {F : Nat → Nat ⊕ Int64}
theorem lN_VOI : VOI = lN 1000000000000 := rfl
theorem lN_toI {n : Nat} (h : n < 9000000000000000000) : (lN n).toInt = (n : Int) := pk_lT (by omega)
theorem cd_inj {x y : Nat ⊕ Int64} (hx : okF A x) (hy : okF A y) (hN : A 0 1 ≤ 20) : cd x = cd y ↔ x = y := by
  constructor
  · intro h
    have h2 := congrArg Int64.toInt h
    cases x with
    | inl a =>
      have ha : a < A 0 1 := hx
      cases y with
      | inl b =>
        have hb : b < A 0 1 := hy
        unfold cd at h2
        simp only at h2
        rw [lN_toI (by omega), lN_toI (by omega)] at h2
        rw [show a = b by omega]
      | inr w =>
        have hw : w.toInt < 3000000000000 := hy
        unfold cd at h2
        simp only at h2
        rw [lN_toI (by omega)] at h2
        omega
    | inr v =>
      have hv : v.toInt < 3000000000000 := hx
      cases y with
      | inl b =>
        have hb : b < A 0 1 := hy
        unfold cd at h2
        simp only at h2
        rw [lN_toI (by omega)] at h2
        omega
      | inr w => exact congrArg Sum.inr h
  · intro h; rw [h]
theorem isn_cd {x : Nat ⊕ Int64} (hx : okF A x) (hN : A 0 1 ≤ 20) : (cd x < lN 3000000000000) = (isn x = false) := by
  rw [Int64.lt_iff_toInt_lt, lN_toI (by omega)]
  cases x with
  | inl a =>
    have ha : a < A 0 1 := hx
    unfold cd isn
    simp only
    rw [lN_toI (by omega)]
    exact propext ⟨fun z => by omega, fun z => by cases z⟩
  | inr v =>
    have hv : v.toInt < 3000000000000 := hx
    exact propext ⟨fun _ => rfl, fun _ => hv⟩
theorem i2l_small (x : Int32) : x.toInt64.toInt < 3000000000000 := by
  rw [Int32.toInt_toInt64]
  have := Int32.toInt_lt x
  omega
theorem br_ok (k : Nat) (x y : Int64) : (br k x y).toInt < 3000000000000 := by
  have v : VOI.toInt < 3000000000000 := by rw [lN_VOI, lN_toI (by omega)]; decide
  have z0 : (lN 0).toInt < 3000000000000 := by decide
  have z1 : (lN 1).toInt < 3000000000000 := by decide
  unfold br
  repeat' split
  all_goals first | assumption | exact i2l_small _
theorem ef_le (n : Nat) : ef A F n ≤ n := by
  have := (fu_spec (fun m => decide (A 10 m = A 10 n ∧ F m = .inl m) && sf A F n m) n 0).2.1
  unfold ef
  omega
theorem fo_ok (hr : WR A) (hg : WG A) (hF : ∀ n, n < A 0 1 → okF A (F n)) {n : Nat} (hn : n < A 0 1) : okF A (fo A F n) := by
  have he := ef_le (A := A) (F := F) n
  obtain ⟨q0, -, q2, q3, q4, q5, q6, q7, q8, -, q10⟩ := hr.2.2.2 n hn
  have ie : okF A (.inl (ef A F n)) := Nat.lt_of_le_of_lt he hn
  have iN : okF A (.inl n) := hn
  unfold fo
  by_cases c0 : A 10 n = 0
  · rw [if_pos c0]
    show (if A 13 n = 99 then VOI else lN (A 13 n)).toInt < 3000000000000
    have := q8 c0
    split
    · rw [lN_VOI, lN_toI (by omega)]; decide
    · rw [lN_toI (by omega)]; omega
  rw [if_neg c0]
  by_cases c1 : A 10 n = 1
  · rw [if_pos c1]; exact ie
  rw [if_neg c1]
  by_cases c8 : A 10 n = 8
  · rw [if_pos c8]; exact iN
  rw [if_neg c8]
  by_cases c4 : A 10 n = 4
  · rw [if_pos c4]
    have o0 := q10 0 (by have := q5 c4; omega)
    cases hx : F (A 14 (6 * n)) with
    | inr v => exact br_ok _ _ _
    | inl m =>
      simp only
      by_cases c : A 10 m = 4
      · rw [if_pos c]
        have hm : m < A 0 1 := by have := hF _ o0; rw [show 6 * n + 0 = 6 * n from rfl, hx] at this; exact this
        have o1 := (hr.2.2.2 m hm).2.2.2.2.2.2.2.2.2.2 0 (by have := (hr.2.2.2 m hm).2.2.2.2.2.1 c; omega)
        exact hF _ o1
      · rw [if_neg c]; exact ie
  rw [if_neg c4]
  by_cases c7 : A 10 n = 7
  · rw [if_pos c7]
    split
    · exact iN
    · split
      · exact hF _ (q10 0 (hg.2.2.2.1 n hn c7))
      · exact ie
  rw [if_neg c7]
  have ar := q6 (by omega) (by omega) c4
  have o0 := q10 0 (by omega)
  have o1 := q10 1 (by omega)
  split
  · exact br_ok _ _ _
  · split
    · exact hF _ o1
    · split
      · exact hF _ o0
      · exact ie
theorem fs_ok (hr : WR A) (hg : WG A) : ∀ k, k ≤ A 0 1 → ∀ n, n < A 0 1 → okF A (fs A k n) := by
  intro k
  induction k with
  | zero => intro _ n hn; exact hn
  | succ k ih =>
    intro hk n hn
    show okF A (if n = k then fo A (fs A k) k else fs A k n)
    split
    · exact fo_ok hr hg (ih (by omega)) (by omega)
    · exact ih (by omega) n hn
theorem fs_behind : ∀ k n, k ≤ n → fs A k n = .inl n := by
  intro k
  induction k with
  | zero => intro n _; rfl
  | succ k ih =>
    intro n hn
    show (if n = k then fo A (fs A k) k else fs A k n) = _
    rw [if_neg (by omega)]
    exact ih n (by omega)
end FOR
