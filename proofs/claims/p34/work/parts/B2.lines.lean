/-! THE TEXT: lines as they are written, and as they are read -/
def hdL : List Tk := [(0, 8), (2, 0)]
def nmL (X : Nat → Nat → Nat) (n : Nat) : List Tk :=
  if X 10 n ≤ 1 then [(0, X 10 n), (1, X 13 n), (2, 0)]
  else if X 10 n = 4 then [(0, X 10 n), (1, X 14 (6 * n)), (2, 0)]
  else [(0, X 10 n), (1, X 14 (6 * n)), (1, X 14 (6 * n + 1)), (2, 0)]
def enL (X : Nat → Nat → Nat) (b : Nat) : List Tk :=
  if X 3 b = 0 then [(0, 9), (1, X 4 b), (2, 0)] else if X 3 b = 1 then [(0, 10), (1, X 6 b), (1, X 4 b), (1, X 5 b), (2, 0)] else [(0, 11), (1, X 6 b), (2, 0)]
def nmsT (X : Nat → Nat → Nat) (f : Nat) : Nat → List Tk
  | 0 => []
  | j + 1 => nmsT X f j ++ nmL X (f + j)
def fB (X : Nat → Nat → Nat) : Nat → Nat
  | 0 => 0
  | c + 1 => fB X c + X 2 c
def txT (X : Nat → Nat → Nat) : Nat → List Tk
  | 0 => []
  | c + 1 => txT X c ++ (hdL ++ (nmsT X (X 1 c) (X 2 c) ++ enL X c))
/-- a program that can be written -/
def XP (X : Nat → Nat → Nat) : Prop :=
  X 0 0 ≤ 6 ∧ X 0 1 ≤ 20 ∧ X 0 1 = fB X (X 0 0) ∧ (∀ c, c < X 0 0 → X 1 c = fB X c) ∧ (∀ c n, c < X 0 0 → X 1 c ≤ n → n < X 1 c + X 2 c → X 11 n = c) ∧
  (∀ n, n < X 0 1 → X 10 n ≤ 7 ∧ (X 10 n ≤ 1 → X 12 n = 0) ∧ (X 10 n = 4 → X 12 n = 1) ∧ (2 ≤ X 10 n → X 10 n ≠ 4 → X 12 n = 2) ∧ (X 10 n = 0 → X 13 n ≤ 99) ∧ (X 10 n = 1 → X 13 n ≤ 3) ∧ (2 ≤ X 10 n → X 14 (6 * n) ≤ 19 ∧ X 14 (6 * n + 1) ≤ 19)) ∧
  (∀ n m, n < m → m < X 0 1 → X 11 n = X 11 m → X 10 m = 7 → X 10 n = 7) ∧
  (∀ c, c < X 0 0 → X 3 c ≤ 2 ∧ (X 3 c ≠ 2 → 1 ≤ X 4 c ∧ X 4 c ≤ 5) ∧ (X 3 c = 1 → 1 ≤ X 5 c ∧ X 5 c ≤ 5) ∧ (X 3 c ≠ 0 → X 6 c ≤ 19))
/-- what is read so far: b blocks begun, cl closed, n names -/
def DR (X : Nat → Nat → Nat) (b cl n : Nat) (A : DD) : Prop :=
  (A 0 0 = b ∧ A 0 1 = n) ∧
  (∀ m, m < n → A 10 m = X 10 m ∧ A 11 m = X 11 m ∧ A 12 m = X 12 m ∧ (X 10 m ≤ 1 → A 13 m = X 13 m) ∧ ∀ i, i < X 12 m → A 14 (6 * m + i) = X 14 (6 * m + i)) ∧
  (∀ c, c < b → A 1 c = X 1 c) ∧ (∀ c, c < cl → A 2 c = X 2 c) ∧ (cl < b → A 2 (b - 1) = n - X 1 (b - 1)) ∧
  (∀ c, c < cl → A 3 c = X 3 c ∧ (X 3 c ≠ 2 → A 4 c = X 4 c) ∧ (X 3 c = 1 → A 5 c = X 5 c) ∧ (X 3 c ≠ 0 → A 6 c = X 6 c))
section LNS
variable {X : Nat → Nat → Nat} {K V : Nat → Nat} {A : DD}
/-- K and V at a piece M behind i tokens -/
def KV (K V : Nat → Nat) (i : Nat) (M : List Tk) : Prop := ∀ j, j < M.length → K (i + j) = ktk (M.getD j (2, 0)) ∧ ((M.getD j (2, 0)).1 = 1 → V (i + j) = (M.getD j (2, 0)).2)
theorem KV_app {i : Nat} {M N : List Tk} (h : KV K V i (M ++ N)) : KV K V i M ∧ KV K V (i + M.length) N := by
  refine ⟨fun j hj => ?_, fun j hj => ?_⟩
  · have := h j (by rw [List.length_append]; omega)
    rw [List.getD_eq_getElem?_getD, List.getElem?_append_left hj, ← List.getD_eq_getElem?_getD] at this
    exact this
  · have := h (M.length + j) (by rw [List.length_append]; omega)
    rw [List.getD_eq_getElem?_getD, List.getElem?_append_right (Nat.le_add_right _ _), Nat.add_sub_cancel_left, ← List.getD_eq_getElem?_getD] at this
    rw [Nat.add_assoc]
    exact this
theorem rd2_S {u i : Nat} {ib ph : Bool} : rd2 K V (u + 1) ib ph i A = if ib = false ∧ K i = 24 then ((0, i), A) else match stp K V ib ph i A with
    | .inl x => (x, A)
    | .inr (ib', ph', i', A') => rd2 K V u ib' ph' i' A' := rfl
theorem rd_hd {u i : Nat} {ph : Bool} (h : KV K V i hdL) (hb : A 0 0 < 6) : rd2 K V (u + 1) false ph i A = rd2 K V u true false (i + 2) (hdA A) := by
  have h0 : K i = 20 := (h 0 (by decide)).1
  have h1 : K (i + 1) = 23 := (h 1 (by decide)).1
  rw [rd2_S, if_neg (fun z => by rw [h0] at z; cases z.2), stp_f]
  unfold stF fS
  rw [if_pos h0, if_pos hb, if_pos h1]
theorem rd_end {u i : Nat} {ph : Bool} (h : K i = 24) : rd2 K V (u + 1) false ph i A = ((0, i), A) := by
  rw [rd2_S, if_pos ⟨rfl, h⟩]
theorem fN_ok {lo hi i : Nat} (h1 : K i = 22) (h2 : lo ≤ V i) (h3 : V i ≤ hi) : fN K V lo hi i = none := by
  unfold fN
  rw [if_pos h1, if_pos ⟨h2, h3⟩]
theorem fS_ok {i : Nat} (h1 : K i = 23) : fS K i = none := by
  unfold fS
  rw [if_pos h1]
theorem rd_nm {u i m : Nat} {ph : Bool} (h7 : K i ≤ 7) (hph : K i = 7 → ph = false) (hn : A 0 1 < 20) (hm : mK K i = m) (h1 : ∀ t, t < m → K (i + 1 + t) = 22 ∧ V (i + 1 + t) ≤ hiK (K i)) (h2 : K (i + 1 + m) = 23) : rd2 K V (u + 1) true ph i A = rd2 K V u true (decide (¬ K i = 7)) (i + 2 + m) (nmA K V i A) := by
  have key : ∀ m j, (∀ t, t < m → K (j + t) = 22 ∧ V (j + t) ≤ hiK (K i)) → fNs K V (hiK (K i)) m j = none := by
    intro m
    induction m with
    | zero => intro j _; rfl
    | succ m ih =>
      intro j h
      unfold fNs
      have h0 := h 0 (Nat.succ_pos m)
      rw [Nat.add_zero] at h0
      rw [fN_ok h0.1 (Nat.zero_le _) h0.2]
      exact ih (j + 1) (fun t ht => by
        have := h (t + 1) (by omega)
        rw [show j + (t + 1) = j + 1 + t by omega] at this
        exact this)
  rw [rd2_S, if_neg (fun z => by cases z.1), stp_t]
  have e : fName K V i = none := by
    unfold fName
    rw [hm, key m (i + 1) h1, fS_ok h2]
    rfl
  unfold stT
  rw [if_pos h7, if_neg (fun z => by have := hph z.1; rw [this] at z; cases z.2), if_pos hn, e]
  simp only
  unfold nxN
  rw [hm]
theorem mK_2 {i : Nat} (h7 : K i = 7) (h1 : K (i + 1) = 22) (h2 : K (i + 2) = 22) (h3 : K (i + 3) = 23) : mK K i = 2 := by
  unfold mK mP
  rw [if_pos h7, if_pos h1]
  have e : fu (fun j => decide (¬ K j = 22)) 400 (i + 1) = i + 3 := by
    have s1 : fu (fun j => decide (¬ K j = 22)) 400 (i + 1) = fu (fun j => decide (¬ K j = 22)) 399 (i + 2) := by
      show (if decide (¬ K (i + 1) = 22) = true then i + 1 else _) = _
      rw [if_neg (by rw [h1]; decide)]
    have s2 : fu (fun j => decide (¬ K j = 22)) 399 (i + 2) = fu (fun j => decide (¬ K j = 22)) 398 (i + 3) := by
      show (if decide (¬ K (i + 2) = 22) = true then i + 2 else _) = _
      rw [if_neg (by rw [h2]; decide)]
    have s3 : fu (fun j => decide (¬ K j = 22)) 398 (i + 3) = i + 3 := by
      show (if decide (¬ K (i + 3) = 22) = true then i + 3 else _) = _
      rw [if_pos (by rw [h3]; decide)]
    rw [s1, s2, s3]
  rw [e]
  omega
theorem wC_7 {k : Nat} (h : k ≤ 7) : wC k = k := if_pos (by omega)
theorem ktk_w {n : Nat} : ktk (0, n) = wC n := rfl
/-- a name's line is read -/
theorem rd_nmL (x : XP X) {b n i u : Nat} {ph : Bool} (hb : 0 < b) (hn : n < X 0 1) (hq : X 11 n = b - 1) (hph : X 10 n = 7 → ph = false) (h : KV K V i (nmL X n)) (hX1 : X 1 (b - 1) ≤ n) (d : DR X b (b - 1) n A) : ∃ A', rd2 K V (u + 1) true ph i A = rd2 K V u true (decide (¬ X 10 n = 7)) (i + (nmL X n).length) A' ∧ DR X b (b - 1) (n + 1) A' := by
  obtain ⟨x1, x2, x3, x4, x5, x6, x7, x8⟩ := x
  obtain ⟨k7, k0, k4, k2, f0, f1, f2⟩ := x6 n hn
  obtain ⟨⟨d0, d1⟩, dn, db, dc, dl, de⟩ := d
  have hi7 : hiK (X 10 n) = if X 10 n = 0 then 99 else if X 10 n = 1 then 3 else 19 := rfl
  -- the facts of the line, in one form
  have line : ∃ m, K i = X 10 n ∧ mK K i = m ∧ (∀ t, t < m → K (i + 1 + t) = 22 ∧ V (i + 1 + t) ≤ hiK (K i)) ∧ K (i + 1 + m) = 23 ∧ (nmL X n).length = 2 + m ∧ (X 10 n ≤ 1 → V (i + 1) = X 13 n) ∧ (2 ≤ X 10 n → m = X 12 n) ∧ (∀ t, t < X 12 n → V (i + 1 + t) = X 14 (6 * n + t)) := by
    unfold nmL at h ⊢
    by_cases c1 : X 10 n ≤ 1
    · rw [if_pos c1] at h ⊢
      have g0 : K i = wC (X 10 n) := (h 0 (by show 0 < 3; omega)).1
      have g1 := h 1 (by show 1 < 3; omega)
      have g1a : K (i + 1) = 22 := g1.1
      have g1b : V (i + 1) = X 13 n := g1.2 rfl
      have g2 : K (i + 2) = 23 := (h 2 (by show 2 < 3; omega)).1
      rw [wC_7 (by omega)] at g0
      refine ⟨1, g0, ?_, fun t ht => ?_, g2, rfl, fun _ => g1b, fun z => by omega, fun t ht => by rw [k0 c1] at ht; omega⟩
      · unfold mK
        rw [if_neg (by omega), if_pos (Or.inl (by omega))]
      · have : t = 0 := by omega
        subst this
        rw [Nat.add_zero, g0, hi7]
        refine ⟨g1a, ?_⟩
        rw [g1b]
        by_cases e0 : X 10 n = 0
        · rw [if_pos e0]; exact f0 e0
        · rw [if_neg e0, if_pos (by omega)]; exact f1 (by omega)
    · rw [if_neg c1] at h ⊢
      obtain ⟨p0, p1⟩ := f2 (by omega)
      have h19 : hiK (X 10 n) = 19 := by rw [hi7, if_neg (by omega), if_neg (by omega)]
      by_cases c4 : X 10 n = 4
      · rw [if_pos c4] at h ⊢
        have g0 : K i = wC (X 10 n) := (h 0 (by show 0 < 3; omega)).1
        have g1 := h 1 (by show 1 < 3; omega)
        have g1a : K (i + 1) = 22 := g1.1
        have g1b : V (i + 1) = X 14 (6 * n) := g1.2 rfl
        have g2 : K (i + 2) = 23 := (h 2 (by show 2 < 3; omega)).1
        rw [wC_7 (by omega)] at g0
        refine ⟨1, g0, ?_, fun t ht => ?_, g2, rfl, fun z => by omega, fun _ => (k4 c4).symm, fun t ht => ?_⟩
        · unfold mK
          rw [if_neg (by omega), if_pos (Or.inr (by omega))]
        · have : t = 0 := by omega
          subst this
          rw [Nat.add_zero, g0, h19, g1b]
          exact ⟨g1a, p0⟩
        · have : t = 0 := by rw [k4 c4] at ht; omega
          subst this
          exact g1b
      · rw [if_neg c4] at h ⊢
        have g0 : K i = wC (X 10 n) := (h 0 (by show 0 < 4; omega)).1
        have g1 := h 1 (by show 1 < 4; omega)
        have g1a : K (i + 1) = 22 := g1.1
        have g1b : V (i + 1) = X 14 (6 * n) := g1.2 rfl
        have g2 := h 2 (by show 2 < 4; omega)
        have g2a : K (i + 2) = 22 := g2.1
        have g2b : V (i + 2) = X 14 (6 * n + 1) := g2.2 rfl
        have g3 : K (i + 3) = 23 := (h 3 (by show 3 < 4; omega)).1
        rw [wC_7 (by omega)] at g0
        have a2 := k2 (by omega) c4
        refine ⟨2, g0, ?_, fun t ht => ?_, g3, rfl, fun z => by omega, fun _ => a2.symm, fun t ht => ?_⟩
        · by_cases c7 : X 10 n = 7
          · exact mK_2 (by omega) g1a g2a g3
          · unfold mK
            rw [if_neg (by omega), if_neg (by omega)]
        · rcases (by omega : t = 0 ∨ t = 1) with rfl | rfl
          · rw [Nat.add_zero, g0, h19, g1b]
            exact ⟨g1a, p0⟩
          · rw [show i + 1 + 1 = i + 2 from rfl, g0, h19, g2b]
            exact ⟨g2a, p1⟩
        · rcases (by omega : t = 0 ∨ t = 1) with rfl | rfl
          · exact g1b
          · exact g2b
  obtain ⟨m, l0, l1, l2, l3, l4, l5, l6, l7⟩ := line
  refine ⟨nmA K V i A, ?_, ?_⟩
  · rw [rd_nm (m := m) (by omega) (fun z => hph (by omega)) (by omega) l1 l2 l3, l0, l4]
    rw [show i + 2 + m = i + (2 + m) by omega]
  · have e0 : nmA K V i A 0 1 = n + 1 := by unfold nmA; rw [if_pos ⟨rfl, rfl⟩, d1]
    have eo : ∀ f x, ¬ (f = 0 ∧ x = 1) → ¬ (f = 2 ∧ x = b - 1) → ¬ (f = 10 ∧ x = n) → ¬ (f = 11 ∧ x = n) → ¬ (f = 12 ∧ x = n) → ¬ (f = 13 ∧ x = n) → ¬ (f = 14 ∧ 6 * n ≤ x ∧ x < 6 * n + 6) → nmA K V i A f x = A f x := by
      intro f x g1 g2 g3 g4 g5 g6 g7
      unfold nmA
      rw [d0, d1, if_neg g1, if_neg g2, if_neg g3, if_neg g4, if_neg g5, if_neg g6, if_neg g7]
    refine ⟨⟨(eo 0 0 (by omega) (by omega) (by omega) (by omega) (by omega) (by omega) (by omega)).trans d0, e0⟩, fun r hr => ?_, fun c hc => ?_, fun c hc => ?_, fun hc => ?_, fun c hc => ?_⟩
    · by_cases e : r = n
      · subst e
        refine ⟨?_, ?_, ?_, fun z => ?_, fun t ht => ?_⟩
        · unfold nmA
          rw [d0, d1, if_neg (by omega), if_neg (by omega), if_pos ⟨rfl, rfl⟩, l0]
        · unfold nmA
          rw [d0, d1, if_neg (by omega), if_neg (by omega), if_neg (by omega), if_pos ⟨rfl, rfl⟩, hq]
        · unfold nmA
          rw [d0, d1, if_neg (by omega), if_neg (by omega), if_neg (by omega), if_neg (by omega), if_pos ⟨rfl, rfl⟩, l0, l1]
          by_cases c1 : X 10 r ≤ 1
          · rw [if_pos c1, k0 c1]
          · rw [if_neg c1, l6 (by omega)]
        · unfold nmA
          rw [d0, d1, if_neg (by omega), if_neg (by omega), if_neg (by omega), if_neg (by omega), if_neg (by omega), if_pos ⟨rfl, rfl⟩, l5 z]
          refine m99_id ?_
          by_cases z0 : X 10 r = 0
          · exact f0 z0
          · have := f1 (by omega); omega
        · have h12 : X 12 r ≤ 2 := by
            by_cases c1 : X 10 r ≤ 1
            · rw [k0 c1]; omega
            · by_cases c4 : X 10 r = 4
              · rw [k4 c4]; omega
              · rw [k2 (by omega) c4]; omega
          have h2 : 2 ≤ X 10 r := by
            rcases Nat.lt_or_ge (X 10 r) 2 with w | w
            · rw [k0 (by omega)] at ht; omega
            · exact w
          have hle : X 14 (6 * r + t) ≤ 19 := by
            obtain ⟨p0, p1⟩ := f2 h2
            rcases (by omega : t = 0 ∨ t = 1) with rfl | rfl
            · exact p0
            · exact p1
          unfold nmA
          rw [d0, d1, if_neg (by omega), if_neg (by omega), if_neg (by omega), if_neg (by omega), if_neg (by omega), if_neg (by omega), if_pos ⟨rfl, by omega, by omega⟩, show 6 * r + t - 6 * r = t by omega, l7 t ht]
          exact m99_id (by omega)
      · obtain ⟨r1, r2, r3, r4, r5⟩ := dn r (by omega)
        refine ⟨(eo 10 r (by omega) (by omega) (by omega) (by omega) (by omega) (by omega) (by omega)).trans r1, (eo 11 r (by omega) (by omega) (by omega) (by omega) (by omega) (by omega) (by omega)).trans r2, (eo 12 r (by omega) (by omega) (by omega) (by omega) (by omega) (by omega) (by omega)).trans r3, fun z => (eo 13 r (by omega) (by omega) (by omega) (by omega) (by omega) (by omega) (by omega)).trans (r4 z), fun t ht => ?_⟩
        have h12 : X 12 r ≤ 2 := by
          obtain ⟨-, j0, j4, j2, -⟩ := x6 r (by omega)
          by_cases c1 : X 10 r ≤ 1
          · rw [j0 c1]; omega
          · by_cases c4 : X 10 r = 4
            · rw [j4 c4]; omega
            · rw [j2 (by omega) c4]; omega
        exact (eo 14 (6 * r + t) (by omega) (by omega) (by omega) (by omega) (by omega) (by omega) (by omega)).trans (r5 t ht)
    · exact (eo 1 c (by omega) (by omega) (by omega) (by omega) (by omega) (by omega) (by omega)).trans (db c hc)
    · exact (eo 2 c (by omega) (by omega) (by omega) (by omega) (by omega) (by omega) (by omega)).trans (dc c hc)
    · have := dl hc
      unfold nmA
      rw [d0, d1, if_neg (by omega), if_pos ⟨rfl, rfl⟩, this]
      omega
    · obtain ⟨r1, r2, r3, r4⟩ := de c hc
      exact ⟨(eo 3 c (by omega) (by omega) (by omega) (by omega) (by omega) (by omega) (by omega)).trans r1, fun z => (eo 4 c (by omega) (by omega) (by omega) (by omega) (by omega) (by omega) (by omega)).trans (r2 z), fun z => (eo 5 c (by omega) (by omega) (by omega) (by omega) (by omega) (by omega) (by omega)).trans (r3 z), fun z => (eo 6 c (by omega) (by omega) (by omega) (by omega) (by omega) (by omega) (by omega)).trans (r4 z)⟩
end LNS
