/-! THE LAW'S PROGRAM: what is said of it -/
def HX (sh : Nat) (X : Nat → Nat → Nat) (I : Nat → Nat → Int32) : Prop := I 199 0 = nI sh ∧ I 199 1 = nI (X 0 1) ∧ (∀ n, n < X 0 1 → I 200 n = nI (X 10 n) ∧ I 201 n = nI (X 11 n) ∧ (X 10 n ≤ 1 → I 202 n = nI (X 13 n)) ∧ (2 ≤ X 10 n → ∀ i, i < 2 → I 203 (2 * n + i) = nI (X 14 (6 * n + i)))) ∧ ∀ b, b < X 0 0 → X 3 b ≠ 0 → I 204 b = nI (X 6 b)
theorem wB_m : ∀ n, n < 12 → (∀ x ∈ wB n, x < 128) ∧ (wB n).length ≤ 5 ∧ (n < 8 → (wB n).length ≤ 4) ∧ (9 ≤ n → (wB n).length ≤ 4) ∧ (10 = n → (wB n).length ≤ 2) ∧ (11 = n → (wB n).length ≤ 3) := by decide +kernel
theorem dg_m : ∀ v, v ≤ 99 → (∀ x ∈ dg v, x < 128) ∧ (dg v).length ≤ 2 ∧ (v ≤ 9 → (dg v).length = 1) := by decide +kernel
theorem b_app {L M : List Nat} (h1 : ∀ x ∈ L, x < 128) (h2 : ∀ x ∈ M, x < 128) : ∀ x ∈ L ++ M, x < 128 := fun x hx => (List.mem_append.mp hx).elim (h1 x) (h2 x)
theorem b_59 : ∀ x ∈ [59], x < 128 := by decide
theorem b_num {v : Nat} (h : v ≤ 99) : ∀ x ∈ 32 :: dg v, x < 128 := fun x hx => (List.mem_cons.mp hx).elim (fun e => by omega) ((dg_m v h).1 x)
theorem byts_w (k : Nat) (T : List Tk) : byts ((0, k) :: T) = wB k ++ byts T := rfl
theorem byts_n (v : Nat) (T : List Tk) : byts ((1, v) :: T) = (32 :: dg v) ++ byts T := rfl
theorem byts_s : byts [(2, 0)] = [59] := rfl
theorem byts_nil : byts [] = [] := rfl
theorem fB_lt {X : Nat → Nat → Nat} {c nb : Nat} (hc : c < nb) : fB X c + X 2 c ≤ fB X nb := by
  have key : ∀ d, fB X (c + 1) ≤ fB X (c + 1 + d) := by
    intro d
    induction d with
    | zero => exact Nat.le_refl _
    | succ d ih => exact Nat.le_trans ih (Nat.le_add_right _ _)
  have := key (nb - (c + 1))
  rw [show c + 1 + (nb - (c + 1)) = nb by omega] at this
  exact this
section SPR
variable {xs : List Int32} {Q : Option Value → ab_H → Prop} {I3 I : Nat → Nat → Int32} {J3 J : Nat → Nat → Int64} {sh nb n b : Nat} {X : Nat → Nat → Nat} {L : List Nat}
theorem nmL_len (x : XP X) (hn : n < X 0 1) : (byts (nmL X n)).length ≤ 11 ∧ ∀ y ∈ byts (nmL X n), y < 128 := by
  obtain ⟨k7, -, -, -, v0, v1, p⟩ := x.2.2.2.2.2.1 n hn
  obtain ⟨w1, -, w2, -⟩ := wB_m (X 10 n) (by omega)
  have w2 := w2 (by omega)
  unfold nmL
  by_cases c : X 10 n ≤ 1
  · rw [if_pos c, byts_w, byts_n, byts_s]
    have hv : X 13 n ≤ 99 := by rcases (by omega : X 10 n = 0 ∨ X 10 n = 1) with z | z; exact v0 z; have := v1 z; omega
    obtain ⟨-, d2, -⟩ := dg_m _ hv
    refine ⟨?_, b_app w1 (b_app (b_num hv) b_59)⟩
    rw [List.length_append, List.length_append, List.length_cons]
    show _ + (_ + 1) ≤ 11
    omega
  · obtain ⟨p0, p1⟩ := p (by omega)
    obtain ⟨-, d2, -⟩ := dg_m (X 14 (6 * n)) (by omega)
    obtain ⟨-, d3, -⟩ := dg_m (X 14 (6 * n + 1)) (by omega)
    rw [if_neg c]
    by_cases c4 : X 10 n = 4
    · rw [if_pos c4, byts_w, byts_n, byts_s]
      refine ⟨?_, b_app w1 (b_app (b_num (by omega)) b_59)⟩
      rw [List.length_append, List.length_append, List.length_cons]
      show _ + (_ + 1) ≤ 11
      omega
    · rw [if_neg c4, byts_w, byts_n, byts_n, byts_s]
      refine ⟨?_, b_app w1 (b_app (b_num (by omega)) (b_app (b_num (by omega)) b_59))⟩
      rw [List.length_append, List.length_append, List.length_append, List.length_cons, List.length_cons]
      show _ + (_ + (_ + 1)) ≤ 11
      omega
theorem enL_len (x : XP X) (hb : b < X 0 0) : (byts (enL X b)).length ≤ 10 ∧ ∀ y ∈ byts (enL X b), y < 128 := by
  obtain ⟨t2, t4, t5, t6⟩ := x.2.2.2.2.2.2.2 b hb
  unfold enL
  by_cases c0 : X 3 b = 0
  · obtain ⟨w1, w2, -, w3, -⟩ := wB_m 9 (by decide)
    obtain ⟨-, -, d2⟩ := dg_m (X 4 b) (by omega)
    have d2 := d2 (by omega)
    have w3 := w3 (by omega)
    rw [if_pos c0, byts_w, byts_n, byts_s]
    refine ⟨?_, b_app w1 (b_app (b_num (by omega)) b_59)⟩
    rw [List.length_append, List.length_append, List.length_cons]
    show _ + (_ + 1) ≤ 10
    omega
  · rw [if_neg c0]
    have t6 := t6 c0
    obtain ⟨-, d6, -⟩ := dg_m (X 6 b) (by omega)
    by_cases c1 : X 3 b = 1
    · obtain ⟨w1, w2, -, w3, w4, -⟩ := wB_m 10 (by decide)
      have w4 := w4 rfl
      obtain ⟨-, -, d2⟩ := dg_m (X 4 b) (by omega)
      obtain ⟨-, -, d3⟩ := dg_m (X 5 b) (by omega)
      have d2 := d2 (by omega)
      have d3 := d3 (by omega)
      rw [if_pos c1, byts_w, byts_n, byts_n, byts_n, byts_s]
      refine ⟨?_, b_app w1 (b_app (b_num (by omega)) (b_app (b_num (by omega)) (b_app (b_num (by omega)) b_59)))⟩
      simp only [List.length_append, List.length_cons, List.length_nil]
      omega
    · obtain ⟨w1, w2, -, w3, -, w4⟩ := wB_m 11 (by decide)
      have w4 := w4 rfl
      rw [if_neg c1, byts_w, byts_n, byts_s]
      refine ⟨?_, b_app w1 (b_app (b_num (by omega)) b_59)⟩
      simp only [List.length_append, List.length_cons, List.length_nil]
      omega
theorem nmsT_len (x : XP X) {f : Nat} : ∀ j, f + j ≤ X 0 1 → (byts (nmsT X f j)).length ≤ 11 * j ∧ ∀ y ∈ byts (nmsT X f j), y < 128 := by
  intro j
  induction j with
  | zero => intro _; exact ⟨Nat.zero_le _, fun y hy => absurd hy (by show ¬ y ∈ byts []; rw [byts_nil]; exact List.not_mem_nil)⟩
  | succ j ih =>
    intro h
    obtain ⟨a, c⟩ := ih (by omega)
    obtain ⟨d, e⟩ := nmL_len x (show f + j < X 0 1 by omega)
    show (byts (nmsT X f j ++ nmL X (f + j))).length ≤ _ ∧ ∀ y ∈ byts (nmsT X f j ++ nmL X (f + j)), y < 128
    rw [byts_app]
    exact ⟨by rw [List.length_append]; omega, b_app c e⟩
theorem hd_len : (byts hdL).length = 6 ∧ ∀ y ∈ byts hdL, y < 128 := by decide +kernel
theorem txT_len (x : XP X) : ∀ c, c ≤ X 0 0 → (byts (txT X c)).length ≤ 11 * fB X c + 16 * c ∧ ∀ y ∈ byts (txT X c), y < 128 := by
  intro c
  induction c with
  | zero => intro _; exact ⟨Nat.zero_le _, fun y hy => absurd hy (by show ¬ y ∈ byts []; rw [byts_nil]; exact List.not_mem_nil)⟩
  | succ c ih =>
    intro h
    obtain ⟨a, d⟩ := ih (by omega)
    have f1 := fB_lt (X := X) (show c < X 0 0 by omega)
    have e1 := x.2.2.2.1 c (by omega)
    have e2 := x.2.2.1
    obtain ⟨n1, n2⟩ := nmsT_len x (f := X 1 c) (X 2 c) (by omega)
    obtain ⟨m1, m2⟩ := enL_len x (show c < X 0 0 by omega)
    obtain ⟨h1, h2⟩ := hd_len
    show (byts (txT X c ++ (hdL ++ (nmsT X (X 1 c) (X 2 c) ++ enL X c)))).length ≤ 11 * (fB X c + X 2 c) + _ ∧ ∀ y ∈ byts (txT X c ++ (hdL ++ (nmsT X (X 1 c) (X 2 c) ++ enL X c))), y < 128
    rw [byts_app, byts_app, byts_app]
    exact ⟨by simp only [List.length_append]; omega, b_app d (b_app h2 (b_app n2 m2))⟩
end SPR
