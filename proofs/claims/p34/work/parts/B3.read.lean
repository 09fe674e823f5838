/-! THE TEXT: ends, blocks, all of it -/
section RDL
variable {X : Nat → Nat → Nat} {K V : Nat → Nat} {A : DD}
theorem rd_enL (x : XP X) {b n i u : Nat} {ph : Bool} (hb : b < X 0 0) (hn : n = X 1 b + X 2 b) (h : KV K V i (enL X b)) (d : DR X (b + 1) b n A) : ∃ A', rd2 K V (u + 1) true ph i A = rd2 K V u false ph (i + (enL X b).length) A' ∧ DR X (b + 1) (b + 1) n A' := by
  obtain ⟨x1, x2, x3, x4, x5, x6, x7, x8⟩ := x
  obtain ⟨y1, y2, y3, y4⟩ := x8 b hb
  obtain ⟨⟨d0, d1⟩, dn, db, dc, dl, de⟩ := d
  have dl2 := dl (by omega)
  rw [Nat.add_sub_cancel] at dl2
  have line : 10 ≤ K i ∧ K i ≤ 12 ∧ K i - 10 = X 3 b ∧ fEnd K V i = none ∧ nxE K i = i + (enL X b).length ∧ (X 3 b ≠ 2 → V (if K i = 11 then i + 2 else i + 1) = X 4 b) ∧ (X 3 b = 1 → V (i + 3) = X 5 b) ∧ (X 3 b ≠ 0 → V (i + 1) = X 6 b) := by
    unfold enL at h ⊢
    by_cases c0 : X 3 b = 0
    · rw [if_pos c0] at h ⊢
      have g0 : K i = 10 := (h 0 (by show 0 < 3; omega)).1
      have g1 := h 1 (by show 1 < 3; omega)
      have g1a : K (i + 1) = 22 := g1.1
      have g1b : V (i + 1) = X 4 b := g1.2 rfl
      have g2 : K (i + 2) = 23 := (h 2 (by show 2 < 3; omega)).1
      obtain ⟨z1, z2⟩ := y2 (by omega)
      refine ⟨by omega, by omega, by omega, ?_, ?_, fun _ => ?_, fun z => by omega, fun z => absurd c0 z⟩
      · unfold fEnd
        rw [if_pos g0, fN_ok g1a (by omega) (by omega), fS_ok g2]
        rfl
      · unfold nxE
        rw [if_neg (by omega)]
        rfl
      · rw [if_neg (by omega)]; exact g1b
    · rw [if_neg c0] at h ⊢
      have z4 := y4 c0
      by_cases c1 : X 3 b = 1
      · rw [if_pos c1] at h ⊢
        have g0 : K i = 11 := (h 0 (by show 0 < 5; omega)).1
        have g1 := h 1 (by show 1 < 5; omega)
        have g1a : K (i + 1) = 22 := g1.1
        have g1b : V (i + 1) = X 6 b := g1.2 rfl
        have g2 := h 2 (by show 2 < 5; omega)
        have g2a : K (i + 2) = 22 := g2.1
        have g2b : V (i + 2) = X 4 b := g2.2 rfl
        have g3 := h 3 (by show 3 < 5; omega)
        have g3a : K (i + 3) = 22 := g3.1
        have g3b : V (i + 3) = X 5 b := g3.2 rfl
        have g4 : K (i + 4) = 23 := (h 4 (by show 4 < 5; omega)).1
        obtain ⟨z1, z2⟩ := y2 (by omega)
        obtain ⟨z3, z5⟩ := y3 c1
        refine ⟨by omega, by omega, by omega, ?_, ?_, fun _ => ?_, fun _ => g3b, fun _ => g1b⟩
        · unfold fEnd
          rw [if_neg (by omega), if_pos g0, fN_ok g1a (by omega) (by omega), fN_ok g2a (by omega) (by omega), fN_ok g3a (by omega) (by omega), fS_ok g4]
          rfl
        · unfold nxE
          rw [if_pos g0]
          rfl
        · rw [if_pos g0]; exact g2b
      · rw [if_neg c1] at h ⊢
        have g0 : K i = 12 := (h 0 (by show 0 < 3; omega)).1
        have g1 := h 1 (by show 1 < 3; omega)
        have g1a : K (i + 1) = 22 := g1.1
        have g1b : V (i + 1) = X 6 b := g1.2 rfl
        have g2 : K (i + 2) = 23 := (h 2 (by show 2 < 3; omega)).1
        refine ⟨by omega, by omega, by omega, ?_, ?_, fun z => by omega, fun z => by omega, fun _ => g1b⟩
        · unfold fEnd
          rw [if_neg (by omega), if_neg (by omega), fN_ok g1a (by omega) (by omega), fS_ok g2]
          rfl
        · unfold nxE
          rw [if_neg (by omega)]
          rfl
  obtain ⟨l0, l1, l2, l3, l4, l5, l6, l7⟩ := line
  refine ⟨enA K V i A, ?_, ?_⟩
  · rw [rd2_S, if_neg (fun z => by cases z.1), stp_t]
    unfold stT
    rw [if_neg (by omega), if_pos ⟨l0, l1⟩, l3]
    simp only
    rw [l4]
  · have eb : A 0 0 - 1 = b := by omega
    have eo : ∀ f z, ¬ (f = 3 ∧ z = b) → ¬ (f = 4 ∧ z = b) → ¬ (f = 5 ∧ z = b) → ¬ (f = 6 ∧ z = b) → enA K V i A f z = A f z := by
      intro f z g1 g2 g3 g4
      unfold enA
      rw [eb, if_neg g1, if_neg g2, if_neg g3, if_neg g4]
    refine ⟨⟨(eo 0 0 (by omega) (by omega) (by omega) (by omega)).trans d0, (eo 0 1 (by omega) (by omega) (by omega) (by omega)).trans d1⟩, fun m hm => ?_, fun c hc => (eo 1 c (by omega) (by omega) (by omega) (by omega)).trans (db c hc), fun c hc => ?_, fun z => by omega, fun c hc => ?_⟩
    · obtain ⟨r1, r2, r3, r4, r5⟩ := dn m hm
      exact ⟨(eo 10 m (by omega) (by omega) (by omega) (by omega)).trans r1, (eo 11 m (by omega) (by omega) (by omega) (by omega)).trans r2, (eo 12 m (by omega) (by omega) (by omega) (by omega)).trans r3, fun z => (eo 13 m (by omega) (by omega) (by omega) (by omega)).trans (r4 z), fun t ht => (eo 14 _ (by omega) (by omega) (by omega) (by omega)).trans (r5 t ht)⟩
    · rw [eo 2 c (by omega) (by omega) (by omega) (by omega)]
      by_cases e : c = b
      · subst e; omega
      · exact dc c (by omega)
    · by_cases e : c = b
      · subst e
        refine ⟨?_, fun z => ?_, fun z => ?_, fun z => ?_⟩
        · unfold enA
          rw [eb, if_pos ⟨rfl, rfl⟩, l2]
          exact m99_id (by omega)
        · unfold enA
          rw [eb, if_neg (by omega), if_pos ⟨rfl, rfl⟩, l5 z]
          exact m99_id (by have := (y2 z).2; omega)
        · unfold enA
          rw [eb, if_neg (by omega), if_neg (by omega), if_pos ⟨rfl, rfl⟩, l6 z]
          exact m99_id (by have := (y3 z).2; omega)
        · unfold enA
          rw [eb, if_neg (by omega), if_neg (by omega), if_neg (by omega), if_pos ⟨rfl, rfl⟩, l7 z]
          exact m99_id (by have := y4 z; omega)
      · obtain ⟨r1, r2, r3, r4⟩ := de c (by omega)
        exact ⟨(eo 3 c (by omega) (by omega) (by omega) (by omega)).trans r1, fun z => (eo 4 c (by omega) (by omega) (by omega) (by omega)).trans (r2 z), fun z => (eo 5 c (by omega) (by omega) (by omega) (by omega)).trans (r3 z), fun z => (eo 6 c (by omega) (by omega) (by omega) (by omega)).trans (r4 z)⟩
theorem fB_le {c d : Nat} (h : c ≤ d) : fB X c ≤ fB X d := by
  induction d with
  | zero => rw [show c = 0 by omega]; exact Nat.le_refl _
  | succ d ih =>
    rcases Nat.eq_or_lt_of_le h with e | e
    · rw [e]; exact Nat.le_refl _
    · have := ih (by omega)
      show _ ≤ fB X d + X 2 d
      omega
/-- names of a block are read -/
theorem rd_nms (x : XP X) {b i u : Nat} (hb : b < X 0 0) : ∀ j, j ≤ X 2 b → KV K V i (nmsT X (X 1 b) j) → DR X (b + 1) b (X 1 b) A → ∃ ph A', rd2 K V (u + j) true false i A = rd2 K V u true ph (i + (nmsT X (X 1 b) j).length) A' ∧ DR X (b + 1) b (X 1 b + j) A' ∧ (∀ n, X 1 b + j = n → n < X 1 b + X 2 b → X 10 n = 7 → ph = false) := by
  intro j
  induction j generalizing u with
  | zero => intro _ _ d; exact ⟨false, A, rfl, d, fun _ _ _ _ => rfl⟩
  | succ j ih =>
    intro hj h d
    have h : KV K V i (nmsT X (X 1 b) j ++ nmL X (X 1 b + j)) := h
    obtain ⟨h1, h2⟩ := KV_app h
    obtain ⟨ph, A1, e1, d1, p1⟩ := ih (u := u + 1) (by omega) h1 d
    have hN : X 1 b + X 2 b ≤ X 0 1 := by
      rw [x.2.2.1, x.2.2.2.1 b hb]
      exact fB_le (X := X) (c := b + 1) (by omega)
    have hq : X 11 (X 1 b + j) = b := x.2.2.2.2.1 b _ hb (by omega) (by omega)
    obtain ⟨A2, e2, d2⟩ := rd_nmL x (b := b + 1) (n := X 1 b + j) (u := u) (by omega) (by omega) (by rw [hq]; rfl) (fun z => p1 _ rfl (by omega) z) h2 (by rw [Nat.add_sub_cancel]; omega) d1
    refine ⟨decide (¬ X 10 (X 1 b + j) = 7), A2, ?_, d2, fun n hn hl h7 => ?_⟩
    · rw [show u + (j + 1) = u + 1 + j by omega, e1, e2]
      show _ = rd2 K V u true _ (i + (nmsT X (X 1 b) j ++ nmL X (X 1 b + j)).length) A2
      rw [List.length_append, Nat.add_assoc]
    · have hq2 : X 11 n = b := x.2.2.2.2.1 b _ hb (by omega) hl
      have := x.2.2.2.2.2.2.1 (X 1 b + j) n (by omega) (by omega) (by omega) h7
      rw [this]
      rfl
/-- blocks are read -/
theorem rd_blocks (x : XP X) : ∀ c, c ≤ X 0 0 → ∀ u U, KV K V 0 (txT X c ++ U) → ∃ ph v A, rd2 K V (u + 2 * c + fB X c) false false 0 (fun _ _ => 0) = rd2 K V (u + v) false ph (txT X c).length A ∧ DR X c c (fB X c) A := by
  intro c
  induction c with
  | zero => intro _ u U _; exact ⟨false, 0, _, rfl, ⟨rfl, rfl⟩, fun m hm => absurd hm (Nat.not_lt_zero m), fun m hm => absurd hm (Nat.not_lt_zero m), fun m hm => absurd hm (Nat.not_lt_zero m), fun z => absurd z (Nat.lt_irrefl 0), fun m hm => absurd hm (Nat.not_lt_zero m)⟩
  | succ c ih =>
    intro hc u U h
    have hcc : c < X 0 0 := by omega
    have h : KV K V 0 (txT X c ++ (hdL ++ (nmsT X (X 1 c) (X 2 c) ++ enL X c)) ++ U) := h
    rw [List.append_assoc] at h
    obtain ⟨ph, v, A, e, d⟩ := ih (by omega) (u + 2 + X 2 c) _ h
    obtain ⟨-, h2⟩ := KV_app h
    obtain ⟨h3, -⟩ := KV_app h2
    obtain ⟨h4, h5⟩ := KV_app h3
    obtain ⟨h6, h7⟩ := KV_app h5
    rw [Nat.zero_add] at h4 h6 h7
    have x1 := x.2.2.2.1 c hcc
    -- the head
    have hb6 : A 0 0 < 6 := by rw [d.1.1]; have := x.1; omega
    have eh := rd_hd (u := v + u + 1 + X 2 c) (ph := ph) h4 hb6
    obtain ⟨⟨d0, d1⟩, dn, db, dc, dl, de⟩ := d
    have dh : DR X (c + 1) c (X 1 c) (hdA A) := by
      have o : ∀ f z, ¬ (f = 0 ∧ z = 0) → (f = 1 → z ≠ A 0 0) → (f = 2 → z ≠ A 0 0) → hdA A f z = A f z := fun f z => hd_o
      refine ⟨⟨by show (if _ then _ else _) = _; rw [if_pos ⟨rfl, rfl⟩, d0], (o 0 1 (by omega) (by omega) (by omega)).trans (by rw [d1, x1])⟩, fun m hm => ?_, fun z hz => ?_, fun z hz => ?_, fun _ => ?_, fun z hz => ?_⟩
      · obtain ⟨r1, r2, r3, r4, r5⟩ := dn m (by omega)
        exact ⟨(o 10 m (by omega) (by omega) (by omega)).trans r1, (o 11 m (by omega) (by omega) (by omega)).trans r2, (o 12 m (by omega) (by omega) (by omega)).trans r3, fun w => (o 13 m (by omega) (by omega) (by omega)).trans (r4 w), fun t ht => (o 14 _ (by omega) (by omega) (by omega)).trans (r5 t ht)⟩
      · by_cases e : z = c
        · subst e
          unfold hdA
          rw [if_neg (by omega), if_pos ⟨rfl, d0.symm⟩, d1, x1]
        · exact (o 1 z (by omega) (by omega) (by omega)).trans (db z (by omega))
      · exact (o 2 z (by omega) (by omega) (by omega)).trans (dc z hz)
      · unfold hdA
        rw [if_neg (by omega), if_neg (by omega), if_pos ⟨rfl, by omega⟩, Nat.add_sub_cancel, Nat.sub_self]
      · obtain ⟨r1, r2, r3, r4⟩ := de z hz
        exact ⟨(o 3 z (by omega) (by omega) (by omega)).trans r1, fun w => (o 4 z (by omega) (by omega) (by omega)).trans (r2 w), fun w => (o 5 z (by omega) (by omega) (by omega)).trans (r3 w), fun w => (o 6 z (by omega) (by omega) (by omega)).trans (r4 w)⟩
    obtain ⟨ph2, A2, e2, d2, -⟩ := rd_nms (u := v + u + 1) x hcc (X 2 c) (Nat.le_refl _) h6 dh
    obtain ⟨A3, e3, d3⟩ := rd_enL (u := v + u) (ph := ph2) x hcc rfl h7 d2
    refine ⟨ph2, v, A3, ?_, ?_⟩
    · have eu : u + 2 * (c + 1) + fB X (c + 1) = u + 2 + X 2 c + 2 * c + fB X c := by
        show u + 2 * (c + 1) + (fB X c + X 2 c) = _
        omega
      rw [eu, e]
      rw [show u + 2 + X 2 c + v = v + u + 1 + X 2 c + 1 by omega, eh]
      have e2' : rd2 K V (v + u + 1 + X 2 c) true false ((txT X c).length + 2) (hdA A) = _ := e2
      rw [e2']
      rw [show u + v = v + u by omega]
      have e3' := e3
      rw [e3']
      congr 1
      show _ = (txT X c ++ (hdL ++ (nmsT X (X 1 c) (X 2 c) ++ enL X c))).length
      rw [List.length_append, List.length_append, List.length_append]
      omega
    · have : X 1 c + X 2 c = fB X (c + 1) := by rw [x1]; rfl
      rw [this] at d3
      exact d3
theorem okT_app : ∀ (T U : List Tk), okT T → okT U → (∀ t, T.getLast? = some t → t.1 ≠ 0) → okT (T ++ U) := by
  intro T
  induction T with
  | nil => intro U _ h _; exact h
  | cons t T ih =>
    intro U h hU hl
    obtain ⟨h1, h2, h3⟩ := h
    refine ⟨h1, fun z u V e => ?_, ih U h3 hU (fun s hs => hl s ?_)⟩
    · cases T with
      | nil => exact absurd z (hl t rfl)
      | cons s T =>
        have e : s :: (T ++ U) = u :: V := e
        have e1 : s = u := by injection e
        rw [← e1]
        exact h2 z s T rfl
    · cases T with
      | nil => cases hs
      | cons s' T => rw [List.getLast?_cons_cons]; exact hs
/-- a line: right, and the semicolon its last -/
def okl (T : List Tk) : Prop := okT T ∧ (∀ t, T.getLast? = some t → t.1 ≠ 0)
theorem okl_app {T U : List Tk} (h1 : okl T) (h2 : okl U) : okl (T ++ U) := by
  refine ⟨okT_app T U h1.1 h2.1 h1.2, fun t ht => ?_⟩
  rw [List.getLast?_append] at ht
  cases hU : U.getLast? with
  | none => rw [hU] at ht; exact h1.2 t ht
  | some s => rw [hU] at ht; cases ht; exact h2.2 _ hU
theorem okl_nil : okl [] := ⟨trivial, fun t h => (by cases h)⟩
theorem okl_2 {a b : Tk} (ha : okt a) (hb : okt b) (hb0 : b.1 ≠ 0) : okl [a, b] := ⟨⟨ha, fun _ u U e => (by cases e; exact hb0), hb, fun z => absurd z hb0, trivial⟩, fun t ht => (by cases ht; exact hb0)⟩
theorem okl_3 {a b c : Tk} (ha : okt a) (hb : okt b) (hc : okt c) (hb0 : b.1 ≠ 0) (hc0 : c.1 ≠ 0) : okl [a, b, c] := ⟨⟨ha, fun _ u U e => (by cases e; exact hb0), hb, fun z => absurd z hb0, hc, fun z => absurd z hc0, trivial⟩, fun t ht => (by cases ht; exact hc0)⟩
theorem okl_4 {a b c d : Tk} (ha : okt a) (hb : okt b) (hc : okt c) (hd : okt d) (hb0 : b.1 ≠ 0) (hc0 : c.1 ≠ 0) (hd0 : d.1 ≠ 0) : okl [a, b, c, d] := ⟨⟨ha, fun _ u U e => (by cases e; exact hb0), hb, fun z => absurd z hb0, hc, fun z => absurd z hc0, hd, fun z => absurd z hd0, trivial⟩, fun t ht => (by cases ht; exact hd0)⟩
theorem okl_5 {a b c d e : Tk} (ha : okt a) (hb : okt b) (hc : okt c) (hd : okt d) (he : okt e) (hb0 : b.1 ≠ 0) (hc0 : c.1 ≠ 0) (hd0 : d.1 ≠ 0) (he0 : e.1 ≠ 0) : okl [a, b, c, d, e] := ⟨⟨ha, fun _ u U e => (by cases e; exact hb0), hb, fun z => absurd z hb0, hc, fun z => absurd z hc0, hd, fun z => absurd z hd0, he, fun z => absurd z he0, trivial⟩, fun t ht => (by cases ht; exact he0)⟩
theorem okt_w {n : Nat} (h : n < 12) : okt (0, n) := ⟨fun _ => h, fun z => (by cases z)⟩
theorem okt_n {n : Nat} (h : n ≤ 99) : okt (1, n) := ⟨fun z => (by cases z), fun _ => h⟩
theorem okt_s : okt (2, 0) := ⟨fun z => (by cases z), fun z => (by cases z)⟩
theorem okl_nm (x : XP X) {n : Nat} (hn : n < X 0 1) : okl (nmL X n) := by
  obtain ⟨k7, k0, k4, k2, f0, f1, f2⟩ := x.2.2.2.2.2.1 n hn
  unfold nmL
  by_cases c1 : X 10 n ≤ 1
  · rw [if_pos c1]
    refine okl_3 (okt_w (by omega)) (okt_n ?_) okt_s (fun z => by cases z) (fun z => by cases z)
    by_cases c0 : X 10 n = 0
    · exact f0 c0
    · have := f1 (by omega); omega
  · rw [if_neg c1]
    obtain ⟨p0, p1⟩ := f2 (by omega)
    split
    · exact okl_3 (okt_w (by omega)) (okt_n (by omega)) okt_s (fun z => by cases z) (fun z => by cases z)
    · exact okl_4 (okt_w (by omega)) (okt_n (by omega)) (okt_n (by omega)) okt_s (fun z => by cases z) (fun z => by cases z) (fun z => by cases z)
theorem okl_en (x : XP X) {b : Nat} (hb : b < X 0 0) : okl (enL X b) := by
  obtain ⟨y1, y2, y3, y4⟩ := x.2.2.2.2.2.2.2 b hb
  unfold enL
  by_cases c0 : X 3 b = 0
  · rw [if_pos c0]
    exact okl_3 (okt_w (by omega)) (okt_n (by have := (y2 (by omega)).2; omega)) okt_s (fun z => by cases z) (fun z => by cases z)
  · rw [if_neg c0]
    have := y4 c0
    by_cases c1 : X 3 b = 1
    · rw [if_pos c1]
      have := (y2 (by omega)).2
      have := (y3 c1).2
      exact okl_5 (okt_w (by omega)) (okt_n (by omega)) (okt_n (by omega)) (okt_n (by omega)) okt_s (fun z => by cases z) (fun z => by cases z) (fun z => by cases z) (fun z => by cases z)
    · rw [if_neg c1]
      exact okl_3 (okt_w (by omega)) (okt_n (by omega)) okt_s (fun z => by cases z) (fun z => by cases z)
theorem okl_nms (x : XP X) {f : Nat} : ∀ j, f + j ≤ X 0 1 → okl (nmsT X f j) := by
  intro j
  induction j with
  | zero => intro _; exact okl_nil
  | succ j ih => intro h; exact okl_app (ih (by omega)) (okl_nm x (by omega))
theorem okl_tx (x : XP X) : ∀ c, c ≤ X 0 0 → okl (txT X c) := by
  intro c
  induction c with
  | zero => intro _; exact okl_nil
  | succ c ih =>
    intro h
    have hN : X 1 c + X 2 c ≤ X 0 1 := by
      rw [x.2.2.1, x.2.2.2.1 c (by omega)]
      exact fB_le (X := X) (c := c + 1) (by omega)
    exact okl_app (ih (by omega)) (okl_app (okl_2 (okt_w (by omega)) okt_s (fun z => by cases z)) (okl_app (okl_nms x _ hN) (okl_en x (by omega))))
/-- the whole text is read -/
theorem rd_text (x : XP X) : ∃ A j, rdT (kkT (tpL (byts (txT X (X 0 0)))) (byts (txT X (X 0 0))).length) (vvT (tpL (byts (txT X (X 0 0)))) (byts (txT X (X 0 0))).length) = ((0, j), A) ∧ DR X (X 0 0) (X 0 0) (X 0 1) A := by
  have hok := (okl_tx x (X 0 0) (Nat.le_refl _)).1
  generalize hT : txT X (X 0 0) = T at hok ⊢
  have hkv : KV (kkT (tpL (byts T)) (byts T).length) (vvT (tpL (byts T)) (byts T).length) 0 (txT X (X 0 0) ++ []) := by
    rw [List.append_nil, hT]
    intro j hj
    rw [Nat.zero_add]
    exact toks_at hok hj
  have hend := toks_end hok
  generalize kkT (tpL (byts T)) (byts T).length = K at hkv hend ⊢
  generalize vvT (tpL (byts T)) (byts T).length = V at hkv ⊢
  have hf : fB X (X 0 0) ≤ 20 := by rw [← x.2.2.1]; exact x.2.1
  have h6 := x.1
  obtain ⟨ph, v, A, e, d⟩ := rd_blocks x (X 0 0) (Nat.le_refl _) (321 - 2 * X 0 0 - fB X (X 0 0)) [] hkv
  rw [show 321 - 2 * X 0 0 - fB X (X 0 0) + 2 * X 0 0 + fB X (X 0 0) = 321 by omega] at e
  rw [hT] at e
  refine ⟨A, T.length, ?_, by rw [x.2.2.1]; exact d⟩
  show rd2 K V 321 false false 0 (fun _ _ => 0) = _
  rw [e]
  obtain ⟨w, hw⟩ : ∃ w, 321 - 2 * X 0 0 - fB X (X 0 0) + v = w + 1 := ⟨321 - 2 * X 0 0 - fB X (X 0 0) + v - 1, by omega⟩
  rw [hw, rd_end hend]
end RDL
