/-! THE LAW'S SHAPES, and the programs over them -/
def shT (sh b w : Nat) : Nat :=
  if w = 0 then (if sh = 0 then 1 else if sh = 3 then 6 else 4)
  else if sh = 0 then (if w = 1 then 2 else if w = 4 then 1 else 0)
  else if sh = 1 then
    (if w = 1 then (if b = 0 then 1 else if b = 3 then 2 else 0) else if w = 2 then (if b = 0 then 1 else 3) else if w = 3 then 2
     else if w = 4 then (if b = 0 then 1 else 1 ||| 1 <<< b) else if w = 5 then (if b = 0 then 0 else if b = 3 then 2 else 1) else if w = 6 then (if b = 3 then 1 else 0) else 2)
  else if sh = 2 then
    (if w = 1 then (if b = 1 then 1 else if b = 3 then 2 else 0) else if w = 2 then (if b = 1 then 2 else 1) else if w = 3 then 3
     else if w = 4 then (if b = 0 then 1 else if b = 1 then 3 else 3 ||| 1 <<< b) else if w = 5 then (if b = 0 then 0 else if b = 1 then 2 else 1) else if w = 6 then (if b = 1 then 0 else 1) else 2)
  else if w = 1 then (if b = 1 ∨ b = 2 then 1 else if b = 5 then 2 else 0)
  else if w = 2 then (if b = 0 ∨ b = 4 then 1 else if b = 1 then 2 else if b = 2 then 3 else 4)
  else if w = 3 then (if b = 1 then 5 else 4)
  else if w = 4 then (if b = 0 then 1 else if b = 1 then 3 else if b = 2 then 7 else if b = 5 then 35 else 7 ||| 1 <<< b)
  else if w = 5 then (if b = 0 then 0 else if b = 1 ∨ b = 4 then 2 else 1)
  else if w = 6 then (if b = 1 then 0 else if b = 4 then 2 else if b = 3 then 2 else 1)
  else (if b = 1 then 4 else 3)
def shA (sh : Nat) : Nat → Nat → Nat := fun f x => if f = 0 then (if x = 0 then shT sh 0 0 else 0) else if f = 3 then shT sh x 1 else if f = 4 then shT sh x 2 else if f = 5 then shT sh x 3 else 0
/-- may m be operand i of n -/
def mayX (sh : Nat) (X : Nat → Nat → Nat) (m n i : Nat) : Bool := if X 10 n = 7 then (shT sh (shT sh (X 11 n) (6 + i)) 4).testBit (X 11 m) else if X 11 m = X 11 n then decide (m < n) else (shT sh (X 11 n) 4).testBit (X 11 m)
def GX (sh : Nat) (X : Nat → Nat → Nat) : Prop :=
  XP X ∧ sh < 4 ∧ X 0 0 = shT sh 0 0 ∧ (∀ b, b < X 0 0 → X 3 b = shT sh b 1 ∧ X 4 b = shT sh b 2 ∧ X 5 b = shT sh b 3) ∧
  (∀ n, n < X 0 1 → X 11 n < X 0 0 ∧ X 1 (X 11 n) ≤ n ∧ n < X 1 (X 11 n) + X 2 (X 11 n) ∧ (X 10 n = 7 → shT sh (X 11 n) 5 = 2) ∧ ∀ i, i < X 12 n → X 14 (6 * n + i) < X 0 1 ∧ mayX sh X (X 14 (6 * n + i)) n i = true) ∧
  (∀ b, b < X 0 0 → X 3 b ≠ 0 → X 6 b < X 0 1 ∧ (shT sh b 4).testBit (X 11 (X 6 b)) = true) ∧ 0 < X 0 1
theorem sh_nb : ∀ sh, sh < 4 → 0 < shT sh 0 0 ∧ shT sh 0 0 ≤ 6 := by decide
theorem sh_tgt : ∀ sh, sh < 4 → ∀ b, b < shT sh 0 0 → shT sh b 1 ≤ 2 ∧ (shT sh b 1 ≠ 2 → 1 ≤ shT sh b 2 ∧ shT sh b 2 < shT sh 0 0) ∧ (shT sh b 1 = 1 → 1 ≤ shT sh b 3 ∧ shT sh b 3 < shT sh 0 0) := by decide
theorem sh_dom : ∀ sh, sh < 4 → ∀ b, b < shT sh 0 0 → ∀ d, d < shT sh 0 0 → reach (shA sh) (fun x => (1 <<< d).testBit x) b = !(shT sh b 4).testBit d := by decide +kernel
theorem sh_all : ∀ sh, sh < 4 → ∀ b, b < shT sh 0 0 → reach (shA sh) (fun x => (0 : Nat).testBit x) b = true := by decide +kernel
theorem sh_pn : ∀ sh, sh < 4 → ∀ b, b < shT sh 0 0 → cn (fun c => edb (shA sh) c b) (shT sh 0 0) = shT sh b 5 ∧ (shT sh b 5 = 2 → ∀ i, i < 2 → shT sh b (6 + i) < shT sh 0 0 ∧ edb (shA sh) (shT sh b (6 + i)) b = true ∧ cn (fun c => edb (shA sh) c b) (shT sh b (6 + i)) = i) := by decide +kernel
theorem sh_d64 : ∀ sh, sh < 4 → ∀ b, b < shT sh 0 0 → shT sh b 4 < 64 ∧ (∀ d, d < 6 → (shT sh b 4).testBit d = true → d ≤ b ∧ d < shT sh 0 0) ∧ (shT sh b 4).testBit 0 = true := by decide +kernel
section GRA
variable {A B : Nat → Nat → Nat}
def EQG (A B : Nat → Nat → Nat) : Prop := A 0 0 = B 0 0 ∧ ∀ b, b < A 0 0 → A 3 b = B 3 b ∧ (A 3 b ≠ 2 → A 4 b = B 4 b) ∧ (A 3 b = 1 → A 5 b = B 5 b) ∧ A 3 b ≤ 2
theorem EQG_ed (h : EQG A B) {b c : Nat} : ed A b c ↔ ed B b c := by
  unfold ed
  rw [← h.1]
  refine and_congr_right fun hb => ?_
  obtain ⟨h1, h2, h3, h4⟩ := h.2 b hb
  rw [← h1]
  constructor
  · rintro (⟨x, y⟩ | ⟨x, y⟩)
    · exact Or.inl ⟨x, by rw [← h2 x]; exact y⟩
    · exact Or.inr ⟨x, by rw [← h3 x]; exact y⟩
  · rintro (⟨x, y⟩ | ⟨x, y⟩)
    · exact Or.inl ⟨x, by rw [h2 x]; exact y⟩
    · exact Or.inr ⟨x, by rw [h3 x]; exact y⟩
theorem EQG_rk (h : EQG A B) {Y : Nat → Prop} : ∀ k b, rk A Y k b ↔ rk B Y k b := by
  intro k
  induction k with
  | zero => intro b; unfold rk; rw [h.1]
  | succ k ih =>
    intro b
    show (rk A Y k b ∨ ∃ c, rk A Y k c ∧ ed A c b ∧ ¬ Y b) ↔ (rk B Y k b ∨ ∃ c, rk B Y k c ∧ ed B c b ∧ ¬ Y b)
    rw [ih b]
    refine or_congr Iff.rfl (exists_congr fun c => ?_)
    rw [ih c, EQG_ed h]
theorem EQG_RE (h : EQG A B) {Y : Nat → Prop} {b : Nat} : RE A Y b ↔ RE B Y b := exists_congr fun k => EQG_rk h k b
theorem EQG_edb (h : EQG A B) {c b : Nat} (hc : c < A 0 0) : edb A c b = edb B c b := by
  obtain ⟨h1, h2, h3, h4⟩ := h.2 c hc
  unfold edb scs
  rw [← h1]
  by_cases k2 : A 3 c = 2
  · rw [if_pos k2, if_pos k2]
  · rw [if_neg k2, if_neg k2]
    by_cases k0 : A 3 c = 0
    · rw [if_pos k0, if_pos k0, h2 k2]
    · rw [if_neg k0, if_neg k0, ← h2 k2, ← h3 (by omega)]
end GRA
/-! the draft that was read, sound -/
section SNDX
variable {A X : Nat → Nat → Nat} {sh : Nat}
theorem DR_EQG (g : GX sh X) (d : DR X (X 0 0) (X 0 0) (X 0 1) A) : EQG A (shA sh) := by
  obtain ⟨x, h4, x0, xe, -⟩ := g
  obtain ⟨⟨d0, d1⟩, dn, db, dc, dl, de⟩ := d
  have e0 : shA sh 0 0 = shT sh 0 0 := rfl
  refine ⟨by rw [d0, x0, e0], fun b hb => ?_⟩
  rw [d0] at hb
  obtain ⟨r1, r2, r3, r4⟩ := de b hb
  obtain ⟨e3, e4, e5⟩ := xe b hb
  have f3 : shA sh 3 b = shT sh b 1 := rfl
  have f4 : shA sh 4 b = shT sh b 2 := rfl
  have f5 : shA sh 5 b = shT sh b 3 := rfl
  have t := sh_tgt sh h4 b (by omega)
  refine ⟨by rw [r1, e3, f3], fun z => by rw [r2 (by omega), e4, f4], fun z => by rw [r3 (by omega), e5, f5], by rw [r1, e3]; exact t.1⟩
theorem WL_shA (h4 : sh < 4) : WL (shA sh) := by
  have e0 : shA sh 0 0 = shT sh 0 0 := rfl
  refine ⟨(sh_nb sh h4).2, fun b hb => ?_⟩
  rw [e0] at hb ⊢
  obtain ⟨t1, t2, t3⟩ := sh_tgt sh h4 b hb
  exact ⟨t1, fun z => (t2 z).2, fun z => (t3 z).2⟩
theorem dom_X (g : GX sh X) (d : DR X (X 0 0) (X 0 0) (X 0 1) A) {b d' : Nat} (hb : b < X 0 0) : (shp A 9 b).testBit d' = true ↔ d' < X 0 0 ∧ (shT sh b 4).testBit d' = true := by
  have q := DR_EQG g d
  obtain ⟨x, h4, x0, -⟩ := g
  have d0 := d.1.1
  have hk := dbs_spec (A := A) (by rw [d0]; exact x.1) b
  rw [sh_9, hk.2 d', d0]
  refine and_congr_right fun hd => ?_
  rw [EQG_RE q, ← reach_iff (WL_shA h4) (by show b < shT sh 0 0; omega), sh_dom sh h4 b (by omega) d' (by omega)]
  cases (shT sh b 4).testBit d' <;> simp
theorem cn_edb (g : GX sh X) (d : DR X (X 0 0) (X 0 0) (X 0 1) A) {b n : Nat} (hn : n ≤ X 0 0) : cn (fun c => edb A c b) n = cn (fun c => edb (shA sh) c b) n := cn_congr n fun i hi => EQG_edb (DR_EQG g d) (by rw [d.1.1]; omega)
theorem pred_X (g : GX sh X) (d : DR X (X 0 0) (X 0 0) (X 0 1) A) {b i : Nat} (hb : b < X 0 0) (h2 : shT sh b 5 = 2) (hi : i < 2) : shp A 8 (6 * b + i) = shT sh b (6 + i) := by
  have q := DR_EQG g d
  have h4 := g.2.1
  have x0 := g.2.2.1
  have d0 := d.1.1
  obtain ⟨-, p2⟩ := sh_pn sh h4 b (by omega)
  obtain ⟨p3, p4, p5⟩ := p2 h2 i hi
  have e := sh_8 (A := A) (b := b) (c := shT sh b (6 + i)) (by rw [d0]; exact g.1.1) (by rw [d0]; omega) (by rw [EQG_edb q (by rw [d0]; omega)]; exact p4)
  rw [cn_edb g d (by omega), p5] at e
  exact e
theorem may_so (g : GX sh X) (d : DR X (X 0 0) (X 0 0) (X 0 1) A) {m n i : Nat} (hm : m < X 0 1) (hn : n < X 0 1) (hi : i < X 12 n) (h : mayX sh X m n i = true) : so (shp A) m n i = true := by
  have x := g.1
  have dn := d.2.1
  obtain ⟨n1, n2, -⟩ := dn n hn
  obtain ⟨m1, m2, -⟩ := dn m hm
  obtain ⟨q1, -, -, q4, -⟩ := g.2.2.2.2.1 n hn
  obtain ⟨r1, -⟩ := g.2.2.2.2.1 m hm
  have s10 : shp A 10 n = X 10 n := (sh_o (by omega)).trans n1
  have s11 : shp A 11 n = X 11 n := (sh_o (by omega)).trans n2
  have t11 : shp A 11 m = X 11 m := (sh_o (by omega)).trans m2
  unfold mayX at h
  unfold so se sn
  rw [s10, s11, t11]
  by_cases c : X 10 n = 7
  · rw [if_pos c] at h ⊢
    have h12 : X 12 n = 2 := (x.2.2.2.2.2.1 n hn).2.2.2.1 (by omega) (by omega)
    have h5 := q4 c
    rw [pred_X g d q1 h5 (by omega)]
    obtain ⟨p3, -⟩ := (sh_pn sh g.2.1 (X 11 n) (by have := g.2.2.1; omega)).2 h5 i (by omega)
    exact (dom_X g d (by have := g.2.2.1; omega)).mpr ⟨r1, h⟩
  · rw [if_neg c] at h ⊢
    by_cases e : X 11 m = X 11 n
    · rw [if_pos e] at h ⊢; exact h
    · rw [if_neg e] at h ⊢
      exact (dom_X g d q1).mpr ⟨r1, h⟩
theorem SND_X (g : GX sh X) (d : DR X (X 0 0) (X 0 0) (X 0 1) A) : SND A := by
  have q := DR_EQG g d
  have d' := d
  have h4 := g.2.1
  have x0 := g.2.2.1
  obtain ⟨⟨d0, d1⟩, dn, db, dc, dl, de⟩ := d
  have e0 : shA sh 0 0 = shT sh 0 0 := rfl
  refine ⟨fun b hb => ?_, fun b hb => ?_, fun n hn => ?_, fun b hb h3 => ?_⟩
  · rw [d0] at hb ⊢
    obtain ⟨q1, q2, q3, -⟩ := q.2 b (by rw [d0]; exact hb)
    have f3 : shA sh 3 b = shT sh b 1 := rfl
    have f4 : shA sh 4 b = shT sh b 2 := rfl
    have f5 : shA sh 5 b = shT sh b 3 := rfl
    obtain ⟨-, t2, t3⟩ := sh_tgt sh h4 b (by omega)
    rw [x0]
    exact ⟨fun z => by rw [q2 z, f4]; exact (t2 (by omega)).2, fun z => by rw [q3 z, f5]; exact (t3 (by omega)).2⟩
  · rw [d0] at hb
    rw [EQG_RE q]
    exact (reach0 (WL_shA h4) b).mp (sh_all sh h4 b (by omega))
  · rw [d1] at hn
    obtain ⟨n1, n2, n3, n4, n5⟩ := dn n hn
    obtain ⟨q1, q2, q3, q4, q5⟩ := g.2.2.2.2.1 n hn
    refine ⟨fun h7 => ?_, fun i hi => ?_⟩
    · rw [n1] at h7
      have h12 : X 12 n = 2 := (g.1.2.2.2.2.2.1 n hn).2.2.2.1 (by omega) (by omega)
      rw [n3, n2, h12, sh_7, d0, cn_edb g d' (Nat.le_refl _), x0, (sh_pn sh h4 (X 11 n) (by omega)).1, q4 h7]
    · rw [n3] at hi
      obtain ⟨o1, o2⟩ := q5 i hi
      rw [n5 i hi, d1]
      exact ⟨o1, may_so g d' o1 hn hi o2⟩
  · rw [d0] at hb
    obtain ⟨r1, r2, r3, r4⟩ := de b hb
    have hx3 : X 3 b ≠ 0 := by omega
    obtain ⟨a1, a2⟩ := g.2.2.2.2.2.1 b hb hx3
    rw [r4 hx3, d1]
    refine ⟨a1, ?_⟩
    have m2 := (dn _ a1).2.1
    unfold se
    rw [show shp A 11 (X 6 b) = A 11 (X 6 b) from sh_o (by omega), m2]
    exact (dom_X g d' hb).mpr ⟨(g.2.2.2.2.1 _ a1).1, a2⟩
theorem ZP_X (g : GX sh X) (d : DR X (X 0 0) (X 0 0) (X 0 1) A) : ZP (shp A) := by
  have s := SND_X g d
  have d' := d
  have x := g.1
  have h4 := g.2.1
  have x0 := g.2.2.1
  obtain ⟨⟨d0, d1⟩, dn, db, dc, dl, de⟩ := d
  have f0 : ∀ k, shp A 0 k = A 0 k := fun k => sh_o (by omega)
  have f1 : ∀ k, shp A 1 k = A 1 k := fun k => sh_o (by omega)
  have f2 : ∀ k, shp A 2 k = A 2 k := fun k => sh_o (by omega)
  have f3 : ∀ k, shp A 3 k = A 3 k := fun k => sh_o (by omega)
  have f6 : ∀ k, shp A 6 k = A 6 k := fun k => sh_o (by omega)
  have f10 : ∀ k, shp A 10 k = A 10 k := fun k => sh_o (by omega)
  have f11 : ∀ k, shp A 11 k = A 11 k := fun k => sh_o (by omega)
  have f12 : ∀ k, shp A 12 k = A 12 k := fun k => sh_o (by omega)
  have f14 : ∀ k, shp A 14 k = A 14 k := fun k => sh_o (by omega)
  have rng : ∀ n, n < X 0 1 → X 11 n < X 0 0 ∧ fB X (X 11 n) ≤ n ∧ n < fB X (X 11 n + 1) := by
    intro n hn
    obtain ⟨q1, q2, q3, -⟩ := g.2.2.2.2.1 n hn
    have e := x.2.2.2.1 _ q1
    refine ⟨q1, by omega, ?_⟩
    show n < fB X (X 11 n) + X 2 (X 11 n)
    omega
  unfold ZP
  simp only [f0, f1, f2, f3, f6, f10, f11, f12, f14]
  rw [d0, d1]
  refine ⟨fun n hn => ?_, fun n i hn hi => ?_, fun b hb h3 => ?_, fun n m hn hm h1 h2 h7 => ?_, fun b e hb h => ?_, fun n m hn hm h => ?_, fun n hn => ?_⟩
  · obtain ⟨n1, n2, -⟩ := dn n hn
    obtain ⟨q1, q2, q3, -⟩ := g.2.2.2.2.1 n hn
    rw [n2, db _ q1, dc _ q1]
    exact ⟨q2, q3⟩
  · obtain ⟨o1, o2⟩ := (s.2.2.1 n (by rw [d1]; exact hn)).2 i hi
    rw [d1] at o1
    refine ⟨o2, ?_⟩
    rw [(dn _ o1).1]
    have := (x.2.2.2.2.2.1 _ o1).1
    omega
  · obtain ⟨a1, a2⟩ := s.2.2.2 b (by rw [d0]; exact hb) h3
    rw [d1] at a1
    refine ⟨a2, ?_⟩
    rw [(dn _ a1).1]
    have := (x.2.2.2.2.2.1 _ a1).1
    omega
  · left
    obtain ⟨n1, n2, -⟩ := dn n hn
    obtain ⟨m1, m2, -⟩ := dn m hm
    rw [n1]
    exact x.2.2.2.2.2.2.1 n m h2 hm (by omega) (by omega)
  · obtain ⟨e1, e2⟩ := (dom_X g d' hb).mp h
    exact ((sh_d64 sh h4 b (by omega)).2.1 e (by have := x.1; omega) e2).1
  · obtain ⟨n1, n2, -⟩ := dn n hn
    obtain ⟨m1, m2, -⟩ := dn m hm
    obtain ⟨-, -, n3⟩ := rng n hn
    obtain ⟨-, m3, -⟩ := rng m hm
    have := fB_le (X := X) (c := X 11 n + 1) (d := X 11 m) (by omega)
    omega
  · obtain ⟨n1, n2, n3, -⟩ := dn n hn
    rw [n3]
    obtain ⟨-, j0, j4, j2, -⟩ := x.2.2.2.2.2.1 n hn
    by_cases c1 : X 10 n ≤ 1
    · rw [j0 c1]; omega
    · by_cases c4 : X 10 n = 4
      · rw [j4 c4]; omega
      · rw [j2 (by omega) c4]; omega
/-- the text of a program is taken -/
theorem text_X (g : GX sh X) {s : VS} (hs : v_tp s = tpL (byts (txT X (X 0 0))) ∧ v_tl s = (byts (txT X (X 0 0))).length) (ok : OS s) : ∃ B, OZ B ∧ B 0 1 = X 0 1 ∧ (∀ n, n < B 0 1 → B 10 n ≤ 7) ∧ n_text s = (B, fun _ => none, v_tp s, 0, 0, none, v_sh s, v_ce s, v_tn s) ∧ o_text s = nI (X 0 1) := by
  obtain ⟨A, j, e, d⟩ := rd_text g.1
  have snd := SND_X g d
  have ht := tR_ok e snd
  rw [← hs.1, ← hs.2] at ht
  have en : n_text s = (shp A, fun _ => none, v_tp s, 0, 0, none, v_sh s, v_ce s, v_tn s) := by
    unfold n_text
    rw [ht]
  have eo : o_text s = nI (A 0 1) := by
    unfold o_text
    rw [ht]
  have oa : OA (shp A) := by
    have := (OS_text ok).1
    rw [en] at this
    exact this
  have e1 : shp A 0 1 = X 0 1 := (sh_o (by omega)).trans d.1.2
  refine ⟨shp A, ⟨oa, ZP_X g d⟩, e1, fun n hn => ?_, en, by rw [eo, d.1.2]⟩
  rw [e1] at hn
  rw [show shp A 10 n = A 10 n from sh_o (by omega), (d.2.1 n hn).1]
  exact (g.1.2.2.2.2.2.1 n hn).1
end SNDX
