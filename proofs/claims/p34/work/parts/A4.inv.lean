/-! RUNS: what holds at each place of a run -/
def AV (A : Nat → Nat → Nat) (b p x : Nat) : Prop := x < A 0 1 ∧ A 10 x ≠ 8 ∧ ((A 11 x ≠ b ∧ (A 9 b).testBit (A 11 x) = true) ∨ (A 11 x = b ∧ (A 10 x = 7 ∨ x < p)))
def AX (A : Nat → Nat → Nat) (b x : Nat) : Prop := x < A 0 1 ∧ A 10 x ≠ 8 ∧ (A 9 b).testBit (A 11 x) = true
def IV (A : Nat → Nat → Nat) (ar : Nat → Int32) (S : Nat → Prop) (V : Nat → Int64) : Prop :=
  (∀ x, S x → LG (V x)) ∧ (∀ x y, S x → S y → PP A x = PP A y → V x = V y) ∧ (∀ x, S x → A 10 x ≠ 7 → V x = vo A ar V x) ∧ (∀ x, S x → V x = EV A ar V (FF A x))
def IG (A : Nat → Nat → Nat) (V : Nat → Int64) : Prop := ∀ n, n < A 0 1 → (A 10 n = 8 → V n = NOT) ∧ ∀ v, FF A n = .inr v → V n = NOT ∨ V n = v
/-- a watch that never finds another value -/
def WOK (A : Nat → Nat → Nat) (w : WT) : Prop := ∀ k m, w = some (k, m) → k < A 0 1 ∧ m < A 0 1 ∧ A 10 k ≠ 8 ∧ A 10 m ≠ 8 ∧ sn A k m = true ∧ (PP A k = PP A m ∨ FF A m = .inl k)
section INV
variable {A : Nat → Nat → Nat} {V V' : Nat → Int64} {ar : Nat → Int32}
theorem IV_sub {S T : Nat → Prop} (hs : ∀ x, T x → S x) (h : IV A ar S V) : IV A ar T V := ⟨fun x hx => h.1 x (hs x hx), fun x y hx hy => h.2.1 x y (hs x hx) (hs y hy), fun x hx => h.2.2.1 x (hs x hx), fun x hx => h.2.2.2 x (hs x hx)⟩
/-- two names with operands of the same classes -/
theorem vo_PP (hr : WR A) {S : Nat → Prop} (hV : ∀ x y, S x → S y → PP A x = PP A y → V x = V y) {x y : Nat} (hx : x < A 0 1) (hy : y < A 0 1) (h7 : A 10 x ≠ 7) (h8 : A 10 x ≠ 8) (h : PP A x = PP A y) (ox : ∀ i, i < A 12 x → S (A 14 (6 * x + i))) (oy : ∀ i, i < A 12 y → S (A 14 (6 * y + i))) : vo A ar V x = vo A ar V y := by
  obtain ⟨k1, k2, k3⟩ := PP_h0 h
  obtain ⟨a1, a2⟩ := PP_ops hr hx hy h
  obtain ⟨q0, -, -, -, -, q5, q6, -⟩ := hr.2.2.2 x hx
  unfold vo
  by_cases c0 : A 10 x = 0
  · rw [if_pos c0, if_pos (by omega : A 10 y = 0), k2 (by omega)]
  rw [if_neg c0, if_neg (by omega : ¬ A 10 y = 0)]
  by_cases c1 : A 10 x = 1
  · rw [if_pos c1, if_pos (by omega : A 10 y = 1), k2 (by omega)]
  rw [if_neg c1, if_neg (by omega : ¬ A 10 y = 1)]
  by_cases c4 : A 10 x = 4
  · have e := q5 c4
    rw [if_pos c4, if_pos (by omega), ← k1]
    rcases a2 with z | z
    · have z0 := z 0 (by omega)
      have := hV _ _ (ox 0 (by omega)) (oy 0 (by omega)) z0
      rw [show 6 * x + 0 = 6 * x from rfl, show 6 * y + 0 = 6 * y from rfl] at this
      rw [this]
    · omega
  · have e := q6 (by omega) (by omega) c4
    rw [if_neg c4, if_neg (by omega), ← k1]
    have o0 := ox 0 (by omega)
    have o1 := ox 1 (by omega)
    have p0 := oy 0 (by omega)
    have p1 := oy 1 (by omega)
    rw [show 6 * x + 0 = 6 * x from rfl] at o0
    rw [show 6 * y + 0 = 6 * y from rfl] at p0
    rcases a2 with z | ⟨z1, z2, z3⟩
    · have z0 := z 0 (by omega)
      rw [show 6 * x + 0 = 6 * x from rfl, show 6 * y + 0 = 6 * y from rfl] at z0
      rw [hV _ _ o0 p0 z0, hV _ _ o1 p1 (z 1 (by omega))]
    · rw [hV _ _ o0 p1 z2, hV _ _ o1 p0 z3, br_comm z1]
/-- what is seen at one that is there is there -/
theorem AV_down (hr : WR A) (hg : WG A) (hz : ZP A) {b p x q : Nat} (hb : b < A 0 0) (h : AV A b p x) (hq : q < A 0 1) (h8 : A 10 q ≠ 8) (hs : sn A q x = true) : AV A b p q := by
  obtain ⟨h1, h2, h3⟩ := h
  have lq := (hr.2.2.2 q hq).2.1
  have lx := (hr.2.2.2 x h1).2.1
  refine ⟨hq, h8, ?_⟩
  have hd := sn_dom hr hg hq h1 hs
  rcases h3 with ⟨d1, d2⟩ | ⟨d1, d2⟩
  · left
    refine ⟨fun z => ?_, dom_tr hg lq lx hb hd d2⟩
    rw [z] at hd
    have e1 := hz.2.2.2.2.1 _ _ lx hd
    have e2 := hz.2.2.2.2.1 _ _ hb d2
    omega
  · by_cases e : A 11 q = b
    · right
      refine ⟨e, ?_⟩
      have hl := sn_lt hr hz hq h1 hs
      rcases d2 with d2 | d2
      · exact Or.inl ((hz.2.2.2.1 q x hq h1 (by omega) hl d2).resolve_right h8)
      · exact Or.inr (by omega)
    · left
      exact ⟨e, by rw [← d1]; exact hd⟩
/-- one more name of a block gets its value -/
theorem IV_op (hr : WR A) (hg : WG A) (hz : ZP A) {b n : Nat} (hb : b < A 0 0) (hn : n < A 0 1) (hnb : A 11 n = b) (h7 : A 10 n ≠ 7) (h8 : A 10 n ≠ 8) (h : IV A ar (AV A b n) V) : IV A ar (AV A b (n + 1)) (fun q => if q = n then vo A ar V n else V q) := by
  have ha := ZP_AHD hr hz
  obtain ⟨i1, i2, i3, i4⟩ := h
  have q10 := (hr.2.2.2 n hn).2.2.2.2.2.2.2.2.2.2
  generalize hV' : (fun q => if q = n then vo A ar V n else V q) = V'
  have en : V' n = vo A ar V n := by rw [← hV']; exact if_pos rfl
  have eo : ∀ q, q ≠ n → V' q = V q := fun q hq => by rw [← hV']; exact if_neg hq
  have spl : ∀ x, AV A b (n + 1) x → x ≠ n → AV A b n x := by
    rintro x ⟨h1, h2, h3⟩ hx
    refine ⟨h1, h2, h3.imp id (fun z => ⟨z.1, z.2.imp id (fun w => by omega)⟩)⟩
  -- operands of n are there
  have on : ∀ i, i < A 12 n → AV A b n (A 14 (6 * n + i)) := by
    intro i hi
    obtain ⟨s1, s2⟩ := hz.2.1 n i hn hi
    have s3 := so_sn h7 s1
    have hd := sn_dom hr hg (q10 i hi) hn s3
    refine ⟨q10 i hi, s2, ?_⟩
    by_cases e : A 11 (A 14 (6 * n + i)) = b
    · exact Or.inr ⟨e, Or.inr (sn_lt hr hz (q10 i hi) hn s3)⟩
    · exact Or.inl ⟨e, by rw [← hnb]; exact hd⟩
  -- an operand of one that is there is there, and isn't n
  have ox : ∀ x, AV A b n x → A 10 x ≠ 7 → ∀ i, i < A 12 x → AV A b n (A 14 (6 * x + i)) := by
    intro x hx k7 i hi
    obtain ⟨s1, s2⟩ := hz.2.1 x i hx.1 hi
    exact AV_down hr hg hz hb hx ((hr.2.2.2 x hx.1).2.2.2.2.2.2.2.2.2.2 i hi) s2 (so_sn k7 s1)
  have nn : ∀ x, AV A b n x → x ≠ n := by
    rintro x ⟨h1, h2, h3⟩ rfl
    rcases h3 with z | z
    · exact z.1 hnb
    · rcases z.2 with w | w
      · exact h7 w
      · exact Nat.lt_irrefl _ w
  have vn : vo A ar V' n = vo A ar V n := vo_congr hr hn h7 h8 (fun i hi => eo _ (nn _ (on i hi)))
  have agr : ∀ x, x < A 0 1 → EV A ar V' (FF A x) = EV A ar V (FF A x) := fun x hx => EV_agreeF hr hg ha hx (fun p hp => eo p (fun z => by
    have := (LF_kindF hr hg ha hx hp).1
    rw [z] at this
    omega))
  have Fn : vo A ar V n = EV A ar V (FF A n) := by
    have e : vo A ar V n = vo A ar (fun q => EV A ar V (FF A q)) n := vo_congr hr hn h7 h8 (fun i hi => i4 _ (on i hi))
    rw [e]
    refine F_sound hr hg ha hn h7 h8 (fun i hi p hp => ?_)
    have hq := on i hi
    obtain ⟨j1, j2⟩ := LF_seen hr hg hz _ hq.1 hp
    have hpN : p < A 0 1 := by have := (LF_kindF hr hg ha hq.1 hp).2; have := hq.1; omega
    have k7 := j2 hq.2.1
    rcases j1 with j1 | j1
    · rw [j1]; exact i1 _ hq
    · exact i1 _ (AV_down hr hg hz hb hq hpN (by omega) j1)
  refine ⟨fun x hx => ?_, fun x y hx hy he => ?_, fun x hx k7 => ?_, fun x hx => ?_⟩
  · by_cases e : x = n
    · rw [e, en]; exact LG_vo hr hn
    · rw [eo x e]; exact i1 x (spl x hx e)
  · by_cases e : x = n
    · by_cases f : y = n
      · rw [e, f]
      · rw [eo y f, e, en]
        have hy2 := spl y hy f
        rw [e] at he
        have k7 : A 10 y ≠ 7 := by rw [← (PP_h0 he).1]; exact h7
        rw [i3 y hy2 k7]
        exact vo_PP hr i2 hn hy2.1 h7 h8 he on (ox y hy2 k7)
    · by_cases f : y = n
      · rw [eo x e, f, en]
        have hx2 := spl x hx e
        rw [f] at he
        have k7 : A 10 x ≠ 7 := by rw [(PP_h0 he).1]; exact h7
        rw [i3 x hx2 k7]
        exact vo_PP hr i2 hx2.1 hn k7 hx2.2.1 he (ox x hx2 k7) on
      · rw [eo x e, eo y f]
        exact i2 x y (spl x hx e) (spl y hy f) he
  · by_cases e : x = n
    · rw [e, en, vn]
    · have hx2 := spl x hx e
      rw [eo x e, i3 x hx2 k7]
      exact vo_congr hr hx2.1 k7 hx2.2.1 (fun i hi => (eo _ (nn _ (ox x hx2 k7 i hi))).symm)
  · rw [agr x hx.1]
    by_cases e : x = n
    · rw [e, en]; exact Fn
    · rw [eo x e]; exact i4 x (spl x hx e)
/-- a block is come to: all its phi get their values at once -/
theorem IV_phi (hr : WR A) (hg : WG A) (hz : ZP A) (hh : WH A) {b c r : Nat} (hb : b < A 0 0) (he : ed A c b) (hrr : r < A 7 b) (hc : A 8 (6 * b + r) = c) (h : IV A ar (AX A c) V) : IV A ar (AV A b (A 1 b)) (p1V A r (A 1 b) (A 1 b + A 2 b) V) := by
  have ha := ZP_AHD hr hz
  obtain ⟨i1, i2, i3, i4⟩ := h
  generalize hV' : p1V A r (A 1 b) (A 1 b + A 2 b) V = V'
  have ephi : ∀ x, x < A 0 1 → A 11 x = b → A 10 x = 7 → V' x = V (A 14 (6 * x + r)) := by
    intro x hx h1 h2
    rw [← hV']
    unfold p1V
    have := hz.1 x hx
    rw [h1] at this
    exact if_pos ⟨this.1, this.2, h2⟩
  have eo : ∀ x, A 11 x ≠ b → V' x = V x := by
    intro x h1
    rw [← hV']
    unfold p1V
    refine if_neg (fun z => h1 (hh b x hb z.1 z.2.1))
  have eo2 : ∀ x, A 10 x ≠ 7 → V' x = V x := by
    intro x h1
    rw [← hV']
    unfold p1V
    exact if_neg (fun z => h1 z.2.2)
  have spl : ∀ x, AV A b (A 1 b) x → (A 11 x ≠ b ∧ AX A c x) ∨ (A 11 x = b ∧ A 10 x = 7) := by
    rintro x ⟨h1, h2, h3⟩
    rcases h3 with ⟨d1, d2⟩ | ⟨d1, d2⟩
    · exact Or.inl ⟨d1, h1, h2, dom_pred hg hb he.1 (hr.2.2.2 x h1).2.1 he d1 d2⟩
    · refine Or.inr ⟨d1, d2.resolve_right (fun z => ?_)⟩
      have := (hz.1 x h1).1
      rw [d1] at this
      omega
  have op : ∀ x, x < A 0 1 → A 11 x = b → A 10 x = 7 → r < A 12 x ∧ AX A c (A 14 (6 * x + r)) := by
    intro x hx h1 h2
    have hr12 : r < A 12 x := by rw [(hr.2.2.2 x hx).2.2.2.2.2.2.2.1 h2, h1]; exact hrr
    obtain ⟨s1, s2⟩ := hz.2.1 x r hx hr12
    have s3 := so_se h2 s1
    rw [h1, hc] at s3
    exact ⟨hr12, (hr.2.2.2 x hx).2.2.2.2.2.2.2.2.2.2 r hr12, s2, s3⟩
  -- leaves of forms that are in other blocks
  have far : ∀ x p, x < A 0 1 → A 11 x ≠ b → (A 9 b).testBit (A 11 x) = true → LF A (FF A x) p → A 11 p ≠ b := by
    intro x p hx h1 h2 hp
    have hpN : p < A 0 1 := by have := (LF_kindF hr hg ha hx hp).2; omega
    rcases (LF_seen hr hg hz x hx hp).1 with z | z
    · rw [z]; exact h1
    · intro w
      have hd := sn_dom hr hg hpN hx z
      rw [w] at hd
      have e1 := hz.2.2.2.2.1 _ _ (hr.2.2.2 x hx).2.1 hd
      have e2 := hz.2.2.2.2.1 _ _ hb h2
      omega
  refine ⟨fun x hx => ?_, fun x y hx hy hxy => ?_, fun x hx k7 => ?_, fun x hx => ?_⟩
  · rcases spl x hx with ⟨d1, d2⟩ | ⟨d1, d2⟩
    · rw [eo x d1]; exact i1 x d2
    · rw [ephi x hx.1 d1 d2]; exact i1 _ (op x hx.1 d1 d2).2
  · obtain ⟨k1, -, k3⟩ := PP_h0 hxy
    rcases spl x hx with ⟨d1, d2⟩ | ⟨d1, d2⟩
    · rcases spl y hy with ⟨f1, f2⟩ | ⟨f1, f2⟩
      · rw [eo x d1, eo y f1]; exact i2 x y d2 f2 hxy
      · exact absurd ((k3 (by omega)).trans f1) d1
    · rcases spl y hy with ⟨f1, f2⟩ | ⟨f1, f2⟩
      · exact absurd ((k3 d2).symm.trans d1) f1
      · rw [ephi x hx.1 d1 d2, ephi y hy.1 f1 f2]
        obtain ⟨o1, o2⟩ := op x hx.1 d1 d2
        obtain ⟨o3, o4⟩ := op y hy.1 f1 f2
        refine i2 _ _ o2 o4 ?_
        rcases (PP_ops hr hx.1 hy.1 hxy).2 with z | z
        · exact z r o1
        · omega
  · rcases spl x hx with ⟨d1, d2⟩ | ⟨d1, d2⟩
    · rw [eo x d1, i3 x d2 k7]
      refine vo_congr hr hx.1 k7 hx.2.1 (fun i hi => (eo _ (fun w => ?_)).symm)
      have hq := (hr.2.2.2 x hx.1).2.2.2.2.2.2.2.2.2.2 i hi
      have s3 := so_sn k7 (hz.2.1 x i hx.1 hi).1
      have hd := sn_dom hr hg hq hx.1 s3
      rw [w] at hd
      have e1 := hz.2.2.2.2.1 _ _ (hr.2.2.2 x hx.1).2.1 hd
      rcases hx.2.2 with z | z
      · have e2 := hz.2.2.2.2.1 _ _ hb z.2
        have := z.1
        omega
      · exact d1 z.1
    · exact absurd d2 k7
  · rcases spl x hx with ⟨d1, d2⟩ | ⟨d1, d2⟩
    · have hd2 : (A 9 b).testBit (A 11 x) = true := hx.2.2.elim (fun z => z.2) (fun z => absurd z.1 d1)
      rw [eo x d1, i4 x d2]
      exact EV_agreeF hr hg ha hx.1 (fun p hp => (eo p (far x p hx.1 d1 hd2 hp)).symm)
    · obtain ⟨o1, o2⟩ := op x hx.1 d1 d2
      rcases F_cases hr hg ha hx.1 with ⟨c', h⟩ | ⟨c0, c8, c7, f, h, hE⟩ | ⟨c', h⟩ | ⟨c', u, hu, h⟩ | ⟨c', m, h1, h2, h⟩ | ⟨c', hbx, h1, h⟩ | ⟨hp, u, v, hu, hv, h⟩ | ⟨hp, hv, h⟩ | ⟨hp, hv, h⟩ | ⟨hp, hv, h⟩
      · omega
      · obtain ⟨e1, e2, e3, e4, e5, e6⟩ := hE
        have hf : f < A 0 1 := by have := hx.1; omega
        have hfb : A 11 f = b := by rw [(e5 d2).1, d1]
        obtain ⟨o3, o4⟩ := op f hf hfb (by omega)
        rw [h, EV_phi (by omega), ephi f hf hfb (by omega), ephi x hx.1 d1 d2, i4 _ o2, i4 _ o4]
        rcases e6 (by omega) with z | z
        · rw [z r o1]
        · omega
      · rw [h, EV_phi (by omega)]
      · omega
      · omega
      · have hbi := bh_iff.mp hbx
        have hFr : FF A x = FF A (A 14 (6 * x + r)) := by rw [h, h1 r o1]
        rw [ephi x hx.1 d1 d2, i4 _ o2, ← hFr]
        refine EV_agreeF hr hg ha hx.1 (fun p hp => (eo p (fun w => ?_)).symm)
        have hpN : p < A 0 1 := by have := (LF_kindF hr hg ha hx.1 hp).2; have := hx.1; omega
        have hall : ∀ i, i < A 12 x → p = A 14 (6 * x + i) ∨ sn A p (A 14 (6 * x + i)) = true := fun i hi => (LF_seen hr hg hz _ (by have := hbi i hi; have := hx.1; omega) (by rw [h1 i hi, ← h]; exact hp)).1
        exact (LF_coll hr hg hz hx.1 hpN d2 hall).1 (by rw [w, d1])
      · have := hp.2.1; omega
      · have := hp.2.1; omega
      · have := hp.2.1; omega
      · have := hp.2.1; omega
end INV
