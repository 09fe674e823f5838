/-! RUNS: a whole one -/
def EN (A : Nat → Nat → Nat) (ar : Nat → Int32) (b r : Nat) (V : Nat → Int64) : Prop := (b = 0 ∧ V = V0) ∨ ∃ c, ed A c b ∧ r < A 7 b ∧ A 8 (6 * b + r) = c ∧ IV A ar (AX A c) V
/-- what is asked of a program here -/
def OZ (A : Nat → Nat → Nat) : Prop := OA A ∧ ZP A
section RUN
variable {A : Nat → Nat → Nat} {V V' : Nat → Int64} {ar : Nat → Int32} {w : WT}
theorem WOK_none : WOK A none := fun _ _ h => by cases h
theorem IV_same (hr : WR A) (hg : WG A) (ha : AHD A) {S : Nat → Prop} (h : IV A ar S V) {k m : Nat} (hk : S k) (hm : S m) (hN : m < A 0 1) (he : PP A k = PP A m ∨ FF A m = .inl k) : V k = V m := by
  rcases he with he | he
  · exact h.2.1 k m hk hm he
  · rw [h.2.2.2 k hk, h.2.2.2 m hm, he, ((F_ok hr hg ha m hN).1 k he).2]
theorem cmq_same {k m : Nat} (h : V k = V m) (D : Int32) : cmq V k m D = D := by
  unfold cmq
  rw [if_neg (fun z => z.2 h)]
theorem AV0 (hr : WR A) (hg : WG A) (hz : ZP A) (hB : 0 < A 0 0) (x : Nat) : ¬ AV A 0 (A 1 0) x := by
  rintro ⟨h1, h2, h3⟩
  rcases h3 with ⟨d1, d2⟩ | ⟨d1, d2⟩
  · have := hz.2.2.2.2.1 _ _ hB d2
    omega
  · rcases d2 with d2 | d2
    · have a1 := (hr.2.2.2 x h1).2.2.2.2.2.2.2.1 d2
      rw [d1, hg.2.2.2.2.1 hB] at a1
      have := hg.2.2.2.1 x h1 d2
      omega
    · have := (hz.1 x h1).1
      rw [d1] at this
      omega
theorem EN_phi (o : OZ A) {b r : Nat} (hb : b < A 0 0) (h : EN A ar b r V) : IV A ar (AV A b (A 1 b)) (p1V A r (A 1 b) (A 1 b + A 2 b) V) := by
  obtain ⟨⟨-, hr, hg, hh, -⟩, hz⟩ := o
  rcases h with ⟨rfl, rfl⟩ | ⟨c, h1, h2, h3, h4⟩
  · have e := AV0 hr hg hz hb
    exact ⟨fun x hx => absurd hx (e x), fun x y hx => absurd hx (e x), fun x hx => absurd hx (e x), fun x hx => absurd hx (e x)⟩
  · exact IV_phi hr hg hz hh hb h1 h2 h3 h4
theorem phi_at (o : OZ A) {b n : Nat} (hb : b < A 0 0) (h1 : A 1 b ≤ n) (h2 : n < A 1 b + A 2 b) (h7 : A 10 n = 7) : AV A b (A 1 b) n := by
  obtain ⟨⟨-, hr, hg, hh, -⟩, hz⟩ := o
  have := (hr.2.2.1 b hb).1
  exact ⟨by omega, by omega, Or.inr ⟨hh b n hb h1 h2, Or.inl h7⟩⟩
theorem IG_phi (o : OZ A) {b r : Nat} (hb : b < A 0 0) (h : IG A V) (hi : IV A ar (AV A b (A 1 b)) (p1V A r (A 1 b) (A 1 b + A 2 b) V)) : IG A (p1V A r (A 1 b) (A 1 b + A 2 b) V) := by
  intro n hn
  by_cases c : A 1 b ≤ n ∧ n < A 1 b + A 2 b ∧ A 10 n = 7
  · have hx := phi_at o hb c.1 c.2.1 c.2.2
    refine ⟨fun z => by omega, fun v hv => Or.inr ?_⟩
    rw [hi.2.2.2 n hx, hv]
    rfl
  · have e : p1V A r (A 1 b) (A 1 b + A 2 b) V n = V n := by
      unfold p1V
      exact if_neg c
    rw [e]
    exact h n hn
theorem D_phi (o : OZ A) (hw : WOK A w) {b r : Nat} (hb : b < A 0 0) (s : RS) (hi : IV A ar (AV A b (A 1 b)) (p1V A r (A 1 b) (A 1 b + A 2 b) s.1)) : (p1 A w r (A 1 b) (A 2 b) s).2.2 = s.2.2 := by
  have o' := o
  obtain ⟨⟨-, hr, hg, hh, -⟩, hz⟩ := o
  show (if p1m A w (A 1 b) (A 1 b + A 2 b) then wm w (p1V A r (A 1 b) (A 1 b + A 2 b) s.1) s.2.2 else s.2.2) = s.2.2
  split
  · rename_i c
    cases w with
    | none => rfl
    | some km =>
      obtain ⟨k, m⟩ := km
      unfold p1m at c
      rw [decide_eq_true_eq] at c
      obtain ⟨w1, w2, w3, w4, w5, w6⟩ := hw k m rfl
      have hm := phi_at o' hb c.1 c.2.1 c.2.2
      have hk := AV_down hr hg hz hb hm w1 w3 w5
      exact cmq_same (IV_same hr hg (ZP_AHD hr hz) hi hk hm w2 w6) _
  · rfl
theorem PS_all (o : OZ A) (hw : WOK A w) {b : Nat} (hb : b < A 0 0) (s : RS) (hi : IV A ar (AV A b (A 1 b)) s.1) (hG : IG A s.1) : ∀ j, j ≤ A 2 b → IV A ar (AV A b (A 1 b + j)) (ps A ar w (A 1 b) j s).1 ∧ IG A (ps A ar w (A 1 b) j s).1 ∧ (ps A ar w (A 1 b) j s).2.2 = s.2.2 := by
  obtain ⟨⟨-, hr, hg, hh, -⟩, hz⟩ := o
  intro j
  induction j with
  | zero => intro _; exact ⟨hi, hG, rfl⟩
  | succ j ih =>
    intro hj
    obtain ⟨j1, j2, j3⟩ := ih (by omega)
    have hbn := (hr.2.2.1 b hb).1
    have hn : A 1 b + j < A 0 1 := by omega
    have hnb : A 11 (A 1 b + j) = b := hh b _ hb (by omega) (by omega)
    unfold ps
    by_cases c : A 10 (A 1 b + j) = 7 ∨ A 10 (A 1 b + j) = 8
    · rw [if_pos c]
      refine ⟨IV_sub (fun x hx => ?_) j1, j2, j3⟩
      obtain ⟨h1, h2, h3⟩ := hx
      refine ⟨h1, h2, h3.imp id (fun z => ⟨z.1, ?_⟩)⟩
      rcases z.2 with y | y
      · exact Or.inl y
      · rcases Nat.lt_or_ge x (A 1 b + j) with f | f
        · exact Or.inr f
        · have e : x = A 1 b + j := by omega
          rcases c with c | c
          · exact Or.inl (by rw [e]; exact c)
          · rw [e] at h2; exact absurd c h2
    · rw [if_neg c]
      have k1 := IV_op hr hg hz hb hn hnb (fun z => c (Or.inl z)) (fun z => c (Or.inr z)) j1
      refine ⟨k1, fun m hm => ?_, ?_⟩
      · by_cases e : m = A 1 b + j
        · refine ⟨fun z => absurd (Or.inr (e ▸ z)) c, fun v hv => Or.inr ?_⟩
          have hx : AV A b (A 1 b + j + 1) m := ⟨hm, fun z => c (Or.inr (e ▸ z)), Or.inr ⟨by rw [e]; exact hnb, Or.inr (by omega)⟩⟩
          exact (k1.2.2.2 m hx).trans (by rw [hv]; rfl)
        · show (A 10 m = 8 → (if m = A 1 b + j then _ else (ps A ar w (A 1 b) j s).1 m) = NOT) ∧ ∀ v, FF A m = .inr v → (if m = A 1 b + j then _ else (ps A ar w (A 1 b) j s).1 m) = NOT ∨ (if m = A 1 b + j then _ else (ps A ar w (A 1 b) j s).1 m) = v
          rw [if_neg e]
          exact j2 m hm
      · show wq w (A 1 b + j) _ (ps A ar w (A 1 b) j s).2.2 = s.2.2
        rw [j3]
        cases w with
        | none => rfl
        | some km =>
          obtain ⟨k, m⟩ := km
          show (if A 1 b + j = m then cmq _ k m s.2.2 else s.2.2) = s.2.2
          split
          · rename_i e
            obtain ⟨w1, w2, w3, w4, w5, w6⟩ := hw k m rfl
            have hm : AV A b (A 1 b + j + 1) m := ⟨w2, w4, Or.inr ⟨by rw [← e]; exact hnb, Or.inr (by omega)⟩⟩
            have hk := AV_down hr hg hz hb hm w1 w3 w5
            exact cmq_same (IV_same hr hg (ZP_AHD hr hz) k1 hk hm w2 w6) _
          · rfl
theorem PA_all (o : OZ A) (hw : WOK A w) {b r : Nat} (hb : b < A 0 0) (s : RS) (h : EN A ar b r s.1) (hG : IG A s.1) : IV A ar (AX A b) (pa A ar w r b s).1 ∧ IG A (pa A ar w r b s).1 ∧ (pa A ar w r b s).2.2 = s.2.2 := by
  have k1 := EN_phi o hb h
  have k2 := IG_phi o hb hG k1
  obtain ⟨j1, j2, j3⟩ := PS_all o hw hb (p1 A w r (A 1 b) (A 2 b) s) k1 k2 (A 2 b) (Nat.le_refl _)
  refine ⟨IV_sub (fun x hx => ?_) j1, j2, j3.trans (D_phi o hw hb s k1)⟩
  obtain ⟨h1, h2, h3⟩ := hx
  refine ⟨h1, h2, ?_⟩
  by_cases e : A 11 x = b
  · have := (o.2.1 x h1).2
    rw [e] at this
    exact Or.inr ⟨e, Or.inr this⟩
  · exact Or.inl ⟨e, h3⟩
theorem ny_ed (hr : WR A) {b : Nat} (hb : b < A 0 0) (h : A 3 b ≠ 2) : ed A b (nx A V b) := by
  have h3 := (hr.2.2.1 b hb).2.1
  refine ⟨hb, ?_⟩
  unfold nx
  by_cases c : A 3 b = 0
  · rw [if_pos c]; exact Or.inl ⟨h, rfl⟩
  · rw [if_neg c]
    split
    · exact Or.inl ⟨h, rfl⟩
    · exact Or.inr ⟨by omega, rfl⟩
theorem rt_ok (hg : WG A) {b c : Nat} (hb : b < A 0 0) (h : ed A c b) : rt A c b < A 7 b ∧ A 8 (6 * b + rt A c b) = c := by
  obtain ⟨i, hi, hq⟩ := (hg.2.2.1 b c hb h.1).mp h
  obtain ⟨-, h2, h3, h4⟩ := fu_spec (fun i => decide (A 8 (6 * b + i) = c)) (A 7 b) 0
  have hz : rt A c b = fu (fun i => decide (A 8 (6 * b + i) = c)) (A 7 b) 0 := rfl
  rw [← hz] at h2 h3 h4
  rcases Nat.lt_or_ge (rt A c b) (A 7 b) with d | d
  · exact ⟨d, of_decide_eq_true (h4 (by omega))⟩
  · have := h3 i (Nat.zero_le _) (by omega)
    rw [decide_eq_false_iff_not] at this
    exact absurd hq this
theorem EN_next (o : OZ A) {b : Nat} (hb : b < A 0 0) (h2 : A 3 b ≠ 2) (h : IV A ar (AX A b) V) : nx A V b < A 0 0 ∧ EN A ar (nx A V b) (rt A b (nx A V b)) V := by
  obtain ⟨⟨-, hr, hg, hh, -⟩, hz⟩ := o
  have he := ny_ed (V := V) hr hb h2
  have hl := ed_lt hr he
  obtain ⟨r1, r2⟩ := rt_ok hg hl he
  exact ⟨hl, Or.inr ⟨b, he, r1, r2, h⟩⟩
theorem RN_all (o : OZ A) (hw : WOK A w) : ∀ u r b s t, b < A 0 0 → EN A ar b r s.1 → IG A s.1 → (rn A ar w u r b s t).1.2.2 = s.2.2 ∧ IG A (rn A ar w u r b s t).1.1 := by
  intro u
  induction u with
  | zero => intro r b s t _ _ hG; exact ⟨rfl, hG⟩
  | succ u ih =>
    intro r b s t hb hE hG
    obtain ⟨k1, k2, k3⟩ := PA_all o hw hb s hE hG
    unfold rn
    by_cases c : A 3 b = 2
    · rw [if_pos c]; exact ⟨k3, k2⟩
    · rw [if_neg c]
      obtain ⟨n1, n2⟩ := EN_next o hb c k1
      obtain ⟨j1, j2⟩ := ih (rt A b (nx A (pa A ar w r b s).1 b)) (nx A (pa A ar w r b s).1 b) (pa A ar w r b s) (t + 1) n1 n2 k2
      exact ⟨j1.trans k3, j2⟩
theorem IG_V0 : IG A V0 := fun _ _ => ⟨fun _ => rfl, fun _ _ => Or.inl rfl⟩
theorem run0_all (o : OZ A) (hw : WOK A w) (D : Int32) : (run0 A ar w D).1.2.2 = D ∧ IG A (run0 A ar w D).1.1 := by
  unfold run0
  by_cases c : A 0 0 = 0
  · rw [if_pos c]; exact ⟨rfl, IG_V0⟩
  · rw [if_neg c]
    exact RN_all o hw 200 0 0 (V0, 0, D) 0 (by omega) (Or.inl ⟨rfl, rfl⟩) IG_V0
theorem ag_all (o : OZ A) (hw : WOK A w) : ∀ u x D q, (ag A w u x D q).1 = D := by
  intro u
  induction u with
  | zero => intro x D q; rfl
  | succ u ih =>
    intro x D q
    unfold ag
    rw [ih]
    exact (run0_all o hw D).1
end RUN
