/-! FORMS, told by values: E of a form, its leaves -/
def ev (A : Nat → Nat → Nat) (ar : Nat → Int32) (F : Nat → Nat ⊕ Int64) (V : Nat → Int64) : Nat → Nat → Int64
  | 0, m => V m
  | k + 1, m => if A 10 m = 7 ∨ A 10 m = 8 then V m else vo A ar (fun q => match F q with | .inl f => ev A ar F V k f | .inr v => v) m
def EV (A : Nat → Nat → Nat) (ar : Nat → Int32) (V : Nat → Int64) : Nat ⊕ Int64 → Int64
  | .inl m => ev A ar (FF A) V (m + 1) m
  | .inr v => v
def lf (A : Nat → Nat → Nat) (F : Nat → Nat ⊕ Int64) : Nat → Nat → Nat → Prop
  | 0, m, p => p = m
  | k + 1, m, p => if A 10 m = 7 ∨ A 10 m = 8 then p = m else ∃ i, i < A 12 m ∧ match F (A 14 (6 * m + i)) with | .inl f => lf A F k f p | .inr _ => False
def LF (A : Nat → Nat → Nat) : Nat ⊕ Int64 → Nat → Prop
  | .inl m, p => lf A (FF A) (m + 1) m p
  | .inr _, _ => False
/-- what forms keep to: a name's form is itself, not behind it; a number is one -/
def FOK (A : Nat → Nat → Nat) (n : Nat) : Prop := (∀ f, FF A n = .inl f → f ≤ n ∧ FF A f = .inl f) ∧ ∀ v, FF A n = .inr v → LG v
section FO1
variable {A : Nat → Nat → Nat} {V V' : Nat → Int64} {ar : Nat → Int32}
theorem F_ok (hr : WR A) (hg : WG A) (ha : AHD A) : ∀ n, n < A 0 1 → FOK A n := by
  intro n
  induction n using Nat.strongRecOn with
  | ind n ih =>
    intro hn
    obtain ⟨-, -, -, -, -, q5, q6, -, q8, -, -⟩ := hr.2.2.2 n hn
    have cp : ∀ q, q < n → FF A n = FF A q → FOK A n := by
      intro q hq e
      obtain ⟨i1, i2⟩ := ih q hq (by omega)
      exact ⟨fun f hf => by obtain ⟨j1, j2⟩ := i1 f (e ▸ hf); exact ⟨by omega, j2⟩, fun v hv => i2 v (e ▸ hv)⟩
    have nm : ∀ v, FF A n = .inr v → LG v → FOK A n := fun v e hv => ⟨fun f hf => (by rw [e] at hf; cases hf), fun w hw => by rw [e] at hw; cases hw; exact hv⟩
    rcases F_cases hr hg ha hn with ⟨c, h⟩ | ⟨c0, c8, c7, f, h, hE⟩ | ⟨c, h⟩ | ⟨c, u, -, h⟩ | ⟨c, m, h1, h2, h⟩ | ⟨c, hb, -, h⟩ | ⟨-, u, v, -, -, h⟩ | ⟨-, -, h⟩ | ⟨hp, -, h⟩ | ⟨hp, -, h⟩
    · refine nm _ h ?_
      split
      · exact Or.inl rfl
      · exact LG_lN (by have := q8 c; omega)
    · exact ⟨fun f' hf => by rw [h] at hf; cases hf; exact ⟨hE.1, hE.2.2.1⟩, fun v hv => by rw [h] at hv; cases hv⟩
    · exact ⟨fun f' hf => by rw [h] at hf; cases hf; exact ⟨Nat.le_refl _, h⟩, fun v hv => by rw [h] at hv; cases hv⟩
    · exact nm _ h (LG_br _ _ _)
    · have o0 : A 14 (6 * n) < n := ha n 0 hn (by omega) (by rw [q5 c]; omega)
      have hm := ((ih _ o0 (by omega)).1 m h1).1
      have o1 : A 14 (6 * m) < m := ha m 0 (by omega) (by omega) (by rw [(hr.2.2.2 m (by omega)).2.2.2.2.2.1 h2]; omega)
      rw [FF_lt (by omega) (by omega)] at h
      exact cp _ (by omega) h
    · exact cp _ (bh_iff.mp hb 0 (hg.2.2.2.1 n hn c)) h
    · exact nm _ h (LG_br _ _ _)
    · refine nm _ h ?_
      split
      · exact LG_lN (by omega)
      · exact Or.inl rfl
    · have a2 := q6 hp.1 hp.2.1 hp.2.2
      exact cp _ (ha n 1 hn (by have := hp.2.1; omega) (by omega)) h
    · have a2 := q6 hp.1 hp.2.1 hp.2.2
      exact cp _ (ha n 0 hn (by have := hp.2.1; omega) (by omega)) h
theorem ev_fuel (hr : WR A) (hg : WG A) (ha : AHD A) : ∀ m, m < A 0 1 → ∀ k, m < k → ev A ar (FF A) V k m = ev A ar (FF A) V (m + 1) m := by
  intro m
  induction m using Nat.strongRecOn with
  | ind m ih =>
    intro hm k hk
    obtain ⟨k, rfl⟩ : ∃ j, k = j + 1 := ⟨k - 1, by omega⟩
    unfold ev
    by_cases c : A 10 m = 7 ∨ A 10 m = 8
    · rw [if_pos c, if_pos c]
    · rw [if_neg c, if_neg c]
      refine vo_congr hr hm (fun z => c (Or.inl z)) (fun z => c (Or.inr z)) (fun i hi => ?_)
      have o := ha m i hm (fun z => c (Or.inl z)) hi
      try simp only
      cases hx : FF A (A 14 (6 * m + i)) with
      | inr v => rfl
      | inl f =>
        have hf := ((F_ok hr hg ha _ (by omega)).1 f hx).1
        try simp only
        rw [ih f (by omega) (by omega) k (by omega), ih f (by omega) (by omega) m (by omega)]
theorem lf_fuel (hr : WR A) (hg : WG A) (ha : AHD A) (p : Nat) : ∀ m, m < A 0 1 → ∀ k, m < k → (lf A (FF A) k m p ↔ lf A (FF A) (m + 1) m p) := by
  intro m
  induction m using Nat.strongRecOn with
  | ind m ih =>
    intro hm k hk
    obtain ⟨k, rfl⟩ : ∃ j, k = j + 1 := ⟨k - 1, by omega⟩
    unfold lf
    by_cases c : A 10 m = 7 ∨ A 10 m = 8
    · rw [if_pos c, if_pos c]
    · rw [if_neg c, if_neg c]
      refine exists_congr fun i => and_congr_right fun hi => ?_
      have o := ha m i hm (fun z => c (Or.inl z)) hi
      cases hx : FF A (A 14 (6 * m + i)) with
      | inr v => exact Iff.rfl
      | inl f =>
        have hf := ((F_ok hr hg ha _ (by omega)).1 f hx).1
        try simp only
        rw [ih f (by omega) (by omega) k (by omega), ih f (by omega) (by omega) m (by omega)]
theorem EV_phi {m : Nat} (c : A 10 m = 7 ∨ A 10 m = 8) : EV A ar V (.inl m) = V m := by
  show ev A ar (FF A) V (m + 1) m = _
  unfold ev
  rw [if_pos c]
theorem EV_op (hr : WR A) (hg : WG A) (ha : AHD A) {m : Nat} (hm : m < A 0 1) (c : ¬ (A 10 m = 7 ∨ A 10 m = 8)) : EV A ar V (.inl m) = vo A ar (fun q => EV A ar V (FF A q)) m := by
  show ev A ar (FF A) V (m + 1) m = _
  unfold ev
  rw [if_neg c]
  refine vo_congr hr hm (fun z => c (Or.inl z)) (fun z => c (Or.inr z)) (fun i hi => ?_)
  have o := ha m i hm (fun z => c (Or.inl z)) hi
  try simp only
  cases hx : FF A (A 14 (6 * m + i)) with
  | inr v => rfl
  | inl f =>
    have hf := ((F_ok hr hg ha _ (by omega)).1 f hx).1
    try simp only
    exact ev_fuel hr hg ha f (by omega) m (by omega)
theorem LF_phi {m p : Nat} (c : A 10 m = 7 ∨ A 10 m = 8) : LF A (.inl m) p ↔ p = m := by
  show lf A (FF A) (m + 1) m p ↔ _
  unfold lf
  rw [if_pos c]
theorem LF_op (hr : WR A) (hg : WG A) (ha : AHD A) {m p : Nat} (hm : m < A 0 1) (c : ¬ (A 10 m = 7 ∨ A 10 m = 8)) : LF A (.inl m) p ↔ ∃ i, i < A 12 m ∧ LF A (FF A (A 14 (6 * m + i))) p := by
  show lf A (FF A) (m + 1) m p ↔ _
  unfold lf
  rw [if_neg c]
  refine exists_congr fun i => and_congr_right fun hi => ?_
  have o := ha m i hm (fun z => c (Or.inl z)) hi
  cases hx : FF A (A 14 (6 * m + i)) with
  | inr v => exact Iff.rfl
  | inl f =>
    have hf := ((F_ok hr hg ha _ (by omega)).1 f hx).1
    try simp only
    exact lf_fuel hr hg ha p f (by omega) m (by omega)
theorem EV_agree (hr : WR A) (hg : WG A) (ha : AHD A) : ∀ m, m < A 0 1 → (∀ p, LF A (.inl m) p → V p = V' p) → EV A ar V (.inl m) = EV A ar V' (.inl m) := by
  intro m
  induction m using Nat.strongRecOn with
  | ind m ih =>
    intro hm h
    by_cases c : A 10 m = 7 ∨ A 10 m = 8
    · rw [EV_phi c, EV_phi c]
      exact h m ((LF_phi c).mpr rfl)
    · rw [EV_op hr hg ha hm c, EV_op hr hg ha hm c]
      refine vo_congr hr hm (fun z => c (Or.inl z)) (fun z => c (Or.inr z)) (fun i hi => ?_)
      have o := ha m i hm (fun z => c (Or.inl z)) hi
      try simp only
      cases hx : FF A (A 14 (6 * m + i)) with
      | inr v => rfl
      | inl f =>
        have hf := ((F_ok hr hg ha _ (by omega)).1 f hx).1
        exact ih f (by omega) (by omega) (fun p hp => h p ((LF_op hr hg ha hm c).mpr ⟨i, hi, by rw [hx]; exact hp⟩))
theorem EV_agreeF (hr : WR A) (hg : WG A) (ha : AHD A) {n : Nat} (hn : n < A 0 1) (h : ∀ p, LF A (FF A n) p → V p = V' p) : EV A ar V (FF A n) = EV A ar V' (FF A n) := by
  cases hx : FF A n with
  | inr v => rfl
  | inl f =>
    have hf := ((F_ok hr hg ha _ hn).1 f hx).1
    exact EV_agree hr hg ha f (by omega) (fun p hp => h p (by rw [hx]; exact hp))
theorem EV_legal (hr : WR A) (hg : WG A) (ha : AHD A) {n : Nat} (hn : n < A 0 1) (h : ∀ p, LF A (FF A n) p → LG (V p)) : LG (EV A ar V (FF A n)) := by
  cases hx : FF A n with
  | inr v => exact (F_ok hr hg ha _ hn).2 v hx
  | inl f =>
    have hf := ((F_ok hr hg ha _ hn).1 f hx).1
    by_cases c : A 10 f = 7 ∨ A 10 f = 8
    · rw [EV_phi c]
      exact h f (by rw [hx]; exact (LF_phi c).mpr rfl)
    · rw [EV_op hr hg ha (by omega) c]
      exact LG_vo hr (by omega)
/-- a form brings what the operands' forms bring -/
theorem F_sound (hr : WR A) (hg : WG A) (ha : AHD A) {n : Nat} (hn : n < A 0 1) (h7 : A 10 n ≠ 7) (h8 : A 10 n ≠ 8) (hl : ∀ i, i < A 12 n → ∀ p, LF A (FF A (A 14 (6 * n + i))) p → LG (V p)) : vo A ar (fun q => EV A ar V (FF A q)) n = EV A ar V (FF A n) := by
  obtain ⟨k8, -, -, -, -, q5, q6, -, -, -, q10⟩ := hr.2.2.2 n hn
  have hL : ∀ i, i < A 12 n → LG (EV A ar V (FF A (A 14 (6 * n + i)))) := fun i hi => EV_legal hr hg ha (q10 i hi) (hl i hi)
  have vo2 : ∀ m, m < A 0 1 → FPr A m → ∀ W, vo A ar W m = br (A 10 m) (W (A 14 (6 * m))) (W (A 14 (6 * m + 1))) := by
    intro m _ hp W
    unfold vo
    rw [if_neg (by have := hp.1; omega), if_neg (by have := hp.1; omega), if_neg hp.2.2]
  rcases F_cases hr hg ha hn with ⟨c, h⟩ | ⟨c0, c8, c7, f, h, hE⟩ | ⟨c, h⟩ | ⟨c, u, hu, h⟩ | ⟨c, m, h1, h2, h⟩ | ⟨c, -⟩ | ⟨hp, u, v, hu, hv, h⟩ | ⟨hp, hv, h⟩ | ⟨hp, hv, h⟩ | ⟨hp, hv, h⟩
  · rw [h]
    unfold vo
    rw [if_pos c]
    rfl
  · obtain ⟨e1, e2, e3, e4, e5, e6⟩ := hE
    have hf : f < A 0 1 := by omega
    rw [h, EV_op hr hg ha hf (by omega)]
    by_cases c1 : A 10 n = 1
    · unfold vo
      rw [if_neg c0, if_pos c1, if_neg (by omega), if_pos (by omega), e4 c1]
    · by_cases c4 : A 10 n = 4
      · have a1 := q5 c4
        unfold vo
        rw [if_neg c0, if_neg c1, if_pos c4, if_neg (by omega), if_neg (by omega), if_pos (by omega), e2]
        rcases e6 c1 with z | z
        · have := z 0 (by omega)
          rw [show 6 * n + 0 = 6 * n from rfl, show 6 * f + 0 = 6 * f from rfl] at this
          try simp only
          rw [this]
        · omega
      · have hp : FPr A n := ⟨by omega, by omega, c4⟩
        have a2 := q6 hp.1 hp.2.1 hp.2.2
        rw [vo2 n hn hp, vo2 f hf ⟨by omega, by omega, by omega⟩, e2]
        rcases e6 c1 with z | ⟨z1, z2, z3⟩
        · have z0 := z 0 (by omega)
          rw [show 6 * n + 0 = 6 * n from rfl, show 6 * f + 0 = 6 * f from rfl] at z0
          rw [z0, z 1 (by omega)]
        · rw [z2, z3, br_comm z1]
  · rcases c with c | c
    · exact absurd c h8
    · exact absurd c.1 h7
  · rw [h]
    unfold vo
    rw [if_neg (by omega), if_neg (by omega), if_pos c, c]
    try simp only
    rw [hu]
    rfl
  · have a1 := q5 c
    have o0 := q10 0 (by omega)
    rw [show 6 * n + 0 = 6 * n from rfl] at o0
    have o0n : A 14 (6 * n) < n := ha n 0 hn h7 (by omega)
    have hm := ((F_ok hr hg ha _ o0).1 m h1).1
    have hm2 : m < A 0 1 := by omega
    have am := (hr.2.2.2 m hm2).2.2.2.2.2.1 h2
    have o1 : A 14 (6 * m) < m := ha m 0 hm2 (by omega) (by omega)
    rw [FF_lt (by omega) (by omega)] at h
    have hlm : LG (EV A ar V (FF A (A 14 (6 * m)))) := EV_legal hr hg ha (by omega) (fun p hp => hl 0 (by omega) p (by
      rw [show 6 * n + 0 = 6 * n from rfl, h1]
      exact (LF_op hr hg ha hm2 (by omega)).mpr ⟨0, by omega, hp⟩))
    rw [h]
    have e1 : EV A ar V (FF A (A 14 (6 * n))) = br 4 (EV A ar V (FF A (A 14 (6 * m)))) (lN 0) := by
      rw [h1, EV_op hr hg ha hm2 (by omega)]
      unfold vo
      rw [if_neg (by omega), if_neg (by omega), if_pos h2, h2]
    unfold vo
    rw [if_neg (by omega), if_neg (by omega), if_pos c, c]
    try simp only
    rw [e1, br_44 hlm]
  · exact absurd c h7
  · rw [vo2 n hn hp, h]
    try simp only
    rw [hu, hv]
    rfl
  · rw [vo2 n hn hp, h]
    try simp only
    rcases hv with hv | hv
    · rw [hv]; exact br_V1 _ _
    · rw [hv]; exact br_V2 _ _
  · have a2 := q6 hp.1 hp.2.1 hp.2.2
    have l1 := hL 1 (by omega)
    rw [vo2 n hn hp, h]
    try simp only
    rcases hv with ⟨hk, hv⟩ | ⟨hk, hv⟩
    · rw [hv, hk]; exact br_20 l1
    · rw [hv, hk]; exact br_30 l1
  · have a2 := q6 hp.1 hp.2.1 hp.2.2
    have l0 := hL 0 (by omega)
    rw [vo2 n hn hp, h]
    try simp only
    rcases hv with ⟨hk, hv⟩ | ⟨hk, hv⟩ | ⟨hk, hv⟩
    · rw [hv, hk]; exact br_21 l0
    · rw [hv, hk]; exact br_31 l0
    · rw [hv, hk]; exact br_61 l0
end FO1
