/-! WHAT IS SWEPT: runs tell the same; what is set, altered -/
section SWP
variable {A : Nat → Nat → Nat} {V : Nat → Int64} {ar : Nat → Int32}
theorem itN_fix (hr : WR A) (S : Nat → Bool) : mkN A (A 0 1) (itN A 20 S) = itN A 20 S := by
  have r2 := hr.2.1
  have key : ∀ k, (∃ j, j ≤ k ∧ itN A (j + 1) S = itN A j S) ∨ k + 1 ≤ cn (itN A (k + 1) S) (A 0 1) := by
    intro k
    induction k with
    | zero =>
      by_cases e : itN A 1 S = itN A 0 S
      · exact Or.inl ⟨0, Nat.le_refl _, e⟩
      · right
        have : ∃ q, itN A 1 S q ≠ itN A 0 S q := Classical.byContradiction fun z => e (funext fun q => Classical.byContradiction fun y => z ⟨q, y⟩)
        obtain ⟨q, hq⟩ := this
        have hf : itN A 0 S q = false := by
          cases hz : itN A 0 S q with
          | false => rfl
          | true => exact absurd ((mkN_up (A 0 1) _ q hz).trans hz.symm) hq
        have ht : itN A 1 S q = true := by
          cases hz : itN A 1 S q with
          | true => rfl
          | false => exact absurd (hz.trans hf.symm) hq
        rcases mkN_in hr _ q _ (Nat.le_refl _) ht with z | z
        · have z2 : itN A 0 S q = true := z
          rw [hf] at z2
          cases z2
        · exact cn_pos z ht
    | succ k ih =>
      rcases ih with ⟨j, hj, e⟩ | ih
      · exact Or.inl ⟨j, by omega, e⟩
      · by_cases e : itN A (k + 1 + 1) S = itN A (k + 1) S
        · exact Or.inl ⟨k + 1, Nat.le_refl _, e⟩
        · right
          have : ∃ q, itN A (k + 1 + 1) S q ≠ itN A (k + 1) S q := Classical.byContradiction fun z => e (funext fun q => Classical.byContradiction fun y => z ⟨q, y⟩)
          obtain ⟨q, hq⟩ := this
          have hf : itN A (k + 1) S q = false := by
            cases hz : itN A (k + 1) S q with
            | false => rfl
            | true => exact absurd ((mkN_up (A 0 1) _ q hz).trans hz.symm) hq
          have ht : itN A (k + 1 + 1) S q = true := by
            cases hz : itN A (k + 1 + 1) S q with
            | true => rfl
            | false => exact absurd (hz.trans hf.symm) hq
          rcases mkN_in hr _ q _ (Nat.le_refl _) ht with z | z
          · have z2 : itN A (k + 1) S q = true := z
            rw [hf] at z2
            cases z2
          · have := cn_lt (f := itN A (k + 1) S) (g := itN A (k + 1 + 1) S) (A 0 1) (fun i _ hi => mkN_up (A 0 1) _ i hi) ⟨q, z, hf, ht⟩
            omega
  have st : ∃ j, j ≤ A 0 1 ∧ itN A (j + 1) S = itN A j S := by
    rcases Nat.eq_zero_or_pos (A 0 1) with z | z
    · refine ⟨0, by omega, ?_⟩
      show mkN A (A 0 1) S = S
      rw [z]
      rfl
    · rcases key (A 0 1 - 1) with ⟨j, hj, e⟩ | h
      · exact ⟨j, by omega, e⟩
      · have e2 : A 0 1 - 1 + 1 = A 0 1 := by omega
        rw [e2] at h
        have full := cn_full (f := itN A (A 0 1) S) (A 0 1) (by have := cn_le (itN A (A 0 1) S) (A 0 1); omega)
        refine ⟨A 0 1, Nat.le_refl _, funext fun q => ?_⟩
        show mkN A (A 0 1) (itN A (A 0 1) S) q = itN A (A 0 1) S q
        cases hz : itN A (A 0 1) S q with
        | true => exact mkN_up _ _ _ hz
        | false =>
          cases hw : mkN A (A 0 1) (itN A (A 0 1) S) q with
          | false => rfl
          | true =>
            rcases mkN_in hr _ q _ (Nat.le_refl _) hw with y | y
            · rw [hz] at y; cases y
            · rw [full q y] at hz; cases hz
  obtain ⟨j, hj, e⟩ := st
  have s1 := itN_stable S e (20 - j)
  have s2 := itN_stable S e (21 - j)
  rw [show j + (20 - j) = 20 by omega] at s1
  rw [show j + (21 - j) = 21 by omega] at s2
  show itN A 21 S = itN A 20 S
  rw [s1, s2]
theorem itN_up (S : Nat → Bool) {q : Nat} (h : S q = true) : ∀ k, itN A k S q = true := by
  intro k
  induction k with
  | zero => exact h
  | succ k ih => exact mkN_up _ _ _ ih
theorem mkN_op {S : Nat → Bool} (hf : mkN A (A 0 1) S = S) {n q : Nat} (hn : n < A 0 1) (h : S n = true) (hq : opn A n q = true) : S q = true := by
  have key : ∀ k, n < k → mkN A k S q = true := by
    intro k
    induction k with
    | zero => intro h; exact absurd h (Nat.not_lt_zero n)
    | succ k ih =>
      intro hk
      show (mkN A k S q || (mkN A k S k && opn A k q)) = true
      rcases Nat.lt_or_ge n k with c | c
      · rw [ih c, Bool.true_or]
      · have e : n = k := by omega
        subst e
        rw [mkN_up _ _ _ h, hq, Bool.true_and, Bool.or_true]
  rw [← hf]
  exact key _ hn
theorem need_op (hr : WR A) {n i : Nat} (hn : n < A 0 1) (hi : i < A 12 n) (h : need A n = true) : need A (A 14 (6 * n + i)) = true :=
  mkN_op (itN_fix hr _) hn h ((ay_iff _ _).mpr ⟨i, hi, decide_eq_true rfl⟩)
theorem need_as {b : Nat} (hb : b < A 0 0) (h : A 3 b ≠ 0) : need A (A 6 b) = true := by
  have h0 : nd0 A (A 0 0) (A 6 b) = true := (ay_iff _ _).mpr ⟨b, hb, decide_eq_true ⟨h, rfl⟩⟩
  exact itN_up (nd0 A (A 0 0)) h0 20
theorem swA_10 {n : Nat} (hn : n < A 0 1) : swA A 10 n = if need A n = false then 8 else A 10 n := by
  show sw2 A (need A) (A 0 1) 10 n = _
  rw [sw_10]
  by_cases c : need A n = false
  · rw [if_pos c, if_pos ⟨hn, c⟩]
  · rw [if_neg c, if_neg (fun z => c z.2)]
theorem swA_12 {n : Nat} (hn : n < A 0 1) : swA A 12 n = if need A n = false then 0 else A 12 n := by
  show sw2 A (need A) (A 0 1) 12 n = _
  rw [sw_12]
  by_cases c : need A n = false
  · rw [if_pos c, if_pos ⟨hn, c⟩]
  · rw [if_neg c, if_neg (fun z => c z.2)]
theorem swA_k {n : Nat} (hn : n < A 0 1) (h : swA A 10 n ≠ 8) : need A n = true ∧ swA A 10 n = A 10 n ∧ swA A 12 n = A 12 n := by
  rw [swA_10 hn] at h
  cases c : need A n with
  | false => rw [if_pos c] at h; exact absurd rfl h
  | true => exact ⟨rfl, by rw [swA_10 hn, if_neg (by rw [c]; decide)], by rw [swA_12 hn, if_neg (by rw [c]; decide)]⟩
theorem swA_n {n : Nat} (hn : n < A 0 1) (h : need A n = true) : swA A 10 n = A 10 n ∧ swA A 12 n = A 12 n := ⟨by rw [swA_10 hn, if_neg (by rw [h]; decide)], by rw [swA_12 hn, if_neg (by rw [h]; decide)]⟩
theorem swA_o {f : Nat} (h1 : f ≠ 10) (h2 : f ≠ 12) : swA A f = A f := funext fun _ => sw_o h1 h2
theorem ZP_sw (o : OZ A) : ZP (swA A) := by
  obtain ⟨⟨-, hr, hg, -, -⟩, z1, z2, z3, z4, z5, z6, z7⟩ := o
  have e0 := swA_o (A := A) (f := 0) (by omega) (by omega)
  have e8 := swA_o (A := A) (f := 8) (by omega) (by omega)
  have e9 := swA_o (A := A) (f := 9) (by omega) (by omega)
  have e11 := swA_o (A := A) (f := 11) (by omega) (by omega)
  unfold ZP
  rw [e0, swA_o (A := A) (f := 1) (by omega) (by omega), swA_o (A := A) (f := 2) (by omega) (by omega), swA_o (A := A) (f := 3) (by omega) (by omega), e9, e11, swA_o (A := A) (f := 14) (by omega) (by omega), swA_o (A := A) (f := 6) (by omega) (by omega)]
  have nd : ∀ n, n < A 0 1 → ∀ i, i < swA A 12 n → need A n = true := by
    intro n hn i hi
    cases c : need A n with
    | true => rfl
    | false => rw [swA_12 hn, if_pos c] at hi; exact absurd hi (Nat.not_lt_zero i)
  refine ⟨z1, fun n i hn hi => ?_, fun b hb h => ?_, fun n m hn hm h1 h2 h3 => ?_, z5, z6, fun n hn => ?_⟩
  · have hnd := nd n hn i hi
    obtain ⟨k1, k2⟩ := swA_n hn hnd
    rw [k2] at hi
    have hq := (hr.2.2.2 n hn).2.2.2.2.2.2.2.2.2.2 i hi
    obtain ⟨s1, s2⟩ := z2 n i hn hi
    rw [so_of e8 e9 e11 k1, (swA_n hq (need_op hr hn hi hnd)).1]
    exact ⟨s1, s2⟩
  · have hq := (hr.2.2.1 b hb).2.2.2.2.1 h
    obtain ⟨s1, s2⟩ := z3 b hb h
    have es : se (swA A) (A 6 b) b = se A (A 6 b) b := by
      unfold se
      rw [e9, e11]
    rw [es, (swA_n hq (need_as hb h)).1]
    exact ⟨s1, s2⟩
  · obtain ⟨-, k2, -⟩ := swA_k hm (by rw [h3]; decide)
    have := z4 n m hn hm h1 h2 (by omega)
    rw [swA_10 hn]
    split
    · exact Or.inr rfl
    · exact this
  · rw [swA_12 hn]
    split
    · omega
    · exact z7 n hn
theorem OZ_sw (o : OZ A) : OZ (swA A) := ⟨OA_sw o.1, ZP_sw o⟩
def SWR (A : Nat → Nat → Nat) (V W : Nat → Int64) : Prop := ∀ n, n < A 0 1 → (swA A 10 n ≠ 8 → W n = V n) ∧ (swA A 10 n = 8 → W n = NOT)
theorem vo_sw (o : OZ A) {V W : Nat → Int64} (h : SWR A V W) {n : Nat} (hn : n < A 0 1) (h7 : swA A 10 n ≠ 7) (h8 : swA A 10 n ≠ 8) : vo (swA A) ar W n = vo A ar V n := by
  obtain ⟨⟨-, hr, hg, -, -⟩, hz⟩ := o
  obtain ⟨k1, k2, k3⟩ := swA_k hn h8
  have e : vo (swA A) ar W n = vo A ar W n := by
    unfold vo
    rw [k2, swA_o (A := A) (f := 13) (by omega) (by omega), swA_o (A := A) (f := 14) (by omega) (by omega)]
  rw [e]
  refine vo_congr hr hn (by rw [← k2]; exact h7) (by rw [← k2]; exact h8) (fun i hi => ?_)
  have hq := (hr.2.2.2 n hn).2.2.2.2.2.2.2.2.2.2 i hi
  refine (h _ hq).1 ?_
  rw [(swA_n hq (need_op hr hn hi k1)).1]
  exact (hz.2.1 n i hn hi).2
theorem p1V_sw (o : OZ A) {V W : Nat → Int64} {b r : Nat} (hb : b < A 0 0) (hrr : b = 0 ∨ r < A 7 b) (h : SWR A V W) : SWR A (p1V A r (A 1 b) (A 1 b + A 2 b) V) (p1V (swA A) r (A 1 b) (A 1 b + A 2 b) W) := by
  obtain ⟨⟨-, hr, hg, hh, -⟩, hz⟩ := o
  intro n hn
  unfold p1V
  refine ⟨fun c => ?_, fun c => ?_⟩
  · obtain ⟨k1, k2, k3⟩ := swA_k hn c
    rw [k2, swA_o (A := A) (f := 14) (by omega) (by omega)]
    by_cases d : A 1 b ≤ n ∧ n < A 1 b + A 2 b ∧ A 10 n = 7
    · rw [if_pos d, if_pos d]
      have hnb := hh b n hb d.1 d.2.1
      have a7 := (hr.2.2.2 n hn).2.2.2.2.2.2.2.1 d.2.2
      have hr12 : r < A 12 n := by
        rw [a7, hnb]
        rcases hrr with z | z
        · have := hg.2.2.2.1 n hn d.2.2
          rw [a7, hnb, z, hg.2.2.2.2.1 (by omega)] at this
          omega
        · exact z
      have hq := (hr.2.2.2 n hn).2.2.2.2.2.2.2.2.2.2 r hr12
      refine (h _ hq).1 ?_
      rw [(swA_n hq (need_op hr hn hr12 k1)).1]
      exact (hz.2.1 n r hn hr12).2
    · rw [if_neg d, if_neg d]
      exact (h n hn).1 c
  · rw [if_neg (fun z => by omega)]
    exact (h n hn).2 c
theorem pa_sw (o : OZ A) {b r : Nat} (hb : b < A 0 0) (hrr : b = 0 ∨ r < A 7 b) (s s' : RS) (h : SWR A s.1 s'.1) : SWR A (pa A ar none r b s).1 (pa (swA A) ar none r b s').1 := by
  have o' := o
  obtain ⟨⟨-, hr, hg, hh, -⟩, hz⟩ := o
  unfold pa
  rw [swA_o (A := A) (f := 1) (by omega) (by omega), swA_o (A := A) (f := 2) (by omega) (by omega)]
  have h1 : SWR A (p1 A none r (A 1 b) (A 2 b) s).1 (p1 (swA A) none r (A 1 b) (A 2 b) s').1 := p1V_sw o' hb hrr h
  generalize p1 A none r (A 1 b) (A 2 b) s = q at h1 ⊢
  generalize p1 (swA A) none r (A 1 b) (A 2 b) s' = q' at h1 ⊢
  have key : ∀ j, j ≤ A 2 b → SWR A (ps A ar none (A 1 b) j q).1 (ps (swA A) ar none (A 1 b) j q').1 := by
    intro j
    induction j with
    | zero => intro _; exact h1
    | succ j ih =>
      intro hj
      have i1 := ih (by omega)
      have hbn := (hr.2.2.1 b hb).1
      have hn : A 1 b + j < A 0 1 := by omega
      unfold ps
      by_cases c8 : swA A 10 (A 1 b + j) = 8
      · rw [if_pos (Or.inr c8)]
        by_cases d : A 10 (A 1 b + j) = 7 ∨ A 10 (A 1 b + j) = 8
        · rw [if_pos d]; exact i1
        · rw [if_neg d]
          intro m hm
          refine ⟨fun z => ?_, (i1 m hm).2⟩
          show _ = (if m = A 1 b + j then _ else (ps A ar none (A 1 b) j q).1 m)
          rw [if_neg (fun e => z (by rw [e]; exact c8))]
          exact (i1 m hm).1 z
      · obtain ⟨k1, k2, k3⟩ := swA_k hn c8
        by_cases d : A 10 (A 1 b + j) = 7 ∨ A 10 (A 1 b + j) = 8
        · rw [if_pos d, if_pos (by rw [k2]; exact d)]; exact i1
        · rw [if_neg d, if_neg (by rw [k2]; exact d)]
          intro m hm
          show (_ → (if m = A 1 b + j then _ else (ps (swA A) ar none (A 1 b) j q').1 m) = (if m = A 1 b + j then _ else (ps A ar none (A 1 b) j q).1 m)) ∧ (_ → (if m = A 1 b + j then _ else (ps (swA A) ar none (A 1 b) j q').1 m) = NOT)
          by_cases e : m = A 1 b + j
          · rw [if_pos e, if_pos e]
            refine ⟨fun _ => vo_sw o' i1 hn (by rw [k2]; exact fun z => d (Or.inl z)) c8, fun z => absurd (e ▸ z) c8⟩
          · rw [if_neg e, if_neg e]
            exact i1 m hm
  exact key _ (Nat.le_refl _)
theorem RN_sw (o : OZ A) : ∀ u r b s s' t, b < A 0 0 → (b = 0 ∨ r < A 7 b) → SWR A s.1 s'.1 → (rn (swA A) ar none u r b s' t).2 = (rn A ar none u r b s t).2 ∧ SWR A (rn A ar none u r b s t).1.1 (rn (swA A) ar none u r b s' t).1.1 := by
  have o' := o
  obtain ⟨⟨-, hr, hg, hh, -⟩, hz⟩ := o
  have e3 := swA_o (A := A) (f := 3) (by omega) (by omega)
  have e6 := swA_o (A := A) (f := 6) (by omega) (by omega)
  intro u
  induction u with
  | zero => intro r b s s' t _ _ h; exact ⟨rfl, h⟩
  | succ u ih =>
    intro r b s s' t hb hrr h
    have k1 := pa_sw (ar := ar) o' hb hrr s s' h
    have ask : A 3 b ≠ 0 → (pa (swA A) ar none r b s').1 (A 6 b) = (pa A ar none r b s).1 (A 6 b) := by
      intro hx
      have hq := (hr.2.2.1 b hb).2.2.2.2.1 hx
      refine (k1 _ hq).1 ?_
      rw [(swA_n hq (need_as hb hx)).1]
      exact (hz.2.2.1 b hb hx).2
    unfold rn
    rw [e3, e6]
    by_cases c : A 3 b = 2
    · rw [if_pos c, if_pos c, ask (by omega)]
      exact ⟨rfl, k1⟩
    · rw [if_neg c, if_neg c]
      have en : nx (swA A) (pa (swA A) ar none r b s').1 b = nx A (pa A ar none r b s).1 b := by
        unfold nx
        rw [e3, e6, swA_o (A := A) (f := 4) (by omega) (by omega), swA_o (A := A) (f := 5) (by omega) (by omega)]
        by_cases c0 : A 3 b = 0
        · rw [if_pos c0, if_pos c0]
        · rw [if_neg c0, if_neg c0, ask c0]
      have et : ∀ c d, rt (swA A) c d = rt A c d := by
        intro c d
        unfold rt
        rw [swA_o (A := A) (f := 7) (by omega) (by omega), swA_o (A := A) (f := 8) (by omega) (by omega)]
      rw [en, et]
      have he := ny_ed (V := (pa A ar none r b s).1) hr hb c
      have hl := ed_lt hr he
      exact ih _ _ _ _ _ hl (Or.inr (rt_ok hg hl he).1) k1
/-- what is swept changes nothing that runs tell, nor values of names that aren't gone -/
theorem run0_sw (o : OZ A) (D D' : Int32) : (run0 (swA A) ar none D').2 = (run0 A ar none D).2 ∧ SWR A (run0 A ar none D).1.1 (run0 (swA A) ar none D').1.1 := by
  have h0 : SWR A V0 V0 := fun _ _ => ⟨fun _ => rfl, fun _ => rfl⟩
  unfold run0
  rw [show (swA A) 0 0 = A 0 0 from sw_0]
  by_cases c : A 0 0 = 0
  · rw [if_pos c, if_pos c]; exact ⟨rfl, h0⟩
  · rw [if_neg c, if_neg c]
    exact RN_sw o 200 0 0 _ _ 0 (by omega) (Or.inl rfl) h0
/-- what is swept once is swept -/
theorem need_sw (o : OZ A) {n : Nat} (hn : n < A 0 1) (h : swA A 10 n ≠ 8) : need (swA A) n = true := by
  obtain ⟨⟨-, hr, hg, hh, -⟩, hz⟩ := o
  have hr2 := sw_WR (S := need A) (j := A 0 1) hr
  have k1 := (swA_k hn h).1
  have e0 : (swA A) 0 = A 0 := swA_o (by omega) (by omega)
  have key : ∀ m, itN A m (nd0 A (A 0 0)) n = true → need (swA A) n = true := by
    intro m
    have gen : ∀ m q, q < A 0 1 → itN A m (nd0 A (A 0 0)) q = true → need (swA A) q = true := by
      intro m
      induction m with
      | zero =>
        intro q hq h
        obtain ⟨b, hb, hc⟩ := (ay_iff _ _).mp h
        rw [decide_eq_true_eq] at hc
        have := need_as (A := swA A) (b := b) (by rw [e0]; exact hb) (by rw [swA_o (by omega) (by omega)]; exact hc.1)
        rw [swA_o (A := A) (f := 6) (by omega) (by omega), hc.2] at this
        exact this
      | succ m ih =>
        have inner : ∀ k, k ≤ A 0 1 → ∀ q, q < A 0 1 → mkN A k (itN A m (nd0 A (A 0 0))) q = true → need (swA A) q = true := by
          intro k
          induction k with
          | zero => intro _ q hq h; exact ih q hq h
          | succ k ihk =>
            intro hk q hq h
            have h : (mkN A k (itN A m (nd0 A (A 0 0))) q || (mkN A k (itN A m (nd0 A (A 0 0))) k && opn A k q)) = true := h
            rw [Bool.or_eq_true, Bool.and_eq_true] at h
            rcases h with h | ⟨h1, h2⟩
            · exact ihk (by omega) q hq h
            · have hkN : k < A 0 1 := by omega
              have s1 := ihk (by omega) k hkN h1
              obtain ⟨i, hi, e⟩ := (ay_iff _ _).mp h2
              rw [decide_eq_true_eq] at e
              -- k itself is needed in A
              have nk : need A k = true := by
                have gm : ∀ m' q', itN A m' (nd0 A (A 0 0)) q' = true → need A q' = true := by
                  intro m'
                  induction m' with
                  | zero => intro q' h'; exact itN_up _ h' 20
                  | succ m' ih' =>
                    intro q' h'
                    have up : ∀ k', k' ≤ A 0 1 → ∀ q', mkN A k' (itN A m' (nd0 A (A 0 0))) q' = true → need A q' = true := by
                      intro k'
                      induction k' with
                      | zero => intro _ q' h'; exact ih' q' h'
                      | succ k' ihk' =>
                        intro hk' q' h'
                        have h' : (mkN A k' (itN A m' (nd0 A (A 0 0))) q' || (mkN A k' (itN A m' (nd0 A (A 0 0))) k' && opn A k' q')) = true := h'
                        rw [Bool.or_eq_true, Bool.and_eq_true] at h'
                        rcases h' with h' | ⟨h1', h2'⟩
                        · exact ihk' (by omega) q' h'
                        · exact mkN_op (itN_fix hr _) (by omega) (ihk' (by omega) k' h1') h2'
                    exact up _ (Nat.le_refl _) q' h'
                have up : ∀ k', k' ≤ A 0 1 → ∀ q', mkN A k' (itN A m (nd0 A (A 0 0))) q' = true → need A q' = true := by
                  intro k'
                  induction k' with
                  | zero => intro _ q' h'; exact gm m q' h'
                  | succ k' ihk' =>
                    intro hk' q' h'
                    have h' : (mkN A k' (itN A m (nd0 A (A 0 0))) q' || (mkN A k' (itN A m (nd0 A (A 0 0))) k' && opn A k' q')) = true := h'
                    rw [Bool.or_eq_true, Bool.and_eq_true] at h'
                    rcases h' with h' | ⟨h1', h2'⟩
                    · exact ihk' (by omega) q' h'
                    · exact mkN_op (itN_fix hr _) (by omega) (ihk' (by omega) k' h1') h2'
                exact up k (by omega) k h1
              have e12 := (swA_n hkN nk).2
              have := need_op hr2 (n := k) (i := i) (by show k < swA A 0 1; rw [e0]; exact hkN) (by show i < swA A 12 k; rw [e12]; exact hi) s1
              have e14 : sw2 A (need A) (A 0 1) 14 (6 * k + i) = A 14 (6 * k + i) := sw_14
              rw [e14, e] at this
              exact this
        intro q hq h
        exact inner _ (Nat.le_refl _) q hq h
    exact gen m n hn
  exact key 20 k1
theorem swn_zero (o : OZ A) : swn (swA A) (swA A 0 1) = 0 := by
  have e0 : (swA A) 0 = A 0 := swA_o (by omega) (by omega)
  unfold swn
  rw [e0]
  refine cn_zero _ (fun n hn => ?_)
  by_cases c : swA A 10 n = 8
  · rw [c]; simp
  · rw [need_sw o hn c]; rfl
theorem ZP_alter (hz : ZP A) {n v : Nat} : ZP (u1 A 13 n v) := by
  have e : ∀ f, f ≠ 13 → u1 A 13 n v f = A f := fun f hf => funext fun k => if_neg (fun z => hf z.1)
  obtain ⟨z1, z2, z3, z4, z5, z6, z7⟩ := hz
  have e8 := e 8 (by omega)
  have e9 := e 9 (by omega)
  have e11 := e 11 (by omega)
  unfold ZP
  rw [e 0 (by omega), e 1 (by omega), e 2 (by omega), e 3 (by omega), e 6 (by omega), e9, e 10 (by omega), e11, e 12 (by omega), e 14 (by omega)]
  refine ⟨z1, fun m i hm hi => ?_, fun b hb h => ?_, z4, z5, z6, z7⟩
  · rw [so_of e8 e9 e11 (congrFun (e 10 (by omega)) m)]
    exact z2 m i hm hi
  · have es : se (u1 A 13 n v) (A 6 b) b = se A (A 6 b) b := by
      unfold se
      rw [e9, e11]
    rw [es]
    exact z3 b hb h
theorem ZP_set (hr : WR A) (hz : ZP A) {n i m : Nat} (hi6 : i < 6) (h : so A m n i = true) (h8 : A 10 m ≠ 8) : ZP (u1 A 14 (6 * n + i) m) := by
  have e : ∀ f, f ≠ 14 → u1 A 14 (6 * n + i) m f = A f := fun f hf => funext fun k => if_neg (fun z => hf z.1)
  obtain ⟨z1, z2, z3, z4, z5, z6, z7⟩ := hz
  have e8 := e 8 (by omega)
  have e9 := e 9 (by omega)
  have e11 := e 11 (by omega)
  unfold ZP
  rw [e 0 (by omega), e 1 (by omega), e 2 (by omega), e 3 (by omega), e 6 (by omega), e9, e 10 (by omega), e11, e 12 (by omega)]
  refine ⟨z1, fun n' i' hm hi => ?_, fun b hb h => ?_, z4, z5, z6, z7⟩
  · have h6 := (hr.2.2.2 n' hm).2.2.1
    rw [so_of e8 e9 e11 (congrFun (e 10 (by omega)) n')]
    by_cases c : 6 * n' + i' = 6 * n + i
    · have e14 : u1 A 14 (6 * n + i) m 14 (6 * n' + i') = m := if_pos ⟨rfl, c⟩
      have en : n' = n := by omega
      have ei : i' = i := by omega
      subst en
      subst ei
      rw [e14]
      exact ⟨h, h8⟩
    · have e14 : u1 A 14 (6 * n + i) m 14 (6 * n' + i') = A 14 (6 * n' + i') := if_neg (fun z => c z.2)
      rw [e14]
      exact z2 n' i' hm hi
  · have es : se (u1 A 14 (6 * n + i) m) (A 6 b) b = se A (A 6 b) b := by
      unfold se
      rw [e9, e11]
    rw [es]
    exact z3 b hb h
end SWP
