/-! THE LAW'S PROGRAM: its ends, and that it is one -/
section PEN
variable {xs : List Int32} {Q : Option Value → ab_H → Prop} {I0 I I' : Nat → Nat → Int32} {J : Nat → Nat → Int64} {sh nb N n : Nat} {q : Nat → Nat} {fi : Nat → Bool}
def P3 (sh N : Nat) (q : Nat → Nat) (fi : Nat → Bool) (b : Nat) (I : Nat → Nat → Int32) : Prop := P2 sh N q fi N I ∧ ∀ c, c < b → ∃ t, t < N ∧ I 204 c = nI t ∧ (shT sh c 4).testBit (q t) = true
theorem P2_up4 {k : Nat} {v : Int32} (h : P2 sh N q fi n I) : P2 sh N q fi n (ab_up I 204 k v) := by
  obtain ⟨a, b, c, d⟩ := h
  refine ⟨PS_up (by decide) a, ?_, ?_, fun m hm => ?_⟩
  · rw [kI_up (by decide)]; exact b
  · rw [kI_up (by decide)]; exact c
  · unfold NM
    rw [kI_up (by decide), ab_up_other _ _ _ (by decide), ab_up_other _ _ _ (by decide)]
    exact d m hm
theorem y_p3 (hx : xs.length ≤ 260) (hs : sh < 4) (hN : N ≤ 20) (hnb : nb ≤ 6) (he : ∀ b, b < nb → ∃ m, m < N ∧ (shT sh b 4).testBit (q m) = true) (w12 w13 w14 w15 : Option Value)
    (K : ∀ I', P3 sh N q fi nb I' → FA I0 I' → Gy xs (ab_at 145 454) 145 454 [some (.ref 0), some (.ref 2000), some (.int (nI 0)), some (.ref 199), some (.ref 200), some (.ref 201), some (.ref 202), some (.ref 203), some (.ref 204), some (.ref 208), some (.int (nI nb)), some (.int (nI nb)), w12, w13, w14, w15] [] (SH ++ yE, I', J) Q) :
    ∀ d b I, b + d = nb → P3 sh N q fi b I → FA I0 I → Gy xs (ab_at 145 417) 145 417 [some (.ref 0), some (.ref 2000), some (.int (nI 0)), some (.ref 199), some (.ref 200), some (.ref 201), some (.ref 202), some (.ref 203), some (.ref 204), some (.ref 208), some (.int (nI nb)), some (.int (nI b)), w12, w13, w14, w15] [] (SH ++ yE, I, J) Q := by
  intro d
  induction d with
  | zero =>
    intro b I hd h f
    have e : b = nb := by omega
    subst e
    rw [at_145_417]
    simp (disch := first | omega | assumption | exact yrt_145 | fail) only [yrt_145, ab_kl_n, ab_kl_i, ab_kl_r, ab_kl_l, Gy_iload_11, at_145_419, Gy_iload_10, jy_145_421, q_le, q_lt, q_eq, n_leT, n_leF, n_ltT, n_ltF, n_eqF, n_b0, Nat.reduceAdd, Nat.reduceMul, Nat.reduceLeDiff, Nat.reduceSub, decide_true, decide_false, Bool.toNat_true, Bool.toNat_false, not_true_eq_false, not_false_eq_true, ite_not, true_and, and_true, if_true, if_false, ↓reduceIte, Bool.or_true, Bool.true_or, Bool.or_false, ry_199 yE_ok, ny_199 yE_ok, ry_200 yE_ok, ny_200 yE_ok, ry_201 yE_ok, ny_201 yE_ok, ry_202 yE_ok, ny_202 yE_ok, ry_203 yE_ok, ny_203 yE_ok, ry_204 yE_ok, ny_204 yE_ok, up_r, Nat.reduceEqDiff, false_and, and_false]
    exact K I h f
  | succ d ih =>
    intro b I hd h f
    have ps := h.1.1
    rw [at_145_417]
    simp (disch := first | omega | assumption | exact yrt_145 | exact y_ok yE_ok (by decide) | fail) only [yrt_145, ab_kl_n, ab_kl_i, ab_kl_r, ab_kl_l, Gy_iload_11, at_145_419, Gy_iload_10, jy_145_421, q_le, q_lt, q_eq, n_leT, n_leF, n_ltT, n_ltF, n_eqF, n_b0, at_145_424, Gy_aload_8, at_145_426, at_145_428, Gy_aload_3, at_145_429, Gy_aload_5, at_145_431, at_145_433, Gy_aload_1, at_145_434, Gy_iload_2, at_145_435, Gy_bipush, kb_27, at_145_437, Gy_iadd, q_add, Nat.zero_add, at_145_438, at_145_440, at_145_441, cy_73, cat_n, cat_i, cat_r, cat_l, tl_i, tl_l, tl_n, y_sh, y_shh, at_145_444, cy_81, Nat.reduceAdd, Nat.reduceMul, Nat.reduceLeDiff, Nat.reduceSub, decide_true, decide_false, Bool.toNat_true, Bool.toNat_false, not_true_eq_false, not_false_eq_true, ite_not, true_and, and_true, if_true, if_false, ↓reduceIte, Bool.or_true, Bool.true_or, Bool.or_false, ry_199 yE_ok, ny_199 yE_ok, ry_200 yE_ok, ny_200 yE_ok, ry_201 yE_ok, ny_201 yE_ok, ry_202 yE_ok, ny_202 yE_ok, ry_203 yE_ok, ny_203 yE_ok, ry_204 yE_ok, ny_204 yE_ok, up_r, Nat.reduceEqDiff, false_and, and_false, y_cell hx]
    refine y_atEnd yE_ok hs ps.1 ps.2.1 ps.2.2.2 hN (by omega) (he b (by omega)) _ fun m hm e => ?_
    simp (disch := first | omega | assumption | exact yrt_145 | fail) only [yrt_145, ab_kl_n, ab_kl_i, ab_kl_r, ab_kl_l, at_145_444, cy_81, cat_n, cat_i, cat_r, cat_l, tl_i, tl_l, tl_n, y_sh, y_shh, at_145_447, Gy_iastore, q_in, q_cl, y_seti, at_145_448, Gy_iinc_11, ab_put_int_11, kc_1, q_add, jy_145_451, Nat.reduceAdd, Nat.reduceMul, Nat.reduceLeDiff, Nat.reduceSub, decide_true, decide_false, Bool.toNat_true, Bool.toNat_false, not_true_eq_false, not_false_eq_true, ite_not, true_and, and_true, if_true, if_false, ↓reduceIte, Bool.or_true, Bool.true_or, Bool.or_false, ry_199 yE_ok, ny_199 yE_ok, ry_200 yE_ok, ny_200 yE_ok, ry_201 yE_ok, ny_201 yE_ok, ry_202 yE_ok, ny_202 yE_ok, ry_203 yE_ok, ny_203 yE_ok, ry_204 yE_ok, ny_204 yE_ok, up_r, Nat.reduceEqDiff, false_and, and_false]
    refine ih (b + 1) _ (by omega) ⟨P2_up4 h.1, fun c hc => ?_⟩ (FA_up (by decide) f)
    by_cases z : c = b
    · subst z
      exact ⟨m, hm, by simp [up_r], e⟩
    · obtain ⟨t, t1, t2, t3⟩ := h.2 c (by omega)
      exact ⟨t, t1, by simp [up_r, z, t2], t3⟩
theorem yst_at : ∀ nb n, n < yst xs sh nb → ∃ c i, c < nb ∧ i < yph xs sh c + yop xs sh c ∧ n = yst xs sh c + i := by
  intro nb
  induction nb with
  | zero => intro n hn; exact absurd hn (Nat.not_lt_zero n)
  | succ nb ih =>
    intro n hn
    by_cases c : n < yst xs sh nb
    · obtain ⟨c, i, a1, a2, a3⟩ := ih n c
      exact ⟨c, i, by omega, a2, a3⟩
    · have hn : n < yst xs sh nb + (yph xs sh nb + yop xs sh nb) := hn
      exact ⟨nb, n - yst xs sh nb, by omega, by omega, by omega⟩
def yX (xs : List Int32) (sh nb : Nat) (q : Nat → Nat) (I : Nat → Nat → Int32) : Nat → Nat → Nat := fun f x =>
  if f = 0 then (if x = 0 then nb else yst xs sh nb) else if f = 1 then yst xs sh x else if f = 2 then yph xs sh x + yop xs sh x
  else if f = 3 then shT sh x 1 else if f = 4 then shT sh x 2 else if f = 5 then shT sh x 3 else if f = 6 then (I 204 x).toNatClampNeg
  else if f = 10 then kI I x else if f = 11 then q x else if f = 12 then (if kI I x ≤ 1 then 0 else if kI I x = 4 then 1 else 2)
  else if f = 13 then (I 202 x).toNatClampNeg else (I 203 (2 * (x / 6) + x % 6)).toNatClampNeg
theorem yX_fB : ∀ c, fB (yX xs sh nb q I) c = yst xs sh c := by
  intro c
  induction c with
  | zero => rfl
  | succ c ih => show fB (yX xs sh nb q I) c + (yph xs sh c + yop xs sh c) = yst xs sh c + (yph xs sh c + yop xs sh c); rw [ih]
theorem yX_ok (hs : sh < 4) (hnb : nb = shT sh 0 0) (hN : N = yst xs sh nb) (hq : ∀ c i, c < nb → i < yph xs sh c + yop xs sh c → q (yst xs sh c + i) = c ∧ fi (yst xs sh c + i) = decide (i < yph xs sh c)) (h : P3 sh N q fi nb I) : GX sh (yX xs sh nb q I) ∧ HX sh (yX xs sh nb q I) I := by
  subst hN
  have n20 := yst_le (xs := xs) hs
  have nb6 := (sh_nb sh hs).2
  have nb0 := (sh_nb sh hs).1
  rw [← hnb] at n20 nb6 nb0
  have h0 := yst_mono (xs := xs) (sh := sh) nb0
  have o1 := fun b => (yop_le (xs := xs) (b := b) hs).2
  have o10 := o1 0
  have h00 : yst xs sh 0 = 0 := rfl
  obtain ⟨⟨⟨z0, z1, zk, zq⟩, k8, -, nm⟩, en⟩ := h
  have nmX : ∀ n, n < yst xs sh nb → ∀ i, i < 2 → yX xs sh nb q I 14 (6 * n + i) = (I 203 (2 * n + i)).toNatClampNeg := by
    intro n _ i hi
    show (I 203 (2 * ((6 * n + i) / 6) + (6 * n + i) % 6)).toNatClampNeg = _
    rw [show (6 * n + i) / 6 = n by omega, show (6 * n + i) % 6 = i by omega]
  have nmP : ∀ n, n < yst xs sh nb → 2 ≤ kI I n → ∀ i, i < 2 → I 203 (2 * n + i) = nI (yX xs sh nb q I 14 (6 * n + i)) ∧ yX xs sh nb q I 14 (6 * n + i) < yst xs sh nb ∧ mayX sh (yX xs sh nb q I) (yX xs sh nb q I 14 (6 * n + i)) n i = true := by
    intro n hn h2 i hi
    obtain ⟨t, t1, t2, t3⟩ := (nm n hn).2 h2 i hi
    rw [nmX n hn i hi, t2, nI_clamp (by omega)]
    refine ⟨rfl, t1, ?_⟩
    rw [← t3]
    rfl
  have nmV : ∀ n, n < yst xs sh nb → kI I n ≤ 1 → I 202 n = nI (yX xs sh nb q I 13 n) ∧ (kI I n = 0 → yX xs sh nb q I 13 n ≤ 99) ∧ (kI I n = 1 → yX xs sh nb q I 13 n ≤ 3) := by
    intro n hn h2
    obtain ⟨t, t1, t2, t3⟩ := (nm n hn).1 h2
    have e : yX xs sh nb q I 13 n = t := by
      show (I 202 n).toNatClampNeg = t
      rw [t1, nI_clamp]
      rcases (by omega : kI I n = 0 ∨ kI I n = 1) with z | z
      · have := t2 z; omega
      · have := t3 z; omega
    rw [e]
    exact ⟨t1, t2, t3⟩
  have enX : ∀ b, b < nb → I 204 b = nI (yX xs sh nb q I 6 b) ∧ yX xs sh nb q I 6 b < yst xs sh nb ∧ (shT sh b 4).testBit (q (yX xs sh nb q I 6 b)) = true := by
    intro b hb
    obtain ⟨t, t1, t2, t3⟩ := en b hb
    have e : yX xs sh nb q I 6 b = t := by
      show (I 204 b).toNatClampNeg = t
      rw [t2, nI_clamp (by omega)]
    rw [e]
    exact ⟨t2, t1, t3⟩
  have qn : ∀ n, n < yst xs sh nb → q n < nb ∧ yst xs sh (q n) ≤ n ∧ n < yst xs sh (q n) + (yph xs sh (q n) + yop xs sh (q n)) ∧ (fi n = true ↔ n - yst xs sh (q n) < yph xs sh (q n)) := by
    intro n hn
    obtain ⟨c, i, a1, a2, a3⟩ := yst_at nb n hn
    obtain ⟨b1, b2⟩ := hq c i a1 a2
    rw [← a3] at b1 b2
    rw [b1, b2]
    refine ⟨a1, by omega, by omega, ?_⟩
    rw [decide_eq_true_eq, show n - yst xs sh c = i by omega]
  have ax : ∀ n, n < yst xs sh nb → ∀ i, i < yX xs sh nb q I 12 n → 2 ≤ kI I n ∧ i < 2 := by
    intro n hn i hi
    have hi : i < (if kI I n ≤ 1 then 0 else if kI I n = 4 then 1 else 2) := hi
    by_cases c : kI I n ≤ 1
    · rw [if_pos c] at hi; omega
    · rw [if_neg c] at hi
      by_cases c4 : kI I n = 4
      · rw [if_pos c4] at hi; omega
      · rw [if_neg c4] at hi; omega
  have tg := fun b (hb : b < nb) => sh_tgt sh hs b (by omega)
  refine ⟨⟨⟨nb6, n20, ?_, fun c hc => ?_, fun c n hc h1 h2 => ?_, fun n hn => ⟨?_, fun z => ?_, fun z => ?_, fun z1 z2 => ?_, fun z => ?_, fun z => ?_, fun z => ?_⟩, fun n m hnm hm hq2 h7 => ?_, fun c hc => ⟨?_, fun z => ?_, fun z => ?_, fun _ => ?_⟩⟩, hs, hnb, fun b hb => ⟨rfl, rfl, rfl⟩, fun n hn => ⟨?_, ?_, ?_, fun z => ?_, fun i hi => ?_⟩, fun b hb _ => ?_, ?_⟩, z0, z1, fun n hn => ⟨?_, ?_, fun z => ?_, fun z i hi => ?_⟩, fun b hb _ => ?_⟩
  · rw [yX_fB]; rfl
  · rw [yX_fB]; rfl
  · have h1 : yst xs sh c ≤ n := h1
    have h2 : n < yst xs sh c + (yph xs sh c + yop xs sh c) := h2
    have := (hq c (n - yst xs sh c) hc (by omega)).1
    rw [show yst xs sh c + (n - yst xs sh c) = n by omega] at this
    exact this
  · have := (k8 n hn).1
    show kI I n ≤ 7
    omega
  · exact if_pos z
  · have z : kI I n = 4 := z
    show (if kI I n ≤ 1 then 0 else if kI I n = 4 then 1 else 2) = 1
    rw [z]; rfl
  · show (if kI I n ≤ 1 then 0 else if kI I n = 4 then 1 else 2) = 2
    have z1 : 2 ≤ kI I n := z1
    have z2 : kI I n ≠ 4 := z2
    rw [if_neg (by omega), if_neg z2]
  · have z : kI I n = 0 := z
    exact (nmV n hn (by omega)).2.1 z
  · have z : kI I n = 1 := z
    exact (nmV n hn (by omega)).2.2 z
  · have a := (nmP n hn z 0 (by decide)).2.1
    have b := (nmP n hn z 1 (by decide)).2.1
    rw [Nat.add_zero] at a
    omega
  · have hm : m < yst xs sh nb := hm
    have hq2 : q n = q m := hq2
    have h7 : kI I m = 7 := h7
    obtain ⟨a1, a2, a3, a4⟩ := qn n (by omega)
    obtain ⟨b1, b2, b3, b4⟩ := qn m hm
    have := b4.mp ((k8 m hm).2.mpr h7)
    rw [← hq2] at this
    exact (k8 n (by omega)).2.mp (a4.mpr (by omega))
  · exact (tg c hc).1
  · have := (tg c hc).2.1 z
    show 1 ≤ shT sh c 2 ∧ shT sh c 2 ≤ 5
    omega
  · have := (tg c hc).2.2 z
    show 1 ≤ shT sh c 3 ∧ shT sh c 3 ≤ 5
    omega
  · have := (enX c hc).2.1
    omega
  · exact (qn n hn).1
  · exact (qn n hn).2.1
  · exact (qn n hn).2.2.1
  · have z : kI I n = 7 := z
    have := (qn n hn).2.2.2.mp ((k8 n hn).2.mpr z)
    show shT sh (q n) 5 = 2
    by_cases c : shT sh (q n) 5 = 2
    · exact c
    · have := (yph_le (xs := xs) (sh := sh) (b := q n)).2 c
      omega
  · obtain ⟨a, b⟩ := ax n hn i hi
    exact (nmP n hn a i b).2
  · exact (enX b hb).2
  · show 0 < yst xs sh nb
    omega
  · exact (zk n hn).1
  · exact (zq n hn).1
  · exact (nmV n hn z).1
  · exact (nmP n hn z i hi).1
  · exact (enX b hb).1
end PEN
