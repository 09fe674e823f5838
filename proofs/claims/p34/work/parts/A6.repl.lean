/-! WHAT IS REPLACED, SWEPT, SET, ALTERED: a program as before; runs tell the same -/
section RPL
variable {A : Nat → Nat → Nat} {V : Nat → Int64} {ar : Nat → Int32}
theorem ldA_LD {x : Nat} (hx : x < A 0 1) : ldA A x = LD A x := by
  unfold ldA
  rw [if_pos hx]
  rfl
theorem LD_k8 (hr : WR A) (hg : WG A) {x : Nat} (hx : x < A 0 1) : A 10 (LD A x) = A 10 x := (PP_h0 (LD_of hr hg hx).1).1
theorem LD_so (hr : WR A) (hg : WG A) {x n i : Nat} (hx : x < A 0 1) (hn : n < A 0 1) (hi : i < A 12 n) (h : so A x n i = true) : so A (LD A x) n i = true := by
  obtain ⟨-, l2⟩ := LD_of hr hg hx
  have hl := LD_lt hx
  rcases l2 with l2 | l2
  · rw [l2]; exact h
  · unfold so at h ⊢
    by_cases c : A 10 n = 7
    · rw [if_pos c] at h ⊢
      have hb := (hr.2.2.2 n hn).2.1
      have hc := (hr.2.2.1 _ hb).2.2.2.2.2.2.2 i (by rw [← (hr.2.2.2 n hn).2.2.2.2.2.2.2.1 c]; exact hi)
      exact dom_tr hg (hr.2.2.2 _ hl).2.1 (hr.2.2.2 x hx).2.1 hc (sn_dom hr hg hl hx l2) h
    · rw [if_neg c] at h ⊢
      exact sn_trans hr hg hl hx hn l2 h
theorem LD_se (hr : WR A) (hg : WG A) {x b : Nat} (hx : x < A 0 1) (hb : b < A 0 0) (h : se A x b = true) : se A (LD A x) b = true := by
  obtain ⟨-, l2⟩ := LD_of hr hg hx
  have hl := LD_lt hx
  rcases l2 with l2 | l2
  · rw [l2]; exact h
  · exact dom_tr hg (hr.2.2.2 _ hl).2.1 (hr.2.2.2 x hx).2.1 hb (sn_dom hr hg hl hx l2) h
theorem so_of {A' : Nat → Nat → Nat} (e8 : A' 8 = A 8) (e9 : A' 9 = A 9) (e11 : A' 11 = A 11) {m n i : Nat} (e10 : A' 10 n = A 10 n) : so A' m n i = so A m n i := by
  unfold so se sn
  rw [e8, e9, e11, e10]
theorem exA_14 {k : Nat} (h : k < 120) {ld : Nat → Nat} : exA A ld 14 k = ld (A 14 k) := by
  show ex2 A ld 120 6 14 k = _
  rw [ex_14, if_pos h]
theorem exA_6 {k : Nat} (h : k < 6) {ld : Nat → Nat} : exA A ld 6 k = ld (A 6 k) := by
  show ex2 A ld 120 6 6 k = _
  rw [ex_6, if_pos h]
theorem ZP_ex (o : OZ A) : ZP (exA A (ldA A)) := by
  obtain ⟨⟨-, hr, hg, -, -⟩, z1, z2, z3, z4, z5, z6, z7⟩ := o
  have r0 := hr.1
  have r1 := hr.2.1
  have e0 : (exA A (ldA A)) 0 = A 0 := funext fun k => ex_0
  have e1 : (exA A (ldA A)) 1 = A 1 := funext fun k => ex_1
  have e2 : (exA A (ldA A)) 2 = A 2 := funext fun k => ex_2
  have e3 : (exA A (ldA A)) 3 = A 3 := funext fun k => ex_3
  have e8 : (exA A (ldA A)) 8 = A 8 := funext fun k => ex_8
  have e9 : (exA A (ldA A)) 9 = A 9 := funext fun k => ex_9
  have e10 : (exA A (ldA A)) 10 = A 10 := funext fun k => ex_10
  have e11 : (exA A (ldA A)) 11 = A 11 := funext fun k => ex_11
  have e12 : (exA A (ldA A)) 12 = A 12 := funext fun k => ex_12
  unfold ZP
  rw [e0, e1, e2, e3, e9, e10, e11, e12]
  refine ⟨z1, fun n i hn hi => ?_, fun b hb h => ?_, z4, z5, z6, z7⟩
  · have h6 := (hr.2.2.2 n hn).2.2.1
    have hq := (hr.2.2.2 n hn).2.2.2.2.2.2.2.2.2.2 i hi
    obtain ⟨s1, s2⟩ := z2 n i hn hi
    rw [exA_14 (by omega), ldA_LD hq, so_of e8 e9 e11 (congrFun e10 n)]
    exact ⟨LD_so hr hg hq hn hi s1, by rw [LD_k8 hr hg hq]; exact s2⟩
  · have hq := (hr.2.2.1 b hb).2.2.2.2.1 h
    obtain ⟨s1, s2⟩ := z3 b hb h
    have es : se (exA A (ldA A)) (LD A (A 6 b)) b = se A (LD A (A 6 b)) b := by
      unfold se
      rw [e9, e11]
    rw [exA_6 (by omega), ldA_LD hq, es]
    exact ⟨LD_se hr hg hq hb s1, by rw [LD_k8 hr hg hq]; exact s2⟩
theorem OZ_ex (o : OZ A) : OZ (exA A (ldA A)) := ⟨OA_ex o.1 (ldA_1000 o.1.2.1) (fun x hx => ldA_lt hx), ZP_ex o⟩
/-- what is asked of a place is there for its leader, with the same value -/
theorem AX_LD (hr : WR A) (hg : WG A) {b q : Nat} (hb : b < A 0 0) (h : AX A b q) : AX A b (LD A q) := by
  obtain ⟨h1, h2, h3⟩ := h
  have hl := LD_lt h1
  refine ⟨hl, by rw [LD_k8 hr hg h1]; exact h2, ?_⟩
  exact LD_se hr hg h1 hb h3
theorem LD_val (hr : WR A) (hg : WG A) {S : Nat → Prop} (h : IV A ar S V) {q : Nat} (hq : q < A 0 1) (h1 : S q) (h2 : S (LD A q)) : V (ldA A q) = V q := by
  rw [ldA_LD hq]
  exact h.2.1 _ _ h2 h1 (LD_of hr hg hq).1
theorem vo_ex (hr : WR A) {n : Nat} (hn : n < A 0 1) (h7 : A 10 n ≠ 7) (h8 : A 10 n ≠ 8) (h : ∀ i, i < A 12 n → V (ldA A (A 14 (6 * n + i))) = V (A 14 (6 * n + i))) : vo (exA A (ldA A)) ar V n = vo A ar V n := by
  obtain ⟨k8, -, -, -, -, q5, q6, -⟩ := hr.2.2.2 n hn
  have r1 := hr.2.1
  have e10 : (exA A (ldA A)) 10 n = A 10 n := ex_10
  have e13 : (exA A (ldA A)) 13 n = A 13 n := ex_13
  unfold vo
  rw [e10, e13, exA_14 (by omega), exA_14 (by omega)]
  by_cases c0 : A 10 n = 0
  · rw [if_pos c0, if_pos c0]
  rw [if_neg c0, if_neg c0]
  by_cases c1 : A 10 n = 1
  · rw [if_pos c1, if_pos c1]
  rw [if_neg c1, if_neg c1]
  by_cases c4 : A 10 n = 4
  · rw [if_pos c4, if_pos c4]
    have := h 0 (by rw [q5 c4]; omega)
    rw [show 6 * n + 0 = 6 * n from rfl] at this
    rw [this]
  · rw [if_neg c4, if_neg c4]
    have a2 := q6 (by omega) (by omega) c4
    have h0 := h 0 (by omega)
    rw [show 6 * n + 0 = 6 * n from rfl] at h0
    rw [h0, h 1 (by omega)]
theorem p1V_ex (o : OZ A) {b r : Nat} (hb : b < A 0 0) (h : EN A ar b r V) : p1V (exA A (ldA A)) r (A 1 b) (A 1 b + A 2 b) V = p1V A r (A 1 b) (A 1 b + A 2 b) V := by
  obtain ⟨⟨-, hr, hg, hh, -⟩, hz⟩ := o
  have r1 := hr.2.1
  funext n
  have e10 : (exA A (ldA A)) 10 n = A 10 n := ex_10
  unfold p1V
  rw [e10]
  by_cases c : A 1 b ≤ n ∧ n < A 1 b + A 2 b ∧ A 10 n = 7
  · rw [if_pos c, if_pos c]
    have hbn := (hr.2.2.1 b hb).1
    have h7 := (hr.2.2.1 b hb).2.2.2.2.2.1
    have hn : n < A 0 1 := by omega
    have hnb := hh b n hb c.1 c.2.1
    rcases h with ⟨rfl, rfl⟩ | ⟨d, d1, d2, d3, d4⟩
    · rfl
    · have hr12 : r < A 12 n := by rw [(hr.2.2.2 n hn).2.2.2.2.2.2.2.1 c.2.2, hnb]; exact d2
      obtain ⟨s1, s2⟩ := hz.2.1 n r hn hr12
      have hq := (hr.2.2.2 n hn).2.2.2.2.2.2.2.2.2.2 r hr12
      have s3 := so_se c.2.2 s1
      rw [hnb, d3] at s3
      have hx : AX A d (A 14 (6 * n + r)) := ⟨hq, s2, s3⟩
      rw [exA_14 (by omega)]
      exact LD_val hr hg d4 hq hx (AX_LD hr hg d1.1 hx)
  · rw [if_neg c, if_neg c]
theorem pa_ex (o : OZ A) {b r : Nat} (hb : b < A 0 0) (s : RS) (h : EN A ar b r s.1) (hG : IG A s.1) : pa (exA A (ldA A)) ar none r b s = pa A ar none r b s := by
  have o' := o
  obtain ⟨⟨-, hr, hg, hh, -⟩, hz⟩ := o
  have ha := ZP_AHD hr hz
  have e1 : (exA A (ldA A)) 1 b = A 1 b := ex_1
  have e2 : (exA A (ldA A)) 2 b = A 2 b := ex_2
  have ep : p1 (exA A (ldA A)) none r (A 1 b) (A 2 b) s = p1 A none r (A 1 b) (A 2 b) s := by
    unfold p1
    rw [p1V_ex o' hb h]
    have e : (fun j => decide (exA A (ldA A) 10 (A 1 b + j) = 7)) = fun j => decide (A 10 (A 1 b + j) = 7) := funext fun j => by rw [show (exA A (ldA A)) 10 (A 1 b + j) = A 10 (A 1 b + j) from ex_10]
    rw [e]
    rfl
  unfold pa
  rw [e1, e2, ep]
  have k1 := EN_phi o' hb h
  have k2 := IG_phi o' hb hG k1
  have key : ∀ j, j ≤ A 2 b → ps (exA A (ldA A)) ar none (A 1 b) j (p1 A none r (A 1 b) (A 2 b) s) = ps A ar none (A 1 b) j (p1 A none r (A 1 b) (A 2 b) s) := by
    intro j
    induction j with
    | zero => intro _; rfl
    | succ j ih =>
      intro hj
      have e := ih (by omega)
      have e10 : (exA A (ldA A)) 10 (A 1 b + j) = A 10 (A 1 b + j) := ex_10
      unfold ps
      rw [e10, e]
      by_cases c : A 10 (A 1 b + j) = 7 ∨ A 10 (A 1 b + j) = 8
      · rw [if_pos c, if_pos c]
      · rw [if_neg c, if_neg c]
        have hbn := (hr.2.2.1 b hb).1
        have hn : A 1 b + j < A 0 1 := by omega
        have hnb : A 11 (A 1 b + j) = b := hh b _ hb (by omega) (by omega)
        obtain ⟨j1, -, -⟩ := PS_all o' (w := none) WOK_none hb (p1 A none r (A 1 b) (A 2 b) s) k1 k2 j (by omega)
        have ev : vo (exA A (ldA A)) ar (ps A ar none (A 1 b) j (p1 A none r (A 1 b) (A 2 b) s)).1 (A 1 b + j) = vo A ar (ps A ar none (A 1 b) j (p1 A none r (A 1 b) (A 2 b) s)).1 (A 1 b + j) := by
          refine vo_ex hr hn (fun z => c (Or.inl z)) (fun z => c (Or.inr z)) (fun i hi => ?_)
          obtain ⟨s1, s2⟩ := hz.2.1 _ i hn hi
          have s3 := so_sn (fun z => c (Or.inl z)) s1
          have hq := (hr.2.2.2 _ hn).2.2.2.2.2.2.2.2.2.2 i hi
          have hd := sn_dom hr hg hq hn s3
          have hx : AV A b (A 1 b + j) (A 14 (6 * (A 1 b + j) + i)) := by
            refine ⟨hq, s2, ?_⟩
            by_cases e : A 11 (A 14 (6 * (A 1 b + j) + i)) = b
            · exact Or.inr ⟨e, Or.inr (sn_lt hr hz hq hn s3)⟩
            · exact Or.inl ⟨e, by rw [hnb] at hd; exact hd⟩
          obtain ⟨-, l2⟩ := LD_of hr hg hq
          have hx2 : AV A b (A 1 b + j) (LD A (A 14 (6 * (A 1 b + j) + i))) := by
            rcases l2 with l2 | l2
            · rw [l2]; exact hx
            · exact AV_down hr hg hz hb hx (LD_lt hq) (by rw [LD_k8 hr hg hq]; exact s2) l2
          exact LD_val hr hg j1 hq hx hx2
        rw [ev]
  exact key _ (Nat.le_refl _)
theorem RN_ex (o : OZ A) : ∀ u r b s t, b < A 0 0 → EN A ar b r s.1 → IG A s.1 → rn (exA A (ldA A)) ar none u r b s t = rn A ar none u r b s t := by
  have o' := o
  obtain ⟨⟨-, hr, hg, hh, -⟩, hz⟩ := o
  have r0 := hr.1
  intro u
  induction u with
  | zero => intro r b s t _ _ _; rfl
  | succ u ih =>
    intro r b s t hb hE hG
    obtain ⟨k1, k2, -⟩ := PA_all o' (w := none) WOK_none hb s hE hG
    have e3 : (exA A (ldA A)) 3 b = A 3 b := ex_3
    have ask : A 3 b ≠ 0 → (pa A ar none r b s).1 (exA A (ldA A) 6 b) = (pa A ar none r b s).1 (A 6 b) := by
      intro h
      have hq := (hr.2.2.1 b hb).2.2.2.2.1 h
      obtain ⟨s1, s2⟩ := hz.2.2.1 b hb h
      have hx : AX A b (A 6 b) := ⟨hq, s2, s1⟩
      rw [exA_6 (by omega)]
      exact LD_val hr hg k1 hq hx (AX_LD hr hg hb hx)
    unfold rn
    rw [e3, pa_ex o' hb s hE hG]
    by_cases c : A 3 b = 2
    · rw [if_pos c, if_pos c, ask (by omega)]
    · rw [if_neg c, if_neg c]
      have en : nx (exA A (ldA A)) (pa A ar none r b s).1 b = nx A (pa A ar none r b s).1 b := by
        unfold nx
        rw [e3, show (exA A (ldA A)) 4 b = A 4 b from ex_4, show (exA A (ldA A)) 5 b = A 5 b from ex_5]
        by_cases c0 : A 3 b = 0
        · rw [if_pos c0, if_pos c0]
        · rw [if_neg c0, if_neg c0, ask c0]
      have et : ∀ c d, rt (exA A (ldA A)) c d = rt A c d := by
        intro c d
        unfold rt
        rw [show (exA A (ldA A)) 7 d = A 7 d from ex_7, show (exA A (ldA A)) 8 = A 8 from funext fun _ => ex_8]
      rw [en, et]
      obtain ⟨n1, n2⟩ := EN_next o' hb c k1
      exact ih _ _ _ _ n1 n2 k2
/-- what is replaced changes nothing that runs tell -/
theorem run0_ex (o : OZ A) (D : Int32) : run0 (exA A (ldA A)) ar none D = run0 A ar none D := by
  unfold run0
  rw [show (exA A (ldA A)) 0 0 = A 0 0 from ex_0]
  by_cases c : A 0 0 = 0
  · rw [if_pos c, if_pos c]
  · rw [if_neg c, if_neg c]
    exact RN_ex o 200 0 0 _ 0 (by omega) (Or.inl ⟨rfl, rfl⟩) IG_V0
end RPL
