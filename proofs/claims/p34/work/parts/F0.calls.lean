/-! THE LAW'S CODE: its calls -/
theorem Ey_det {xs : List Int32} {mi : Nat} {vs : List Value} {h : ab_H} {Q : Option Value → ab_H → Prop} {a : Option Value} {b : ab_H} (z : Ey xs mi vs h (fun r h' => r = a ∧ h' = b)) : Ey xs mi vs h Q = Q a b := by
  obtain ⟨n, r, h', e, rfl, rfl⟩ := z
  refine propext ⟨?_, fun q => ⟨n, r, h', e, q⟩⟩
  rintro ⟨m, r2, h2, e2, q⟩
  have e3 := ab_ex_le n (n + m) (by omega) _ _ _ _ e
  have e4 := ab_ex_le m (n + m) (by omega) _ _ _ _ e2
  rw [e3] at e4
  cases e4
  exact q
def WL8 (s : VS) (A : Nat → Nat → Nat) (I0 : Nat → Nat → Int32) (J0 : Nat → Nat → Int64) (I : Nat → Nat → Int32) (J : Nat → Nat → Int64) : Prop := OS s ∧ v_a s = A ∧ SC s I J ∧ Fr (fun o => 199 ≤ o) I0 I J0 J
theorem Fr_t {c : Nat → Prop} {I I' I2 : Nat → Nat → Int32} {J J' J2 : Nat → Nat → Int64} (a : Fr c I I' J J') (b : Fr c I' I2 J' J2) : Fr c I I2 J J2 := ⟨fun o k z => (b.1 o k z).trans (a.1 o k z), fun o k z => (b.2 o k z).trans (a.2 o k z)⟩
section LWC
variable {xs : List Int32} {Q : Option Value → ab_H → Prop} {E : ab_Sh} {I I0 : Nat → Nat → Int32} {J J0 : Nat → Nat → Int64} {s : VS} {A : Nat → Nat → Nat} {L : ab_L} {S : List Value} {pc len n m r : Nat}
theorem W_step {s' : VS} {A' : Nat → Nat → Nat} {I' : Nat → Nat → Int32} {J' : Nat → Nat → Int64} (w : WL8 s A I0 J0 I J) (ok : OS s') (e : v_a s' = A') (h : SC s' I' J') (f : Fr (fun o => 199 ≤ o) I I' J J') : WL8 s' A' I0 J0 I' J' := ⟨ok, e, h, Fr_t w.2.2.2 f⟩
theorem W_N (w : WL8 s A I0 J0 I J) : A 0 1 ≤ 20 := by
  rw [← w.2.1]
  exact w.1.1.2.1.2.1
theorem il_c {N a : Nat} {f : Nat → Int32} (h : a < N) (hN : N < 2147483648) : il N (nI a) f = f a := il_in hN h
theorem zq_n0 (w : WL8 s A I0 J0 I J) (hn : n < A 0 1) : Gy xs (some (.invokevirtual 119, len)) 146 pc L (.int (nI 0) :: .int (nI n) :: .ref 0 :: S) (SH ++ E, I, J) Q = (ab_cat S ≤ 8 ∧ Gy xs (ab_at 146 (pc + 3)) 146 (pc + 3) L (.int (nI (A 10 n)) :: S) (SH ++ E, I, J) Q) := by
  have n20 := W_N w
  obtain ⟨ok, e, h, -⟩ := w
  subst e
  have ea : o_name (v_a s) (nI n) (nI 0) = nI ((v_a s) 10 n) := by unfold o_name; rw [il_c hn (by omega), il_c (by decide) (by decide)]; rfl
  rw [cy_119 y_ref0, Ey_det (a := some (.int (nI ((v_a s) 10 n)))) (b := (SH ++ E, I, J)) (Ey_of (by rw [c_name (Or.inr (Or.inl rfl)) ok.1.1 ok.1.2.1 h.1.1 h.1.2 sf_0_9, ea]; exact ⟨I, J, rfl, rfl, rfl⟩)), y_shh, true_and]
  rfl
theorem zq_n1 (w : WL8 s A I0 J0 I J) (hn : n < A 0 1) : Gy xs (some (.invokevirtual 119, len)) 146 pc L (.int (nI 1) :: .int (nI n) :: .ref 0 :: S) (SH ++ E, I, J) Q = (ab_cat S ≤ 8 ∧ Gy xs (ab_at 146 (pc + 3)) 146 (pc + 3) L (.int (nI (A 11 n)) :: S) (SH ++ E, I, J) Q) := by
  have n20 := W_N w
  obtain ⟨ok, e, h, -⟩ := w
  subst e
  have ea : o_name (v_a s) (nI n) (nI 1) = nI ((v_a s) 11 n) := by unfold o_name; rw [il_c hn (by omega), il_c (by decide) (by decide)]; rfl
  rw [cy_119 y_ref0, Ey_det (a := some (.int (nI ((v_a s) 11 n)))) (b := (SH ++ E, I, J)) (Ey_of (by rw [c_name (Or.inr (Or.inl rfl)) ok.1.1 ok.1.2.1 h.1.1 h.1.2 sf_0_9, ea]; exact ⟨I, J, rfl, rfl, rfl⟩)), y_shh, true_and]
  rfl
theorem zq_n2 (w : WL8 s A I0 J0 I J) (hn : n < A 0 1) : Gy xs (some (.invokevirtual 119, len)) 146 pc L (.int (nI 2) :: .int (nI n) :: .ref 0 :: S) (SH ++ E, I, J) Q = (ab_cat S ≤ 8 ∧ Gy xs (ab_at 146 (pc + 3)) 146 (pc + 3) L (.int (nI (A 12 n)) :: S) (SH ++ E, I, J) Q) := by
  have n20 := W_N w
  obtain ⟨ok, e, h, -⟩ := w
  subst e
  have ea : o_name (v_a s) (nI n) (nI 2) = nI ((v_a s) 12 n) := by unfold o_name; rw [il_c hn (by omega), il_c (by decide) (by decide)]; rfl
  rw [cy_119 y_ref0, Ey_det (a := some (.int (nI ((v_a s) 12 n)))) (b := (SH ++ E, I, J)) (Ey_of (by rw [c_name (Or.inr (Or.inl rfl)) ok.1.1 ok.1.2.1 h.1.1 h.1.2 sf_0_9, ea]; exact ⟨I, J, rfl, rfl, rfl⟩)), y_shh, true_and]
  rfl
theorem zq_n3 (w : WL8 s A I0 J0 I J) (hn : n < A 0 1) (h1 : A 10 n ≤ 1) : Gy xs (some (.invokevirtual 119, len)) 146 pc L (.int (nI 3) :: .int (nI n) :: .ref 0 :: S) (SH ++ E, I, J) Q = (ab_cat S ≤ 8 ∧ Gy xs (ab_at 146 (pc + 3)) 146 (pc + 3) L (.int (nI (A 13 n)) :: S) (SH ++ E, I, J) Q) := by
  have n20 := W_N w
  obtain ⟨ok, e, h, -⟩ := w
  subst e
  have ea : o_name (v_a s) (nI n) (nI 3) = nI ((v_a s) 13 n) := by unfold o_name; rw [il_c hn (by omega), il_c (by decide) (by decide)]; exact if_pos h1
  rw [cy_119 y_ref0, Ey_det (a := some (.int (nI ((v_a s) 13 n)))) (b := (SH ++ E, I, J)) (Ey_of (by rw [c_name (Or.inr (Or.inl rfl)) ok.1.1 ok.1.2.1 h.1.1 h.1.2 sf_0_9, ea]; exact ⟨I, J, rfl, rfl, rfl⟩)), y_shh, true_and]
  rfl
theorem zq_n4 (w : WL8 s A I0 J0 I J) (hn : n < A 0 1) : Gy xs (some (.invokevirtual 119, len)) 146 pc L (.int (nI 4) :: .int (nI n) :: .ref 0 :: S) (SH ++ E, I, J) Q = (ab_cat S ≤ 8 ∧ Gy xs (ab_at 146 (pc + 3)) 146 (pc + 3) L (.int (nI (sm (fun m => cn (fun i => decide (A 14 (6 * m + i) = n)) (A 12 m)) (A 0 1) + cn (fun b => decide (¬ A 3 b = 0 ∧ A 6 b = n)) (A 0 0))) :: S) (SH ++ E, I, J) Q) := by
  have n20 := W_N w
  obtain ⟨ok, e, h, -⟩ := w
  subst e
  have ea : o_name (v_a s) (nI n) (nI 4) = nI (sm (fun m => cn (fun i => decide ((v_a s) 14 (6 * m + i) = n)) ((v_a s) 12 m)) ((v_a s) 0 1) + cn (fun b => decide (¬ (v_a s) 3 b = 0 ∧ (v_a s) 6 b = n)) ((v_a s) 0 0)) := by unfold o_name; rw [il_c hn (by omega), il_c (by decide) (by decide)]; rfl
  rw [cy_119 y_ref0, Ey_det (a := some (.int (nI (sm (fun m => cn (fun i => decide ((v_a s) 14 (6 * m + i) = n)) ((v_a s) 12 m)) ((v_a s) 0 1) + cn (fun b => decide (¬ (v_a s) 3 b = 0 ∧ (v_a s) 6 b = n)) ((v_a s) 0 0))))) (b := (SH ++ E, I, J)) (Ey_of (by rw [c_name (Or.inr (Or.inl rfl)) ok.1.1 ok.1.2.1 h.1.1 h.1.2 sf_0_9, ea]; exact ⟨I, J, rfl, rfl, rfl⟩)), y_shh, true_and]
  rfl
theorem zq_op (w : WL8 s A I0 J0 I J) (hn : n < A 0 1) (hr : r < A 12 n) (h6 : A 12 n < 2147483648) : Gy xs (some (.invokevirtual 121, len)) 146 pc L (.int (nI r) :: .int (nI n) :: .ref 0 :: S) (SH ++ E, I, J) Q = (ab_cat S ≤ 8 ∧ Gy xs (ab_at 146 (pc + 3)) 146 (pc + 3) L (.int (nI (A 14 (6 * n + r))) :: S) (SH ++ E, I, J) Q) := by
  have n20 := W_N w
  obtain ⟨ok, e, h, -⟩ := w
  subst e
  have ea : o_operand (v_a s) (nI n) (nI r) = nI ((v_a s) 14 (6 * n + r)) := by unfold o_operand; rw [il_c hn (by omega), il_c hr h6]
  rw [cy_121 y_ref0, Ey_det (a := some (.int (nI ((v_a s) 14 (6 * n + r))))) (b := (SH ++ E, I, J)) (Ey_of (by rw [c_operand (Or.inr (Or.inl rfl)) ok.1.1 ok.1.2.1 h.1.1 h.1.2 sf_0_9, ea]; exact ⟨I, J, rfl, rfl, rfl⟩)), y_shh, true_and]
  rfl
theorem zq_seen (w : WL8 s A I0 J0 I J) (hn : n < A 0 1) (hm : m < A 0 1) : Gy xs (some (.invokevirtual 152, len)) 146 pc L (.int (nI m) :: .int (nI n) :: .ref 0 :: S) (SH ++ E, I, J) Q = (ab_cat S ≤ 8 ∧ Gy xs (ab_at 146 (pc + 3)) 146 (pc + 3) L (.int (nI (sn A n m).toNat) :: S) (SH ++ E, I, J) Q) := by
  have n20 := W_N w
  obtain ⟨ok, e, h, -⟩ := w
  subst e
  have ea : o_seen (v_a s) (nI n) (nI m) = nI (sn (v_a s) n m).toNat := by unfold o_seen; rw [il_c hn (by omega), il_c hm (by omega)]
  rw [cy_152 y_ref0, Ey_det (a := some (.int (nI (sn (v_a s) n m).toNat))) (b := (SH ++ E, I, J)) (Ey_of (by rw [c_seen (Or.inr (Or.inl rfl)) ok.1.1 ok.1.2.1 h.1.1 h.1.2 sf_0_9, ea]; exact ⟨I, J, rfl, rfl, rfl⟩)), y_shh, true_and]
  rfl
theorem zq_r1 (w : WL8 s A I0 J0 I J) : Gy xs (some (.invokevirtual 127, len)) 146 pc L (.int (nI 1) :: .ref 0 :: S) (SH ++ E, I, J) Q = (ab_cat S ≤ 8 ∧ Gy xs (ab_at 146 (pc + 3)) 146 (pc + 3) L (.int (nI (A 0 1)) :: S) (SH ++ E, I, J) Q) := by
  have n20 := W_N w
  obtain ⟨ok, e, h, -⟩ := w
  subst e
  have ea : o_rule (v_a s) (nI 1) = nI ((v_a s) 0 1) := by unfold o_rule; rw [il_c (by decide) (by decide)]; rfl
  rw [cy_127 y_ref0, Ey_det (a := some (.int (nI ((v_a s) 0 1)))) (b := (SH ++ E, I, J)) (Ey_of (by rw [c_rule (Or.inr (Or.inl rfl)) ok.1.1 ok.1.2.1 h.1.1 h.1.2 sf_0_9, ea]; exact ⟨I, J, rfl, rfl, rfl⟩)), y_shh, true_and]
  rfl
theorem zq_r2 (w : WL8 s A I0 J0 I J) : Gy xs (some (.invokevirtual 127, len)) 146 pc L (.int (nI 2) :: .ref 0 :: S) (SH ++ E, I, J) Q = (ab_cat S ≤ 8 ∧ Gy xs (ab_at 146 (pc + 3)) 146 (pc + 3) L (.int (nI (cn (fun n => decide (A 10 n = 8)) (A 0 1))) :: S) (SH ++ E, I, J) Q) := by
  have n20 := W_N w
  obtain ⟨ok, e, h, -⟩ := w
  subst e
  have ea : o_rule (v_a s) (nI 2) = nI (cn (fun n => decide ((v_a s) 10 n = 8)) ((v_a s) 0 1)) := by unfold o_rule; rw [il_c (by decide) (by decide)]; rfl
  rw [cy_127 y_ref0, Ey_det (a := some (.int (nI (cn (fun n => decide ((v_a s) 10 n = 8)) ((v_a s) 0 1))))) (b := (SH ++ E, I, J)) (Ey_of (by rw [c_rule (Or.inr (Or.inl rfl)) ok.1.1 ok.1.2.1 h.1.1 h.1.2 sf_0_9, ea]; exact ⟨I, J, rfl, rfl, rfl⟩)), y_shh, true_and]
  rfl
theorem zq_went (w : WL8 s A I0 J0 I J) : Gy xs (some (.invokevirtual 168, len)) 146 pc L (.int (nI n) :: .ref 0 :: S) (SH ++ E, I, J) Q = (ab_cat S ≤ 8 ∧ Gy xs (ab_at 146 (pc + 3)) 146 (pc + 3) L (.int (o_went s (nI n)) :: S) (SH ++ E, I, J) Q) := by
  have n20 := W_N w
  obtain ⟨ok, e, h, -⟩ := w
  subst e
  have ea : o_went s (nI n) = o_went s (nI n) := by rfl
  rw [cy_168 y_ref0, Ey_det (a := some (.int (o_went s (nI n)))) (b := (SH ++ E, I, J)) (Ey_of (by rw [C_went h, ea]; exact ⟨I, J, rfl, rfl, rfl⟩)), y_shh, true_and]
  rfl
theorem zq_value (w : WL8 s A I0 J0 I J) (hn : n < A 0 1) : Gy xs (some (.invokevirtual 171, len)) 146 pc L (.int (nI n) :: .ref 0 :: S) (SH ++ E, I, J) Q = (ab_cat S ≤ 8 ∧ Gy xs (ab_at 146 (pc + 3)) 146 (pc + 3) L (.long (o_value s (nI n)) :: S) (SH ++ E, I, J) Q) := by
  have n20 := W_N w
  obtain ⟨ok, e, h, -⟩ := w
  subst e
  have ea : o_value s (nI n) = o_value s (nI n) := by rfl
  rw [cy_171 y_ref0, Ey_det (a := some (.long (o_value s (nI n)))) (b := (SH ++ E, I, J)) (Ey_of (by rw [C_value ok h, ea]; exact ⟨I, J, rfl, rfl, rfl⟩)), y_shh, true_and]
  rfl
theorem z_part (w : WL8 s A I0 J0 I J) (hn : n < A 0 1) (hc : ab_cat S ≤ 8) (K : ∀ I' J', WL8 s A I0 J0 I' J' → Gy xs (ab_at 146 (pc + 3)) 146 (pc + 3) L (.int (nI (PP A n)) :: S) (SH ++ E, I', J') Q) : Gy xs (some (.invokevirtual 144, len)) 146 pc L (.int (nI n) :: .ref 0 :: S) (SH ++ E, I, J) Q := by
  have n20 := W_N w
  have w0 := w
  obtain ⟨ok, e, h, -⟩ := w
  subst e
  have ea : o_partAt (v_a s) (nI n) (nI 100) = nI (PP (v_a s) n) := by unfold o_partAt; rw [il_c hn (by omega), il_c (by decide) (by decide)]; rfl
  rw [cy_144 y_ref0]
  refine ⟨hc, Ey_of (C_part ok h (nI n) fun I' J' a b => ⟨I', J', rfl, Or.inl ⟨rfl, rfl⟩, ?_⟩)⟩
  rw [ea]
  exact K I' J' (W_step w0 ok rfl a b)
theorem z_partAt (w : WL8 s A I0 J0 I J) (hn : n < A 0 1) (hr : r ≤ 100) (hc : ab_cat S ≤ 8) (K : ∀ I' J', WL8 s A I0 J0 I' J' → Gy xs (ab_at 146 (pc + 3)) 146 (pc + 3) L (.int (nI (rp A r (P0 A) n)) :: S) (SH ++ E, I', J') Q) : Gy xs (some (.invokevirtual 146, len)) 146 pc L (.int (nI r) :: .int (nI n) :: .ref 0 :: S) (SH ++ E, I, J) Q := by
  have n20 := W_N w
  have w0 := w
  obtain ⟨ok, e, h, -⟩ := w
  subst e
  have ea : o_partAt (v_a s) (nI n) (nI r) = nI (rp (v_a s) r (P0 (v_a s)) n) := by unfold o_partAt; rw [il_c hn (by omega), il_c (by omega) (by decide)]
  rw [cy_146 y_ref0]
  refine ⟨hc, Ey_of (C_partAt ok h (nI n) (nI r) fun I' J' a b => ⟨I', J', rfl, Or.inl ⟨rfl, rfl⟩, ?_⟩)⟩
  rw [ea]
  exact K I' J' (W_step w0 ok rfl a b)
theorem z_leader (w : WL8 s A I0 J0 I J) (hn : n < A 0 1) (hc : ab_cat S ≤ 8) (K : ∀ I' J', WL8 s A I0 J0 I' J' → Gy xs (ab_at 146 (pc + 3)) 146 (pc + 3) L (.int (nI (LD A n)) :: S) (SH ++ E, I', J') Q) : Gy xs (some (.invokevirtual 149, len)) 146 pc L (.int (nI n) :: .ref 0 :: S) (SH ++ E, I, J) Q := by
  have n20 := W_N w
  have w0 := w
  obtain ⟨ok, e, h, -⟩ := w
  subst e
  have ea : o_leader (v_a s) (nI n) = nI (LD (v_a s) n) := by unfold o_leader; rw [il_c hn (by omega)]; rfl
  rw [cy_149 y_ref0]
  refine ⟨hc, Ey_of (C_leader ok h (nI n) fun I' J' a b => ⟨I', J', rfl, Or.inl ⟨rfl, rfl⟩, ?_⟩)⟩
  rw [ea]
  exact K I' J' (W_step w0 ok rfl a b)
theorem z_form (w : WL8 s A I0 J0 I J) (hn : n < A 0 1) (hc : ab_cat S ≤ 8) (K : ∀ I' J', WL8 s A I0 J0 I' J' → Gy xs (ab_at 146 (pc + 3)) 146 (pc + 3) L (.int (nmI (FF A n)) :: S) (SH ++ E, I', J') Q) : Gy xs (some (.invokevirtual 154, len)) 146 pc L (.int (nI n) :: .ref 0 :: S) (SH ++ E, I, J) Q := by
  have n20 := W_N w
  have w0 := w
  obtain ⟨ok, e, h, -⟩ := w
  subst e
  have ea : o_form (v_a s) (nI n) = nmI (FF (v_a s) n) := by unfold o_form; rw [il_c hn (by omega)]; rfl
  rw [cy_154 y_ref0]
  refine ⟨hc, Ey_of (C_form ok h (nI n) fun I' J' a b => ⟨I', J', rfl, Or.inl ⟨rfl, rfl⟩, ?_⟩)⟩
  rw [ea]
  exact K I' J' (W_step w0 ok rfl a b)
theorem z_number (w : WL8 s A I0 J0 I J) (hn : n < A 0 1) (hc : ab_cat S ≤ 8) (K : ∀ I' J', WL8 s A I0 J0 I' J' → Gy xs (ab_at 146 (pc + 3)) 146 (pc + 3) L (.long (nvL (FF A n)) :: S) (SH ++ E, I', J') Q) : Gy xs (some (.invokevirtual 157, len)) 146 pc L (.int (nI n) :: .ref 0 :: S) (SH ++ E, I, J) Q := by
  have n20 := W_N w
  have w0 := w
  obtain ⟨ok, e, h, -⟩ := w
  subst e
  have ea : o_number (v_a s) (nI n) = nvL (FF (v_a s) n) := by unfold o_number; rw [if_pos ⟨by rw [q_le (by omega) (by omega)]; omega, by rw [q_lt (by omega) (by omega)]; exact hn⟩, nI_clamp (by omega)]; rfl
  rw [cy_157 y_ref0]
  refine ⟨hc, Ey_of (C_number ok h (nI n) fun I' J' a b => ⟨I', J', rfl, Or.inl ⟨rfl, rfl⟩, ?_⟩)⟩
  rw [ea]
  exact K I' J' (W_step w0 ok rfl a b)
theorem z_cl1 (w : WL8 s A I0 J0 I J) (hc : ab_cat S ≤ 8) (K : ∀ I' J', WL8 s A I0 J0 I' J' → Gy xs (ab_at 146 (pc + 3)) 146 (pc + 3) L (.int (nI (rc A 100 (P0 A))) :: S) (SH ++ E, I', J') Q) : Gy xs (some (.invokevirtual 141, len)) 146 pc L (.int (nI 1) :: .ref 0 :: S) (SH ++ E, I, J) Q := by
  have n20 := W_N w
  have w0 := w
  obtain ⟨ok, e, h, -⟩ := w
  subst e
  have ea : o_classes (v_a s) (nI 1) = nI (rc (v_a s) 100 (P0 (v_a s))) := by unfold o_classes; rw [il_c (by decide) (by decide)]; rfl
  rw [cy_141 y_ref0]
  refine ⟨hc, Ey_of (C_classes ok h (nI 1) fun I' J' a b => ⟨I', J', rfl, Or.inl ⟨rfl, rfl⟩, ?_⟩)⟩
  rw [ea]
  exact K I' J' (W_step w0 ok rfl a b)
theorem z_cl0 (w : WL8 s A I0 J0 I J) (hc : ab_cat S ≤ 8) (K : ∀ I' J', WL8 s A I0 J0 I' J' → Gy xs (ab_at 146 (pc + 3)) 146 (pc + 3) L (.int (nI (cn (fun n => decide (PP A n = n ∧ ¬ A 10 n = 8)) (A 0 1))) :: S) (SH ++ E, I', J') Q) : Gy xs (some (.invokevirtual 141, len)) 146 pc L (.int (nI 0) :: .ref 0 :: S) (SH ++ E, I, J) Q := by
  have n20 := W_N w
  have w0 := w
  obtain ⟨ok, e, h, -⟩ := w
  subst e
  have ea : o_classes (v_a s) (nI 0) = nI (cn (fun n => decide (PP (v_a s) n = n ∧ ¬ (v_a s) 10 n = 8)) ((v_a s) 0 1)) := by unfold o_classes; rw [il_c (by decide) (by decide)]; exact congrArg nI (many_same (PP_IDM ok.1.2.1)).symm
  rw [cy_141 y_ref0]
  refine ⟨hc, Ey_of (C_classes ok h (nI 0) fun I' J' a b => ⟨I', J', rfl, Or.inl ⟨rfl, rfl⟩, ?_⟩)⟩
  rw [ea]
  exact K I' J' (W_step w0 ok rfl a b)
theorem z_agree {u : Nat} {x : Int32} (w : WL8 s A I0 J0 I J) (o : OZ A) (hu : 1 ≤ u ∧ u ≤ 50) (hn : n < A 0 1) (hm : m < A 0 1) (hw : WOK A (some (n, m))) (hc : ab_cat S ≤ 8) (K : ∀ I' J', WL8 s A I0 J0 I' J' → Gy xs (ab_at 146 (pc + 3)) 146 (pc + 3) L (.int (nI 0) :: S) (SH ++ E, I', J') Q) : Gy xs (some (.invokevirtual 160, len)) 146 pc L (.int (nI 0) :: .int (nI m) :: .int (nI n) :: .int (nI u) :: .int x :: .ref 0 :: S) (SH ++ E, I, J) Q := by
  have n20 := W_N w
  have w0 := w
  obtain ⟨ok, e, h, -⟩ := w
  subst e
  have ea : o_agree (v_a s) x (nI u) (nI n) (nI m) (nI 0) = nI 0 := by
    unfold o_agree
    rw [if_pos ⟨⟨by rw [q_le (by omega) (by omega)]; omega, by rw [q_le (by omega) (by omega)]; omega⟩, ⟨by rw [q_le (by omega) (by omega)]; omega, by rw [q_lt (by omega) (by omega)]; exact hn⟩, ⟨by rw [q_le (by omega) (by omega)]; omega, by rw [q_lt (by omega) (by omega)]; exact hm⟩, by decide, by decide⟩, if_pos rfl, nI_clamp (by omega), nI_clamp (by omega), nI_clamp (by omega)]
    exact ag_all o hw _ _ _ _
  rw [cy_160 y_ref0]
  refine ⟨hc, Ey_of (C_agree ok h x (nI u) (nI n) (nI m) (nI 0) fun I' J' a b => ⟨I', J', rfl, Or.inl ⟨rfl, rfl⟩, ?_⟩)⟩
  rw [ea]
  exact K I' J' (W_step w0 ok rfl a b)
end LWC
