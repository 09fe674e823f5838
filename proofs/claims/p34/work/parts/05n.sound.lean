/-! SOUNDNESS: what ab_ex says a method does, the machine does -/
theorem ab_M_len : ab_M.length = 146 := by decide +kernel
theorem ab_entry_len {n : Nat} {vs : List Value} (h : (ab_ent vs).length ≤ n) : (ab_entry n vs).length = n := by
  unfold ab_entry
  rw [List.length_append, List.length_replicate]
  omega
theorem ab_ex_sound (sc : Option (List Int32)) (l : Launch) (D : va_G) (y : Nat → ClassId) : ∀ n, ab_CS sc l D y (ab_ex sc n) := by
  intro n
  induction n with
  | zero => intro mi vs h r h' hx; cases hx
  | succ n ih =>
    intro mi vs h r h' hx hwf ad sz
    unfold ab_ex at hx
    split at hx
    · rename_i hc
      obtain ⟨u1, u2, u3, u4, u5, u6, u7⟩ := ab_M_use hc.1
      refine Met.ofW (cc := ab_by mi) (maxL := ab_mxl mi) (ret := ab_rt mi) u4 rfl ?_
      intro p e s m args below meth c s₁ B hml hv
      obtain ⟨rfl, hsz, hE, hP, hD0, hT⟩ := hv
      have hx0 := B.exec
      have hb := B.bytes
      have hr := B.returns
      have hts0 := atoms_spec (ws := ab_w mi) B.pre
      have hts : ∀ w ∈ ab_BIG, w.before ((vs.map (ab_cv ad)).toArray) s = true := fun w hw => hts0 w (List.mem_cons_of_mem _ hw)
      have hown : s.vm.findClass (ab_nm mi).cls = some m.cls := findClass_of_methodNamed B.named
      rw [u3] at hown
      have hlocks := B.notSynchronized
      have hin : meth.name = (ab_nm mi).name := (name_of_methodNamed B.named B.method).1
      subst hsz
      have hD := hD0.self (sz := s.heap.size)
      have hA : ∀ q, s.heap.size ≤ q → va_A (ab_ws y ad h) s.heap.size q := fun q h => Or.inr h
      have hS : va_S (va_A (ab_ws y ad h) s.heap.size) s.heap s.heap [] := va_S.rf
      have hl := lv_entry (vs.map (ab_cv ad)) (n := ab_mxl mi) (by rw [ab_ent_len]; exact hc.2)
      rw [lg_entry_eq]
      have hcode : ∀ pc ins len, ab_at mi pc = some (ins, len) → decode (ab_by mi) pc = .ok (ins, len) ∧ ab_lenok ins len = true ∧ ab_cok (ab_own mi) (ab_fr mi) (ab_lc mi) ins = true := fun pc ins len h => ab_CT_0_146 mi (Nat.zero_le _) (by rw [← ab_M_len]; exact hc.1) pc (ins, len) h
      have hrun := (ab_run_sound (p := p) (e := e) (R := (headSpec (ab_w mi) (ab_rm mi h h')).room) (below := below) (meth := meth) (c := c) (Q := MQ below (ab_Q D y ad h s.heap.size r h') ((vs.map (ab_cv ad)).toArray) s (ab_nx h' - ab_nx h) (ab_sl h' - ab_sl h) (va_A (ab_ws y ad h) s.heap.size)) (A := va_A (ab_ws y ad h) s.heap.size) (ad0 := ad) (h0 := h) (x := (r, h')) (fr := ab_fr mi) (lc := ab_lc mi) hx0 hb hml hown hts hA hE hT ih (fun hi => hin.trans (of_decide_eq_true hi)) (fun xs hxs => hT.2.2.2.2 xs hxs) hcode (Nat.le_refl _) (Nat.le_refl _) ⟨Nat.le_refl _, Nat.le_refl _⟩ (fun pc L S hh ins len hpc he => ab_end_sound (x := (r, h')) hx0 hb hr hlocks (hcode pc ins len hpc).1 (hcode pc ins len hpc).2.1 he) n _ hx).1
      have k := hrun ad s.heap [] _ hP hD hS hwf (ab_has_weak hl (ab_entry_sub ad _ vs)) (ab_entry_len hc.2) ⟨fun _ _ => rfl, fun _ => rfl⟩ (Nat.le_refl _) (Nat.le_refl _)
      have e1 : ab_nx (0, ab_entry (ab_mxl mi) vs, ([] : List Value), h).2.2.2 - ab_nx h = 0 := Nat.sub_self _
      have e2 : ab_sl (0, ab_entry (ab_mxl mi) vs, ([] : List Value), h).2.2.2 - ab_sl h = 0 := Nat.sub_self _
      rw [e1, e2] at k
      exact k
    · cases hx
