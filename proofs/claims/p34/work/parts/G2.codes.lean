/-! THE LAW'S CODE decodes -/
def lw_cq (l : List (Nat × Instr × Nat)) : Bool := l.all (fun e => decide (decode cL_law e.1 = .ok (e.2.1, e.2.2)) && ab_lenok e.2.1 e.2.2 && ab_cok 10 15 592 e.2.1)
theorem lw_q0 : lw_cq lw_k0 = true := by decide +kernel
theorem lw_q1 : lw_cq lw_k1 = true := by decide +kernel
theorem lw_q2 : lw_cq lw_k2 = true := by decide +kernel
theorem lw_q3 : lw_cq lw_k3 = true := by decide +kernel
theorem lw_q4 : lw_cq lw_k4 = true := by decide +kernel
theorem lw_q5 : lw_cq lw_k5 = true := by decide +kernel
theorem lw_q6 : lw_cq lw_k6 = true := by decide +kernel
theorem lw_q7 : lw_cq lw_k7 = true := by decide +kernel
theorem lw_q8 : lw_cq lw_k8 = true := by decide +kernel
theorem lw_q9 : lw_cq lw_k9 = true := by decide +kernel
theorem lw_q10 : lw_cq lw_k10 = true := by decide +kernel
theorem lw_q11 : lw_cq lw_k11 = true := by decide +kernel
theorem lw_q12 : lw_cq lw_k12 = true := by decide +kernel
theorem lw_q13 : lw_cq lw_k13 = true := by decide +kernel
theorem lw_q14 : lw_cq lw_k14 = true := by decide +kernel
theorem lw_qa {a b : List (Nat × Instr × Nat)} (h1 : lw_cq a = true) (h2 : lw_cq b = true) : lw_cq (a ++ b) = true := by
  unfold lw_cq at *
  rw [List.all_append, h1, h2]
  rfl
theorem lw_qq : lw_cq ab_c146 = true := lw_qa lw_q0 (lw_qa lw_q1 (lw_qa lw_q2 (lw_qa lw_q3 (lw_qa lw_q4 (lw_qa lw_q5 (lw_qa lw_q6 (lw_qa lw_q7 (lw_qa lw_q8 (lw_qa lw_q9 (lw_qa lw_q10 (lw_qa lw_q11 (lw_qa lw_q12 (lw_qa lw_q13 lw_q14)))))))))))))
theorem lw_cd_ok {pc : Nat} {ins : Instr} {len : Nat} (h : ab_at 146 pc = some (ins, len)) : decode cL_law pc = .ok (ins, len) ∧ ab_lenok ins len = true ∧ ab_cok 10 15 592 ins = true := by
  have e0 : ab_CD.getD 146 [] = ab_c146 := rfl
  unfold ab_at at h
  rw [e0] at h
  cases hf : ab_c146.find? (fun e => e.1 == pc) with
  | none => rw [hf] at h; cases h
  | some e =>
    rw [hf] at h
    have e1 : e.1 = pc := by simpa using List.find?_some hf
    have hm := List.all_eq_true.mp lw_qq e (List.mem_of_find?_eq_some hf)
    obtain ⟨a, b⟩ := e
    simp only [Option.map_some, Option.some.injEq] at h
    subst h
    subst e1
    simp only [Bool.and_eq_true, decide_eq_true_eq] at hm
    exact ⟨hm.1.1, hm.1.2, hm.2⟩
