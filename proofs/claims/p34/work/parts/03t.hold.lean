/-! THE TABLES HOLD -/
def ab_BIG : List Cond := lw_tbl.filter goodWord
def ab_has (q : ab_P) (w : Cond) : Bool := decide ((ab_tb q.1)[q.2]? = some w) && goodWord w
theorem ab_sels_app (a b : List (MethodName × Nat)) : k2_sels (a ++ b) = k2_sels a ++ k2_sels b := by simp [k2_sels]
theorem ab_tb_in {j : Nat} {w : Cond} (h : w ∈ ab_tb j) : w ∈ lw_tbl := by
  have e1 : k2_sels lw_privs = k2_sels lw_privs_1 ++ (k2_sels lw_privs_2 ++ (k2_sels lw_privs_3)) := by
    unfold lw_privs
    simp only [ab_sels_app]
  unfold lw_tbl tables_1
  rw [e1]
  unfold ab_tb at h
  simp only [List.mem_append]
  split at h
  all_goals first | (exact absurd h List.not_mem_nil) | simp only [h, true_or, or_true]
theorem ab_has_mem {q : ab_P} {w : Cond} (h : ab_has q w = true) : w ∈ ab_BIG := by
  unfold ab_has at h
  rw [Bool.and_eq_true, decide_eq_true_eq] at h
  exact List.mem_filter.mpr ⟨ab_tb_in (List.mem_of_getElem? h.1), h.2⟩
theorem ab_BIG_good : ∀ w ∈ ab_BIG, (w.onTables && w.keeps) = true ∨ ∃ ty, w = .arrayClass ty := fun w h => good_of_word (List.mem_filter.mp h).2
theorem ab_BIG_in : ∀ w ∈ ab_BIG, w ∈ lw_tbl := fun w h => (List.mem_filter.mp h).1
def ab_flT (e : Nat × Nat × Nat × Nat × ab_P) : Bool := ab_has e.2.2.2.2 (.fieldLink (ab_C e.1) e.2.1 (ab_T e.2.2.1 e.2.2.2.1).1 (ab_T e.2.2.1 e.2.2.2.1).2.1 (ab_T e.2.2.1 e.2.2.2.1).2.2.1)
set_option maxRecDepth 100000 in
theorem ab_flL_ok : ab_flL.all ab_flT = true := by decide +kernel
set_option maxRecDepth 100000 in
theorem ab_kIL_ok : ab_kIL.all (fun e => ab_has e.2.2.2 (.constant (ab_C e.1) e.2.1 e.2.2.1)) = true := by decide +kernel
set_option maxRecDepth 100000 in
theorem ab_kLL_ok : ab_kLL.all (fun e => ab_has e.2.2.2 (.constantLong (ab_C e.1) e.2.1 e.2.2.1)) = true := by decide +kernel
set_option maxRecDepth 100000 in
theorem ab_nwL_ok : ab_nwL.all (fun e => ab_has e.2.2.2.1 (.classLink (ab_C e.1) e.2.1 (ab_C e.2.2.1)) && ab_has e.2.2.2.2.1 (.instantiable (ab_C e.2.2.1) (ab_N e.2.2.1)) && ab_has e.2.2.2.2.2 (.initialized (ab_C e.2.2.1))) = true := by decide +kernel
def ab_MT (q : ab_MI) : Bool := match q with
  | (own, y, b, ml, ret, n, pc, pn, pi, ps, pt) => ab_has pn (.initialized y.cls) && decide (y.cls = ab_C own) && plainName y.cls && decide (y.cls ≠ "java/lang/invoke/MethodHandle") && decide (y.cls ≠ "java/lang/invoke/VarHandle") && decide ((parseMethodDescriptor y.desc).map (fun d => d.parameters.length) = some n) && decide ((parseMethodDescriptor y.desc).map (fun d => d.returnType) = some ret) && (if pt = (0, 0) then ab_has pi (.instanceMethod y) && (decide (y.name = "<init>" ∧ ret = none) || ab_has ps (.selects y.cls y y)) else ab_has pt (.static y))
/-- places of the words that tell how a class lays its fields -/
def ab_ly0 : List ab_P := [(1, 232), (1, 234), (1, 236)]
def ab_ly1 : List ab_P := [(2, 6)]
def ab_ly2 : List ab_P := [(1, 199), (1, 201), (1, 203), (1, 205), (1, 207), (1, 209), (1, 211), (1, 213), (1, 215), (1, 217)]
def ab_ly3 : List ab_P := [(1, 99), (1, 101), (1, 103), (1, 105), (1, 107), (1, 109), (1, 111), (1, 113), (1, 115), (1, 117), (1, 119), (1, 121), (1, 123), (1, 125), (1, 127), (1, 129), (1, 131)]
def ab_ly4 : List ab_P := [(1, 152), (1, 154), (1, 156), (1, 158), (1, 160), (1, 162), (1, 164), (1, 166), (1, 168), (1, 170), (1, 172), (1, 174)]
def ab_ly5 : List ab_P := [(2, 19), (2, 21), (2, 23), (2, 25)]
def ab_ly6 : List ab_P := [(1, 40), (1, 42)]
def ab_ly7 : List ab_P := [(2, 41), (2, 43), (2, 45), (2, 47), (2, 49), (2, 51), (2, 53), (2, 55), (2, 57), (2, 59)]
def ab_lyT (ci : Nat) (ps : List ab_P) : Bool := decide (ps.length = ab_N ci) && (List.range (ab_N ci)).all (fun k => ab_has (ps.getD k (0, 0)) (u_lay (ab_C ci) (ab_T ci) k))
theorem ab_ly_in {ci : Nat} {ps : List ab_P} (h : ab_lyT ci ps = true) : ∀ w ∈ u_ws (ab_C ci) (ab_T ci) (ab_N ci), w ∈ ab_BIG := by
  intro w hw
  obtain ⟨k, hk, rfl⟩ := List.mem_map.mp hw
  unfold ab_lyT at h
  rw [Bool.and_eq_true] at h
  exact ab_has_mem (List.all_eq_true.mp h.2 k hk)
