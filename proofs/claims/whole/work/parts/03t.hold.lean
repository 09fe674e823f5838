/-! THE TABLES HOLD -/
def ab_BIG : List Cond := lw_tbl.filter goodWord
def ab_has (q : ab_P) (w : Cond) : Bool := decide ((ab_tb q.1)[q.2]? = some w) && goodWord w
theorem ab_sels_app (a b : List (MethodName × Nat)) : k2_sels (a ++ b) = k2_sels a ++ k2_sels b := by simp [k2_sels]
theorem ab_tb_in {j : Nat} {w : Cond} (h : w ∈ ab_tb j) : w ∈ lw_tbl := by
  have e1 : k2_sels lw_privs = k2_sels lw_privs_1 ++ (k2_sels lw_privs_2 ++ (k2_sels lw_privs_3 ++ (k2_sels lw_privs_4 ++ (k2_sels lw_privs_5 ++ k2_sels lw_privs_6)))) := by
    unfold lw_privs
    simp only [ab_sels_app]
  unfold lw_tbl tables_1
  rw [e1]
  unfold ab_tb at h
  simp only [List.mem_append]
  split at h
  all_goals first | (exact absurd h List.not_mem_nil) | simp only [h, true_or, or_true]
theorem ab_has_mem {q : ab_P} {w : Cond} (h : ab_has q w = true) : w ∈ ab_BIG := by
  unfold ab_has at h
  rw [Bool.and_eq_true, decide_eq_true_eq] at h
  exact List.mem_filter.mpr ⟨ab_tb_in (List.mem_of_getElem? h.1), h.2⟩
theorem ab_BIG_good : ∀ w ∈ ab_BIG, (w.onTables && w.keeps) = true ∨ ∃ ty, w = .arrayClass ty := fun w h => good_of_word (List.mem_filter.mp h).2
theorem ab_BIG_in : ∀ w ∈ ab_BIG, w ∈ lw_tbl := fun w h => (List.mem_filter.mp h).1
def ab_flT (e : Nat × Nat × Nat × Nat × ab_P) : Bool := ab_has e.2.2.2.2 (.fieldLink (ab_C e.1) e.2.1 (ab_T e.2.2.1 e.2.2.2.1).1 (ab_T e.2.2.1 e.2.2.2.1).2.1 (ab_T e.2.2.1 e.2.2.2.1).2.2.1)
set_option maxRecDepth 100000 in
theorem ab_flL_ok : ab_flL.all ab_flT = true := by decide +kernel
set_option maxRecDepth 100000 in
theorem ab_kIL_ok : ab_kIL.all (fun e => ab_has e.2.2.2 (.constant (ab_C e.1) e.2.1 e.2.2.1)) = true := by decide +kernel
set_option maxRecDepth 100000 in
theorem ab_kLL_ok : ab_kLL.all (fun e => ab_has e.2.2.2 (.constantLong (ab_C e.1) e.2.1 e.2.2.1)) = true := by decide +kernel
set_option maxRecDepth 100000 in
theorem ab_nwL_ok : ab_nwL.all (fun e => ab_has e.2.2.2.1 (.classLink (ab_C e.1) e.2.1 (ab_C e.2.2.1)) && ab_has e.2.2.2.2.1 (.instantiable (ab_C e.2.2.1) (ab_N e.2.2.1)) && ab_has e.2.2.2.2.2 (.initialized (ab_C e.2.2.1))) = true := by decide +kernel
def ab_MT (q : ab_MI) : Bool := match q with
  | (own, y, b, ml, ret, n, pc, pn, pi, ps, pt) => ab_has pn (.initialized y.cls) && decide (y.cls = ab_C own) && plainName y.cls && decide (y.cls ≠ "java/lang/invoke/MethodHandle") && decide (y.cls ≠ "java/lang/invoke/VarHandle") && decide ((parseMethodDescriptor y.desc).map (fun d => d.parameters.length) = some n) && decide ((parseMethodDescriptor y.desc).map (fun d => d.returnType) = some ret) && (if pt = (0, 0) then ab_has pi (.instanceMethod y) && (decide (y.name = "<init>" ∧ ret = none) || ab_has ps (.selects y.cls y y)) else ab_has pt (.static y))
/-- places of the words that tell how a class lays its fields -/
def ab_ly0 : List ab_P := [(2, 4), (2, 6), (2, 8)]
def ab_ly1 : List ab_P := [(2, 18)]
def ab_ly2 : List ab_P := [(1, 211), (1, 213), (1, 215), (1, 217), (1, 219), (1, 221), (1, 223), (1, 225), (1, 227), (1, 229)]
def ab_ly3 : List ab_P := [(1, 110), (1, 112), (1, 114), (1, 116), (1, 118), (1, 120), (1, 122), (1, 124), (1, 126), (1, 128), (1, 130), (1, 132), (1, 134), (1, 136), (1, 138), (1, 140), (1, 142)]
def ab_ly4 : List ab_P := [(1, 163), (1, 165), (1, 167), (1, 169), (1, 171), (1, 173), (1, 175), (1, 177), (1, 179), (1, 181), (1, 183), (1, 185)]
def ab_ly5 : List ab_P := [(2, 33), (2, 35), (2, 37), (2, 39)]
def ab_ly6 : List ab_P := [(1, 42), (1, 44)]
def ab_ly7 : List ab_P := [(2, 55), (2, 57), (2, 59), (2, 61), (2, 63), (2, 65), (2, 67), (2, 69), (2, 71), (2, 73)]
def ab_ly8 : List ab_P := [(4, 223), (4, 225), (4, 227), (4, 229), (4, 231), (4, 233), (4, 235), (4, 237), (4, 239), (5, 1), (5, 3), (5, 5), (5, 7), (5, 9), (5, 11), (5, 13), (5, 15), (5, 17), (5, 19), (5, 21), (5, 23), (5, 25), (5, 27), (5, 29), (5, 31), (5, 33), (5, 35), (5, 37), (5, 39), (5, 41), (5, 43), (5, 45), (5, 47), (5, 49), (5, 51), (5, 53)]
def ab_lyT (ci : Nat) (ps : List ab_P) : Bool := decide (ps.length = ab_N ci) && (List.range (ab_N ci)).all (fun k => ab_has (ps.getD k (0, 0)) (u_lay (ab_C ci) (ab_T ci) k))
theorem ab_ly_in {ci : Nat} {ps : List ab_P} (h : ab_lyT ci ps = true) : ∀ w ∈ u_ws (ab_C ci) (ab_T ci) (ab_N ci), w ∈ ab_BIG := by
  intro w hw
  obtain ⟨k, hk, rfl⟩ := List.mem_map.mp hw
  unfold ab_lyT at h
  rw [Bool.and_eq_true] at h
  exact ab_has_mem (List.all_eq_true.mp h.2 k hk)
set_option maxRecDepth 100000 in
theorem ab_ly0_ok : ab_lyT 0 ab_ly0 = true := by decide +kernel
set_option maxRecDepth 100000 in
theorem ab_ly1_ok : ab_lyT 1 ab_ly1 = true := by decide +kernel
set_option maxRecDepth 100000 in
theorem ab_ly2_ok : ab_lyT 2 ab_ly2 = true := by decide +kernel
set_option maxRecDepth 100000 in
theorem ab_ly3_ok : ab_lyT 3 ab_ly3 = true := by decide +kernel
set_option maxRecDepth 100000 in
theorem ab_ly4_ok : ab_lyT 4 ab_ly4 = true := by decide +kernel
set_option maxRecDepth 100000 in
theorem ab_ly5_ok : ab_lyT 5 ab_ly5 = true := by decide +kernel
set_option maxRecDepth 100000 in
theorem ab_ly6_ok : ab_lyT 6 ab_ly6 = true := by decide +kernel
set_option maxRecDepth 100000 in
theorem ab_ly7_ok : ab_lyT 7 ab_ly7 = true := by decide +kernel
set_option maxRecDepth 100000 in
theorem ab_ly8_ok : ab_lyT 8 ab_ly8 = true := by decide +kernel
theorem ab_cls_in (ci : Nat) (hci : ci < 9) : ∀ w ∈ u_ws (ab_C ci) (ab_T ci) (ab_N ci), w ∈ ab_BIG := by
  rcases (show ci = 0 ∨ ci = 1 ∨ ci = 2 ∨ ci = 3 ∨ ci = 4 ∨ ci = 5 ∨ ci = 6 ∨ ci = 7 ∨ ci = 8 by omega) with h | h | h | h | h | h | h | h | h <;> subst h
  · exact ab_ly_in ab_ly0_ok
  · exact ab_ly_in ab_ly1_ok
  · exact ab_ly_in ab_ly2_ok
  · exact ab_ly_in ab_ly3_ok
  · exact ab_ly_in ab_ly4_ok
  · exact ab_ly_in ab_ly5_ok
  · exact ab_ly_in ab_ly6_ok
  · exact ab_ly_in ab_ly7_ok
  · exact ab_ly_in ab_ly8_ok
