/-! THE TABLES HOLD -/
def ab_BIG : List Cond := lw_tbl.filter goodWord
def ab_has (q : ab_P) (w : Cond) : Bool := decide ((ab_tb q.1)[q.2]? = some w) && goodWord w
theorem ab_sels_app (a b : List (MethodName × Nat)) : k2_sels (a ++ b) = k2_sels a ++ k2_sels b := by simp [k2_sels]
theorem ab_tb_in {j : Nat} {w : Cond} (h : w ∈ ab_tb j) : w ∈ lw_tbl := by
  have e1 : k2_sels lw_privs = k2_sels lw_privs_1 ++ (k2_sels lw_privs_2 ++ (k2_sels lw_privs_3 ++ (k2_sels lw_privs_4 ++ (k2_sels lw_privs_5 ++ k2_sels lw_privs_6)))) := by
    unfold lw_privs
    simp only [ab_sels_app]
  unfold lw_tbl tables_1
  rw [e1]
  unfold ab_tb at h
  simp only [List.mem_append]
  split at h
  all_goals first | (exact absurd h List.not_mem_nil) | tauto | simp [h]
theorem ab_has_mem {q : ab_P} {w : Cond} (h : ab_has q w = true) : w ∈ ab_BIG := by
  unfold ab_has at h
  rw [Bool.and_eq_true, decide_eq_true_eq] at h
  exact List.mem_filter.mpr ⟨ab_tb_in (List.mem_of_getElem? h.1), h.2⟩
theorem ab_BIG_good : ∀ w ∈ ab_BIG, (w.onTables && w.keeps) = true ∨ ∃ ty, w = .arrayClass ty := fun w h => good_of_word (List.mem_filter.mp h).2
theorem ab_BIG_in : ∀ w ∈ ab_BIG, w ∈ lw_tbl := fun w h => (List.mem_filter.mp h).1
def ab_flT (e : Nat × Nat × Nat × Nat × ab_P) : Bool := ab_has e.2.2.2.2 (.fieldLink (ab_C e.1) e.2.1 (ab_T e.2.2.1 e.2.2.2.1).1 (ab_T e.2.2.1 e.2.2.2.1).2.1 (ab_T e.2.2.1 e.2.2.2.1).2.2.1)
set_option maxRecDepth 100000 in
theorem ab_flL_ok : ab_flL.all ab_flT = true := by decide +kernel
set_option maxRecDepth 100000 in
theorem ab_kIL_ok : ab_kIL.all (fun e => ab_has e.2.2.2 (.constant (ab_C e.1) e.2.1 e.2.2.1)) = true := by decide +kernel
set_option maxRecDepth 100000 in
theorem ab_kLL_ok : ab_kLL.all (fun e => ab_has e.2.2.2 (.constantLong (ab_C e.1) e.2.1 e.2.2.1)) = true := by decide +kernel
set_option maxRecDepth 100000 in
theorem ab_nwL_ok : ab_nwL.all (fun e => ab_has e.2.2.2.1 (.classLink (ab_C e.1) e.2.1 (ab_C e.2.2.1)) && ab_has e.2.2.2.2.1 (.instantiable (ab_C e.2.2.1) (ab_N e.2.2.1)) && ab_has e.2.2.2.2.2 (.initialized (ab_C e.2.2.1))) = true := by decide +kernel
def ab_MT (q : ab_MI) : Bool := match q with
  | (own, y, b, ml, ret, n, pc, pn, pi, ps, pt) => ab_has pc (.code y b ml ret) && ab_has pn (.initialized y.cls) && decide (y.cls = ab_C own) && plainName y.cls && decide (y.cls ≠ "java/lang/invoke/MethodHandle") && decide (y.cls ≠ "java/lang/invoke/VarHandle") && decide ((parseMethodDescriptor y.desc).map (fun d => d.parameters.length) = some n) && decide ((parseMethodDescriptor y.desc).map (fun d => d.returnType) = some ret) && (if pt = (0, 0) then ab_has pi (.instanceMethod y) && (decide (y.name = "<init>" ∧ ret = none) || ab_has ps (.selects y.cls y y)) else ab_has pt (.static y))
set_option maxRecDepth 100000 in
theorem ab_M_ok : ab_M.all ab_MT = true := by decide +kernel
def ab_nm (mi : Nat) : MethodName := ((ab_M[mi]?).map (fun q => q.2.1)).getD objectInit
def ab_by (mi : Nat) : ByteArray := ((ab_M[mi]?).map (fun q => q.2.2.1)).getD ⟨#[0xb1]⟩
def ab_mlT (e : Nat × Nat × Nat × Nat × ab_P) : Bool := match e with
  | (own, i, mi, kd, q) =>
    if kd = 0 then ab_has q (.methodLink (ab_C own) i (ab_nm mi)) && decide (((ab_M[mi]?).map (fun q => decide (q.2.2.2.2.2.2.2.2.2.2 = (0, 0)) && decide (¬ q.2.1.name = "<init>"))).getD false = true)
    else if kd = 1 then ab_has q (.methodLink (ab_C own) i (ab_nm mi)) && decide (((ab_M[mi]?).map (fun q => decide (¬ q.2.2.2.2.2.2.2.2.2.2 = (0, 0)))).getD false = true)
    else if kd = 2 then decide (ab_NW[q.2]? = some (.methodLinkNest (ab_C own) i (ab_nm mi) RX7)) && decide (((ab_M[mi]?).map (fun q => decide (¬ q.2.2.2.2.2.2.2.2.2.2 = (0, 0)))).getD false = true)
    else if kd = 3 then ab_has q (.methodLink (ab_C own) i (ab_nm mi)) && decide (((ab_M[mi]?).map (fun q => decide (q.2.2.2.2.2.2.2.2.2.2 = (0, 0)) && decide (q.2.1.name = "<init>") && decide (q.2.2.2.2.1 = none))).getD false = true)
    else if kd = 4 then decide (ab_NW[q.2]? = some (.methodLinkNest (ab_C own) i (ab_nm mi) RX7)) && decide (((ab_M[mi]?).map (fun q => decide (q.2.2.2.2.2.2.2.2.2.2 = (0, 0)) && decide (q.2.1.name = "<init>") && decide (q.2.2.2.2.1 = none))).getD false = true)
    else if kd = 5 then ab_has q (.methodLink (ab_C own) i objectInit)
    else if kd = 6 then ab_has q (.methodLink (ab_C own) i arraycopyName)
    else if kd = 7 then ab_has q (.methodLink (ab_C own) i Lib.Math.max.name)
    else true
set_option maxRecDepth 100000 in
theorem ab_mlL_ok : ab_mlL.all ab_mlT = true := by decide +kernel
