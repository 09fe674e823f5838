theorem ab_M_ok : ab_M.all ab_MT = true := by
  unfold ab_M
  simp only [List.all_append, ab_M0_ok, ab_M1_ok, ab_M2_ok, ab_M3_ok, ab_M4_ok, ab_M5_ok, ab_M6_ok, ab_M7_ok, ab_M8_ok, ab_M9_ok, ab_M10_ok, ab_M11_ok, ab_M12_ok, ab_M13_ok, ab_M14_ok, Bool.and_self]
def ab_nm (mi : Nat) : MethodName := ((ab_M[mi]?).map (fun q => q.2.1)).getD objectInit
def ab_by (mi : Nat) : ByteArray := ((ab_M[mi]?).map (fun q => q.2.2.1)).getD ⟨#[0xb1]⟩
def ab_mlT (e : Nat × Nat × Nat × Nat × ab_P) : Bool := match e with
  | (own, i, mi, kd, q) =>
    if kd = 0 then ab_has q (.methodLink (ab_C own) i (ab_nm mi)) && decide (((ab_M[mi]?).map (fun q => decide (q.2.2.2.2.2.2.2.2.2.2 = (0, 0)) && decide (¬ q.2.1.name = "<init>"))).getD false = true)
    else if kd = 1 then ab_has q (.methodLink (ab_C own) i (ab_nm mi)) && decide (((ab_M[mi]?).map (fun q => decide (¬ q.2.2.2.2.2.2.2.2.2.2 = (0, 0)))).getD false = true)
    else if kd = 2 then decide (ab_NW[q.2]? = some (.methodLinkNest (ab_C own) i (ab_nm mi) RX7)) && decide (((ab_M[mi]?).map (fun q => decide (¬ q.2.2.2.2.2.2.2.2.2.2 = (0, 0)))).getD false = true)
    else if kd = 3 then ab_has q (.methodLink (ab_C own) i (ab_nm mi)) && decide (((ab_M[mi]?).map (fun q => decide (q.2.2.2.2.2.2.2.2.2.2 = (0, 0)) && decide (q.2.1.name = "<init>") && decide (q.2.2.2.2.1 = none))).getD false = true)
    else if kd = 4 then decide (ab_NW[q.2]? = some (.methodLinkNest (ab_C own) i (ab_nm mi) RX7)) && decide (((ab_M[mi]?).map (fun q => decide (q.2.2.2.2.2.2.2.2.2.2 = (0, 0)) && decide (q.2.1.name = "<init>") && decide (q.2.2.2.2.1 = none))).getD false = true)
    else if kd = 5 then ab_has q (.methodLink (ab_C own) i objectInit)
    else if kd = 6 then ab_has q (.methodLink (ab_C own) i arraycopyName)
    else if kd = 7 then ab_has q (.methodLink (ab_C own) i Lib.Math.max.name)
    else if kd = 8 then ab_has q (.methodLink (ab_C own) i yJ0_length_8abf5)
    else if kd = 9 then ab_has q (.methodLink (ab_C own) i yJ0_charAt_5068e)
    else true
set_option maxRecDepth 100000 in
theorem ab_mlL_ok : ab_mlL.all ab_mlT = true := by decide +kernel
