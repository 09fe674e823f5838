def ab_tyok : FieldType → Bool
  | .int => true
  | .boolean => true
  | .long => true
  | .object _ => true
  | .array _ => true
  | _ => false
theorem ab_ty_ok (ci : Nat) (hci : ci < 8) : ∀ j, j < ab_N ci → ab_tyok (ab_ty ci j) = true := by
  rcases (show ci = 0 ∨ ci = 1 ∨ ci = 2 ∨ ci = 3 ∨ ci = 4 ∨ ci = 5 ∨ ci = 6 ∨ ci = 7 by omega) with h | h | h | h | h | h | h | h <;> subst h <;> decide +kernel
theorem ab_arrI : Cond.arrayClass .int ∈ ab_BIG := ab_has_mem (q := (1, 134)) (by decide +kernel)
theorem ab_arrJ : Cond.arrayClass .long ∈ ab_BIG := ab_has_mem (q := (1, 220)) (by decide +kernel)
theorem ab_arrZ : Cond.arrayClass .boolean ∈ ab_BIG := ab_has_mem (q := (1, 135)) (by decide +kernel)
theorem ab_arrB : Cond.arrayClass .byte ∈ ab_BIG := ab_has_mem (q := (1, 45)) (by decide +kernel)
section ABS
variable {p : Program} {l : Launch} {e : Env} {R : Room} {s : State} {m : MethodId} {args : Array Value} {below : List Frame} {meth : Method} {c : Code} {Q : State → Prop} {A : Nat → Prop} {D : va_G} {y : Nat → ClassId} {nL : Nat} {ad0 : Nat → Nat} {h0 : ab_H} {cc : ByteArray} {pc : Nat} {L : ab_L} {S : List Value} {h : ab_H}
theorem ab_add_get {ns : List (Nat × Nat × List (Option Nat))} {o : Nat} (ho : o < ab_nx h) : (ab_add h ns).1[o]? = h.1[o]? := List.getElem?_append_left ho
theorem ab_add_rf {ns : List (Nat × Nat × List (Option Nat))} {o k : Nat} (ho : o < ab_nx h) : ab_rf (ab_add h ns) o k = ab_rf h o k := by
  unfold ab_rf
  rw [ab_add_get ho]
theorem ab_add_cell {ns : List (Nat × Nat × List (Option Nat))} {ad ad' : Nat → Nat} {o : Nat} (hw : ab_wf h) (hf : ∀ q, q < ab_nx h → ad' q = ad q) (ho : o < ab_nx h) : ab_cell y ad' (ab_add h ns) o = ab_cell y ad h o := by
  have e1 : ab_kd (ab_add h ns) o = ab_kd h o := by unfold ab_kd; rw [ab_add_get ho]
  have e2 : ab_ln (ab_add h ns) o = ab_ln h o := by unfold ab_ln; rw [ab_add_get ho]
  have e3 : (ab_add h ns).2.1 o = h.2.1 o := funext fun k => if_pos ho
  have e4 : (ab_add h ns).2.2 o = h.2.2 o := funext fun k => if_pos ho
  have e5 : ∀ i, (ab_rf (ab_add h ns) o i).map ad' = (ab_rf h o i).map ad := by
    intro i
    rw [ab_add_rf ho]
    cases hr : ab_rf h o i with
    | none => rfl
    | some r => exact congrArg some (hf r (hw o i r hr))
  have e6 : ∀ k ty, ab_cv ad' (ab_gv (ab_add h ns) o k ty) = ab_cv ad (ab_gv h o k ty) := by
    intro k ty
    have e7 : ab_cv ad' (va_rf (ab_rf (ab_add h ns) o k)) = ab_cv ad (va_rf (ab_rf h o k)) := by rw [← ab_rf_cv, ← ab_rf_cv, e5]
    cases ty <;> first | exact e7 | (simp only [ab_gv, e3, e4]; rfl)
  unfold ab_cell
  rw [e1, e2, e3, e4]
  simp only [e5, e6]
theorem ab_ws_add {ns : List (Nat × Nat × List (Option Nat))} {ad ad' : Nat → Nat} (hw : ab_wf h) (hf : ∀ q, q < ab_nx h → ad' q = ad q) : ab_ws y ad' (ab_add h ns) = ab_ws y ad h ++ (List.range ns.length).map (fun i => (ad' (ab_nx h + i), ab_cell y ad' (ab_add h ns) (ab_nx h + i))) := by
  have e : ab_nx (ab_add h ns) = ab_nx h + ns.length := List.length_append
  unfold ab_ws
  rw [e, List.range_add, List.map_append, List.map_map]
  congr 1
  apply List.map_congr_left
  intro o ho
  have ho := List.mem_range.mp ho
  rw [hf o ho, ab_add_cell hw hf ho]
def ab_ad (ad : Nat → Nat) (n q : Nat) : Nat → Nat := fun o => if o = n then q else ad o
theorem ab_ad_new (ad : Nat → Nat) (n q : Nat) : ab_ad ad n q n = q := if_pos rfl
theorem ab_ad_lt {ad : Nat → Nat} {n q o : Nat} (h : o < n) : ab_ad ad n q o = ad o := if_neg (by omega)
theorem ab_ok_cv {ad ad' : Nat → Nat} {n : Nat} {v : Value} (hv : ab_ok n v = true) (hf : ∀ o, o < n ∨ 1000 ≤ o → ad' o = ad o) : ab_cv ad' v = ab_cv ad v := by
  cases v <;> first | rfl | skip
  rename_i o
  simp only [ab_ok, Bool.or_eq_true, decide_eq_true_eq] at hv
  exact congrArg Value.ref (hf o hv)
theorem ab_ok_S {ad ad' : Nat → Nat} {n : Nat} (hv : S.all (ab_ok n) = true) (hf : ∀ o, o < n ∨ 1000 ≤ o → ad' o = ad o) : S.map (ab_cv ad') = S.map (ab_cv ad) := List.map_congr_left fun v hm => ab_ok_cv (List.all_eq_true.mp hv v hm) hf
theorem ab_ok_L {ad ad' : Nat → Nat} {n : Nat} (hv : L.all (fun v => (v.map (ab_ok n)).getD true) = true) (hf : ∀ o, o < n ∨ 1000 ≤ o → ad' o = ad o) : ∀ q ∈ ab_le ad' L, q ∈ ab_le ad L := by
  intro q hq
  obtain ⟨v, h1, h2⟩ := ab_le_mem.mp hq
  refine ab_le_mem.mpr ⟨v, h1, ?_⟩
  rw [h2]
  refine ab_ok_cv ?_ hf
  have hm : some v ∈ L := by
    rw [List.getD_eq_getElem?_getD] at h1
    cases hL : L[q.1]? with
    | none => rw [hL] at h1; cases h1
    | some x =>
      rw [hL] at h1
      have h1 : x = some v := h1
      subst h1
      exact List.mem_of_getElem? hL
  exact List.all_eq_true.mp hv _ hm
theorem ab_fx_ad {ad : Nat → Nat} {ns : List (Nat × Nat × List (Option Nat))} {ad' : Nat → Nat} (hfix : ab_fx ad ad0 h0 h) (hn1 : ab_nx h0 ≤ ab_nx h) (hpos : 0 < ns.length) (hf : ∀ o, o < ab_nx h ∨ 1000 ≤ o → ad' o = ad o) : ab_fx ad' ad0 h0 (ab_add h ns) := by
  refine ⟨fun o ho => ?_, fun z => ?_⟩
  · rw [hf o (ho.elim (fun w => Or.inl (by omega)) Or.inr)]
    exact hfix.1 o ho
  · have e : ab_nx (ab_add h ns) = ab_nx h + ns.length := List.length_append
    omega
theorem ab_add_wf {ns : List (Nat × Nat × List (Option Nat))} (hw : ab_wf h) (hr : ∀ x ∈ ns, ∀ k r, x.2.2.getD k none = some r → r < ab_nx h + ns.length) : ab_wf (ab_add h ns) := by
  intro o k r ho
  have e : ab_nx (ab_add h ns) = ab_nx h + ns.length := List.length_append
  rw [e]
  rcases Nat.lt_or_ge o (ab_nx h) with hlt | hge
  · rw [ab_add_rf hlt] at ho
    have := hw o k r ho
    omega
  · unfold ab_rf at ho
    have e2 : (ab_add h ns).1[o]? = ns[o - ab_nx h]? := List.getElem?_append_right hge
    rw [e2] at ho
    cases hx : ns[o - ab_nx h]? with
    | none => rw [hx] at ho; cases ho
    | some x =>
      rw [hx] at ho
      exact hr x (List.mem_of_getElem? hx) k r ho
theorem ab_sl_add (ns : List (Nat × Nat × List (Option Nat))) : ab_sl (ab_add h ns) = ab_sl h + (ns.map (fun x => x.2.1)).sum := by
  unfold ab_sl ab_add
  rw [List.map_append, List.sum_append]
theorem ab_new_cell0 (kd ln : Nat) (rs : List (Option Nat)) : ab_kd (ab_new h kd ln rs) (ab_nx h) = kd ∧ ab_ln (ab_new h kd ln rs) (ab_nx h) = ln ∧ (∀ k, ab_rf (ab_new h kd ln rs) (ab_nx h) k = rs.getD k none) ∧ (ab_new h kd ln rs).2.1 (ab_nx h) = (fun _ => 0) ∧ (ab_new h kd ln rs).2.2 (ab_nx h) = (fun _ => 0) := by
  have e : (ab_new h kd ln rs).1[ab_nx h]? = some (kd, ln, rs) := by
    show (h.1 ++ [(kd, ln, rs)])[h.1.length]? = _
    rw [List.getElem?_append_right (Nat.le_refl _), Nat.sub_self]
    rfl
  refine ⟨by unfold ab_kd; rw [e]; rfl, by unfold ab_ln; rw [e]; rfl, fun k => by unfold ab_rf; rw [e]; rfl, funext fun k => if_neg (Nat.lt_irrefl _), funext fun k => if_neg (Nat.lt_irrefl _)⟩
theorem ab_new_ws {ad : Nat → Nat} {kd ln q : Nat} {rs : List (Option Nat)} {e : va_E} (hw : ab_wf h) (he : ab_cell y (ab_ad ad (ab_nx h) q) (ab_new h kd ln rs) (ab_nx h) = e) : ab_ws y ad h ++ [(q, e)] = ab_ws y (ab_ad ad (ab_nx h) q) (ab_new h kd ln rs) := by
  have h1 := ab_ws_add (y := y) (ns := [(kd, ln, rs)]) (ad := ad) (ad' := ab_ad ad (ab_nx h) q) hw (fun o ho => ab_ad_lt ho)
  have h2 : ab_ws y (ab_ad ad (ab_nx h) q) (ab_new h kd ln rs) = _ := h1
  rw [h2]
  congr 1
  show _ = [(ab_ad ad (ab_nx h) q (ab_nx h + 0), ab_cell y (ab_ad ad (ab_nx h) q) (ab_new h kd ln rs) (ab_nx h + 0))]
  rw [Nat.add_zero, he, ab_ad_new]
theorem abs_newobj (hx : p.tables.exec = Jvm.exec) (hb : c.code = cc) {own i ci : Nat} (hown : s.vm.findClass (ab_C own) = some m.cls) (hts : ∀ w ∈ ab_BIG, w.before args s = true) (hA : ∀ q, s.heap.size ≤ q → A q) (hE : ab_EF D y s) (hf : ab_nw own i = some ci) (hci : ci < 8) (h1000 : ab_nx h < 1000) (hL : L.all (fun v => (v.map (ab_ok (ab_nx h))).getD true) = true) (hSS : S.all (ab_ok (ab_nx h)) = true)
    (hR : ab_nx h + 1 - ab_nx h0 ≤ R.cells ∧ ab_sl h + ab_N ci - ab_sl h0 ≤ R.slots) (hd : decode cc pc = .ok (.new i, 3)) (k1 : ab_Sim p l e R s m args below meth c Q A D y nL ad0 h0 (pc + 3, L, .ref (ab_nx h) :: S, ab_new h ci (ab_N ci) (List.replicate (ab_N ci) none))) : ab_Sim p l e R s m args below meth c Q A D y nL ad0 h0 (pc, L, S, h) := by
  obtain ⟨w1, w2, w3⟩ := ab_nw_spec hf
  obtain ⟨c1, c2, c3, c4, c5⟩ := ab_new_cell0 (h := h) ci (ab_N ci) (List.replicate (ab_N ci) none)
  intro ad H locs ls hP hD hS hw hl hlen hfix hn1 hn2
  have hn1 : ab_nx h0 ≤ ab_nx h := hn1
  have hn2 : ab_sl h0 ≤ ab_sl h := hn2
  have hgv : ∀ j, ab_gv (ab_new h ci (ab_N ci) (List.replicate (ab_N ci) none)) (ab_nx h) j (ab_ty ci j) = ab_gv (ab_new h ci (ab_N ci) (List.replicate (ab_N ci) none)) (ab_nx h) j (ab_ty ci j) := fun _ => rfl
  have hdef : ∀ j, j < ab_N ci → defaultValue (ab_ty ci j) = ab_gv (ab_new h ci (ab_N ci) (List.replicate (ab_N ci) none)) (ab_nx h) j (ab_ty ci j) := by
    intro j hj
    have ht := ab_ty_ok ci hci j hj
    have e : ab_rf (ab_new h ci (ab_N ci) (List.replicate (ab_N ci) none)) (ab_nx h) j = none := by
      rw [c3]
      simp [List.getD_eq_getElem?_getD, List.getElem?_replicate, hj]
    cases hty : ab_ty ci j <;> rw [hty] at ht <;> first | (simp [ab_tyok] at ht; done) | skip
    all_goals simp only [defaultValue, ab_gv, e, c4, c5, va_rf]
  have hcv : ∀ (ad' : Nat → Nat) j, j < ab_N ci → ab_cv ad' (defaultValue (ab_ty ci j)) = defaultValue (ab_ty ci j) := by
    intro ad' j hj
    cases ab_ty ci j <;> rfl
  refine va_new (C := ab_C ci) (T := ab_T ci) (N := ab_N ci) (ci := ci) (fs := (List.range (ab_N ci)).map (fun j => defaultValue (ab_ty ci j))) hx hb hts (ab_cls_in ci hci) (ab_ty ci) (ab_cls_ty ci hci) hown (hts _ w1) (hts _ w2) (hts _ w3) hE.1 hP hD hS hA (ab_cls ci hci) (fun j hj => ?_) (by show ab_nx h - ab_nx h0 + 1 ≤ R.cells; omega) (by show ab_sl h - ab_sl h0 + ab_N ci ≤ R.slots; omega) hd (fun q H1 hP1 hD1 hS1 => ?_)
  · unfold vp_V
    rw [List.getD_eq_getElem?_getD, List.getElem?_map, List.getElem?_range hj]
    rfl
  · have hfe : ∀ o, o < ab_nx h ∨ 1000 ≤ o → ab_ad ad (ab_nx h) q o = ad o := fun o ho => if_neg (by omega)
    have hws := ab_new_ws (y := y) (ad := ad) (kd := ci) (ln := ab_N ci) (q := q) (rs := List.replicate (ab_N ci) none) (e := .inr (ci, (List.range (ab_N ci)).map (fun j => defaultValue (ab_ty ci j)))) hw (by
      rw [ab_cell_obj c1 hci]
      congr 2
      apply List.map_congr_left
      intro j hj
      have hj := List.mem_range.mp hj
      rw [← hdef j hj]
      exact hcv _ j hj)
    rw [hws] at hP1 hD1
    have k2 := k1 (ab_ad ad (ab_nx h) q) H1 locs ls hP1 hD1 hS1 (ab_add_wf hw (fun x hx2 k r hr => by
      rcases List.mem_singleton.mp hx2 with rfl
      simp [List.getD_eq_getElem?_getD, List.getElem?_replicate] at hr
      split at hr <;> simp at hr)) (ab_has_weak hl (ab_ok_L hL hfe)) hlen (ab_fx_ad hfix hn1 (by simp) hfe) (by
        show ab_nx h0 ≤ ab_nx (ab_add h _)
        have e : ab_nx (ab_add h [(ci, ab_N ci, List.replicate (ab_N ci) none)]) = ab_nx h + 1 := List.length_append
        omega) (by
        show ab_sl h0 ≤ ab_sl (ab_add h _)
        rw [ab_sl_add]
        omega)
    have e1 : ab_nx (pc + 3, L, Value.ref (ab_nx h) :: S, ab_new h ci (ab_N ci) (List.replicate (ab_N ci) none)).2.2.2 - ab_nx h0 = ab_nx h - ab_nx h0 + 1 := by
      have e : ab_nx (ab_add h [(ci, ab_N ci, List.replicate (ab_N ci) none)]) = ab_nx h + 1 := List.length_append
      show ab_nx (ab_add h _) - ab_nx h0 = _
      rw [e]
      omega
    have e2 : ab_sl (pc + 3, L, Value.ref (ab_nx h) :: S, ab_new h ci (ab_N ci) (List.replicate (ab_N ci) none)).2.2.2 - ab_sl h0 = ab_sl h - ab_sl h0 + ab_N ci := by
      show ab_sl (ab_add h _) - ab_sl h0 = _
      rw [ab_sl_add]
      simp
      omega
    rw [e1, e2] at k2
    have e3 : (pc + 3, L, Value.ref (ab_nx h) :: S, ab_new h ci (ab_N ci) (List.replicate (ab_N ci) none)).2.2.1.map (ab_cv (ab_ad ad (ab_nx h) q)) = Value.ref q :: S.map (ab_cv ad) := by
      show ab_cv _ (.ref (ab_nx h)) :: S.map _ = _
      rw [ab_ok_S hSS hfe]
      show Value.ref (ab_ad ad (ab_nx h) q (ab_nx h)) :: _ = _
      rw [ab_ad_new]
    rw [e3] at k2
    exact k2
theorem abs_newarr (hx : p.tables.exec = Jvm.exec) (hb : c.code = cc) {at1 : ArrayType} {n : Int32} {kd t0 : Nat} {ty : FieldType} (hts : ∀ w ∈ ab_BIG, w.before args s = true) (hA : ∀ q, s.heap.size ≤ q → A q) (hE : ab_EF D y s) (hk : (at1 = .int ∧ kd = 10 ∧ ty = .int ∧ t0 = 0) ∨ (at1 = .long ∧ kd = 11 ∧ ty = .long ∧ t0 = 1) ∨ (at1 = .boolean ∧ kd = 12 ∧ ty = .boolean ∧ t0 = 2) ∨ (at1 = .byte ∧ kd = 13 ∧ ty = .byte ∧ t0 = 3)) (h0n : 0 ≤ n) (h1k : n.toNatClampNeg ≤ 1000) (h1000 : ab_nx h < 1000) (hL : L.all (fun v => (v.map (ab_ok (ab_nx h))).getD true) = true) (hSS : S.all (ab_ok (ab_nx h)) = true)
    (hR : ab_nx h + 1 - ab_nx h0 ≤ R.cells ∧ ab_sl h + n.toNatClampNeg - ab_sl h0 ≤ R.slots) (hd : decode cc pc = .ok (.newarray at1, 2)) (k1 : ab_Sim p l e R s m args below meth c Q A D y nL ad0 h0 (pc + 2, L, .ref (ab_nx h) :: S, ab_new h kd n.toNatClampNeg [])) : ab_Sim p l e R s m args below meth c Q A D y nL ad0 h0 (pc, L, .int n :: S, h) := by
  obtain ⟨c1, c2, c3, c4, c5⟩ := ab_new_cell0 (h := h) kd n.toNatClampNeg []
  have hty : newarray.typeOf at1 = ty := by rcases hk with ⟨rfl, -, rfl, -⟩ | ⟨rfl, -, rfl, -⟩ | ⟨rfl, -, rfl, -⟩ | ⟨rfl, -, rfl, -⟩ <;> rfl
  have harr : Cond.arrayClass (newarray.typeOf at1) ∈ ab_BIG := by rcases hk with ⟨rfl, -⟩ | ⟨rfl, -⟩ | ⟨rfl, -⟩ | ⟨rfl, -⟩ <;> first | exact ab_arrI | exact ab_arrJ | exact ab_arrZ | exact ab_arrB
  have htys : (ab_tys y)[t0]? = some (y kd, ty) := by rcases hk with ⟨-, rfl, rfl, rfl⟩ | ⟨-, rfl, rfl, rfl⟩ | ⟨-, rfl, rfl, rfl⟩ | ⟨-, rfl, rfl, rfl⟩ <;> rfl
  have hcb : componentBytes ty ≤ 8 := by rcases hk with ⟨-, -, rfl, -⟩ | ⟨-, -, rfl, -⟩ | ⟨-, -, rfl, -⟩ | ⟨-, -, rfl, -⟩ <;> decide
  intro ad H locs ls hP hD hS hw hl hlen hfix hn1 hn2
  have hn1 : ab_nx h0 ≤ ab_nx h := hn1
  have hn2 : ab_sl h0 ≤ ab_sl h := hn2
  have hRA := (hE.1.2 t0 _ htys).2
  refine va_newa (a0 := (n.toNatClampNeg, if kd = 11 then .inr (.inl (fun _ => 0)) else .inl (fun _ => 0))) hx hb (hts _ harr) hty hE.1 hP hD hS hA (fun cA => ?_) (Int32.not_lt.mpr h0n) rfl (Nat.le_trans (Nat.mul_le_mul h1k hcb) (by decide)) (by show ab_nx h - ab_nx h0 + 1 ≤ R.cells; omega) (by show ab_sl h - ab_sl h0 + n.toNatClampNeg ≤ R.slots; omega) hd (fun q cA H1 hK1 hP1 hD1 hS1 => ?_)
  · rcases hk with ⟨-, rfl, rfl, -⟩ | ⟨-, rfl, rfl, -⟩ | ⟨-, rfl, rfl, -⟩ | ⟨-, rfl, rfl, -⟩ <;> rfl
  · have hRA1 := (hK1.2 (ab_tys y).length (cA, ty) (by rw [List.getElem?_append_right (Nat.le_refl _), Nat.sub_self]; rfl)).2
    have hcA : cA = y kd := by
      rcases hk with ⟨-, rfl, rfl, -⟩ | ⟨-, rfl, rfl, -⟩ | ⟨-, rfl, rfl, -⟩ | ⟨-, rfl, rfl, -⟩ <;> exact Option.some.inj (hRA1.symm.trans hRA)
    subst hcA
    have hfe : ∀ o, o < ab_nx h ∨ 1000 ≤ o → ab_ad ad (ab_nx h) q o = ad o := fun o ho => if_neg (by omega)
    have hws := ab_new_ws (y := y) (ad := ad) (kd := kd) (ln := n.toNatClampNeg) (q := q) (rs := []) (e := .inl (y kd, (n.toNatClampNeg, if kd = 11 then .inr (.inl (fun _ => 0)) else .inl (fun _ => 0)))) hw (by
      rcases hk with ⟨-, rfl, -, -⟩ | ⟨-, rfl, -, -⟩ | ⟨-, rfl, -, -⟩ | ⟨-, rfl, -, -⟩
      · rw [ab_cell_arr c1 (by omega) (by omega) (by omega) (by omega), c2, c4]; rfl
      · rw [ab_cell_lng c1, c2, c5]; rfl
      · rw [ab_cell_arr c1 (by omega) (by omega) (by omega) (by omega), c2, c4]; rfl
      · rw [ab_cell_arr c1 (by omega) (by omega) (by omega) (by omega), c2, c4]; rfl)
    rw [hws] at hP1 hD1
    have k2 := k1 (ab_ad ad (ab_nx h) q) H1 locs ls hP1 hD1 hS1 (ab_add_wf hw (fun x hx2 k r hr => by
      rcases List.mem_singleton.mp hx2 with rfl
      simp at hr)) (ab_has_weak hl (ab_ok_L hL hfe)) hlen (ab_fx_ad hfix hn1 (by simp) hfe) (by
        show ab_nx h0 ≤ ab_nx (ab_add h _)
        have e : ab_nx (ab_add h [(kd, n.toNatClampNeg, [])]) = ab_nx h + 1 := List.length_append
        omega) (by
        show ab_sl h0 ≤ ab_sl (ab_add h _)
        rw [ab_sl_add]
        omega)
    have e1 : ab_nx (pc + 2, L, Value.ref (ab_nx h) :: S, ab_new h kd n.toNatClampNeg []).2.2.2 - ab_nx h0 = ab_nx h - ab_nx h0 + 1 := by
      have e : ab_nx (ab_add h [(kd, n.toNatClampNeg, [])]) = ab_nx h + 1 := List.length_append
      show ab_nx (ab_add h _) - ab_nx h0 = _
      rw [e]
      omega
    have e2 : ab_sl (pc + 2, L, Value.ref (ab_nx h) :: S, ab_new h kd n.toNatClampNeg []).2.2.2 - ab_sl h0 = ab_sl h - ab_sl h0 + n.toNatClampNeg := by
      show ab_sl (ab_add h _) - ab_sl h0 = _
      rw [ab_sl_add]
      simp
      omega
    rw [e1, e2] at k2
    have e3 : (pc + 2, L, Value.ref (ab_nx h) :: S, ab_new h kd n.toNatClampNeg []).2.2.1.map (ab_cv (ab_ad ad (ab_nx h) q)) = Value.ref q :: S.map (ab_cv ad) := by
      show ab_cv _ (.ref (ab_nx h)) :: S.map _ = _
      rw [ab_ok_S hSS hfe]
      show Value.ref (ab_ad ad (ab_nx h) q (ab_nx h)) :: _ = _
      rw [ab_ad_new]
    rw [e3] at k2
    exact k2
theorem abs_anew (hx : p.tables.exec = Jvm.exec) (hb : c.code = cc) {own i : Nat} {n : Int32} (hown : s.vm.findClass (ab_C own) = some m.cls) (hts : ∀ w ∈ ab_BIG, w.before args s = true) (hA : ∀ q, s.heap.size ≤ q → A q) (hE : ab_EF D y s) (hf : ab_nw own i = some 3) (h0n : 0 ≤ n) (h1k : n.toNatClampNeg ≤ 1000) (h1000 : ab_nx h < 1000) (hL : L.all (fun v => (v.map (ab_ok (ab_nx h))).getD true) = true) (hSS : S.all (ab_ok (ab_nx h)) = true)
    (hR : ab_nx h + 1 - ab_nx h0 ≤ R.cells ∧ ab_sl h + n.toNatClampNeg - ab_sl h0 ≤ R.slots) (hd : decode cc pc = .ok (.anewarray i, 3)) (k1 : ab_Sim p l e R s m args below meth c Q A D y nL ad0 h0 (pc + 3, L, .ref (ab_nx h) :: S, ab_new h 15 n.toNatClampNeg (List.replicate n.toNatClampNeg none))) : ab_Sim p l e R s m args below meth c Q A D y nL ad0 h0 (pc, L, .int n :: S, h) := by
  obtain ⟨w1, w2, w3⟩ := ab_nw_spec hf
  obtain ⟨c1, c2, c3, c4, c5⟩ := ab_new_cell0 (h := h) 15 n.toNatClampNeg (List.replicate n.toNatClampNeg none)
  intro ad H locs ls hP hD hS hw hl hlen hfix hn1 hn2
  have hn1 : ab_nx h0 ≤ ab_nx h := hn1
  have hn2 : ab_sl h0 ≤ ab_sl h := hn2
  have hRA := (hE.1.2 5 _ rfl).2
  refine va_newq (C := RX3) hx hb hown (hts _ w1) hE.2.2.1 hE.1 hP hD hS hA (Int32.not_lt.mpr h0n) rfl (by omega) (by show ab_nx h - ab_nx h0 + 1 ≤ R.cells; omega) (by show ab_sl h - ab_sl h0 + n.toNatClampNeg ≤ R.slots; omega) hd (fun q cA H1 hK1 hP1 hD1 hS1 => ?_)
  have hRA1 := (hK1.2 (ab_tys y).length (cA, .object RX3) (by rw [List.getElem?_append_right (Nat.le_refl _), Nat.sub_self]; rfl)).2
  have hcA : cA = y 15 := by
    obtain ⟨_, _, -, -, -, z1⟩ := hRA
    obtain ⟨_, _, -, -, -, z2⟩ := hRA1
    exact Option.some.inj (z2.symm.trans z1)
  subst hcA
  have hfe : ∀ o, o < ab_nx h ∨ 1000 ≤ o → ab_ad ad (ab_nx h) q o = ad o := fun o ho => if_neg (by omega)
  have hno : ∀ k, (List.replicate n.toNatClampNeg (none : Option Nat)).getD k none = none := by
    intro k
    rw [List.getD_eq_getElem?_getD, List.getElem?_replicate]
    split <;> rfl
  have hws := ab_new_ws (y := y) (ad := ad) (kd := 15) (ln := n.toNatClampNeg) (q := q) (rs := List.replicate n.toNatClampNeg none) (e := .inl (y 15, n.toNatClampNeg, .inr (.inr (.inr (.inr (fun _ => none)))))) hw (by
    rw [ab_cell_rfs c1 (Or.inr rfl), c2]
    refine ab_rfs_congr (fun j => ?_)
    rw [c3, hno]
    rfl)
  rw [hws] at hP1 hD1
  have k2 := k1 (ab_ad ad (ab_nx h) q) H1 locs ls hP1 hD1 hS1 (ab_add_wf hw (fun x hx2 k r hr => by
    rcases List.mem_singleton.mp hx2 with rfl
    rw [hno] at hr
    cases hr)) (ab_has_weak hl (ab_ok_L hL hfe)) hlen (ab_fx_ad hfix hn1 (by simp) hfe) (by
      show ab_nx h0 ≤ ab_nx (ab_add h _)
      have e : ab_nx (ab_add h [(15, n.toNatClampNeg, List.replicate n.toNatClampNeg none)]) = ab_nx h + 1 := List.length_append
      omega) (by
      show ab_sl h0 ≤ ab_sl (ab_add h _)
      rw [ab_sl_add]
      omega)
  have e1 : ab_nx (pc + 3, L, Value.ref (ab_nx h) :: S, ab_new h 15 n.toNatClampNeg (List.replicate n.toNatClampNeg none)).2.2.2 - ab_nx h0 = ab_nx h - ab_nx h0 + 1 := by
    have e : ab_nx (ab_add h [(15, n.toNatClampNeg, List.replicate n.toNatClampNeg none)]) = ab_nx h + 1 := List.length_append
    show ab_nx (ab_add h _) - ab_nx h0 = _
    rw [e]
    omega
  have e2 : ab_sl (pc + 3, L, Value.ref (ab_nx h) :: S, ab_new h 15 n.toNatClampNeg (List.replicate n.toNatClampNeg none)).2.2.2 - ab_sl h0 = ab_sl h - ab_sl h0 + n.toNatClampNeg := by
    show ab_sl (ab_add h _) - ab_sl h0 = _
    rw [ab_sl_add]
    simp
    omega
  rw [e1, e2] at k2
  have e3 : (pc + 3, L, Value.ref (ab_nx h) :: S, ab_new h 15 n.toNatClampNeg (List.replicate n.toNatClampNeg none)).2.2.1.map (ab_cv (ab_ad ad (ab_nx h) q)) = Value.ref q :: S.map (ab_cv ad) := by
    show ab_cv _ (.ref (ab_nx h)) :: S.map _ = _
    rw [ab_ok_S hSS hfe]
    show Value.ref (ab_ad ad (ab_nx h) q (ab_nx h)) :: _ = _
    rw [ab_ad_new]
  rw [e3] at k2
  exact k2
end ABS
