/-! A STEP, A RUN, A METHOD -/
theorem ab_M_spec {mi : Nat} {q : ab_MI} (h : ab_M[mi]? = some q) : ab_MT q = true := List.all_eq_true.mp ab_M_ok q (List.mem_of_getElem? h)
theorem ab_M_all {mi : Nat} {q : ab_MI} (h : ab_M[mi]? = some q) : ab_own mi = q.1 ∧ ab_nm mi = q.2.1 ∧ ab_by mi = q.2.2.1 ∧ ab_mxl mi = q.2.2.2.1 ∧ ab_rt mi = q.2.2.2.2.1 ∧ ab_np mi = q.2.2.2.2.2.1 := by
  unfold ab_own ab_nm ab_by ab_mxl ab_rt ab_np
  rw [h]
  exact ⟨rfl, rfl, rfl, rfl, rfl, rfl⟩
/-- what the table of methods gives of a method -/
theorem ab_M_use {mi : Nat} (h : mi < ab_M.length) : Cond.code (ab_nm mi) (ab_by mi) (ab_mxl mi) (ab_rt mi) ∈ ab_BIG ∧ Cond.initialized (ab_nm mi).cls ∈ ab_BIG ∧ (ab_nm mi).cls = ab_C (ab_own mi) ∧ plainName (ab_nm mi).cls = true ∧ ((ab_nm mi).cls ≠ "java/lang/invoke/MethodHandle" ∧ (ab_nm mi).cls ≠ "java/lang/invoke/VarHandle" ∧ (parseMethodDescriptor (ab_nm mi).desc).map (fun d => d.parameters.length) = some (ab_np mi)) ∧
    (((ab_M[mi]?).map (fun q => decide (q.2.2.2.2.2.2.2.2.2.2 = (0, 0)))).getD false = true → Cond.instanceMethod (ab_nm mi) ∈ ab_BIG ∧ (((ab_nm mi).name = "<init>" ∧ ab_rt mi = none) ∨ Cond.selects (ab_nm mi).cls (ab_nm mi) (ab_nm mi) ∈ ab_BIG)) ∧
    (((ab_M[mi]?).map (fun q => decide (¬ q.2.2.2.2.2.2.2.2.2.2 = (0, 0)))).getD false = true → Cond.static (ab_nm mi) ∈ ab_BIG) := by
  obtain ⟨q, hq⟩ : ∃ q, ab_M[mi]? = some q := ⟨_, List.getElem?_eq_getElem h⟩
  obtain ⟨e1, e2, e3, e4, e5, e6⟩ := ab_M_all hq
  have ht := ab_M_spec hq
  have t1 := ab_CW_0_146 mi (Nat.zero_le _) h
  rw [e2, e3, e4, e5] at t1
  rw [hq, e1, e2, e3, e4, e5, e6]
  obtain ⟨own, nm, b, ml, ret, n, pc, pn, pi, ps, pt⟩ := q
  simp only [ab_MT, Bool.and_eq_true, decide_eq_true_eq] at ht
  obtain ⟨⟨⟨⟨⟨⟨⟨t2, t3⟩, t4⟩, t5⟩, t6⟩, t7⟩, t8⟩, t9⟩ := ht
  refine ⟨t1, ab_has_mem t2, t3, t4, ⟨t5, t6, t7⟩, fun hz => ?_, fun hz => ?_⟩
  · simp only [Option.map_some, Option.getD_some, decide_eq_true_eq] at hz
    rw [if_pos hz, Bool.and_eq_true, Bool.or_eq_true, decide_eq_true_eq] at t9
    exact ⟨ab_has_mem t9.1, t9.2.elim Or.inl (fun w => Or.inr (ab_has_mem w))⟩
  · simp only [Option.map_some, Option.getD_some, decide_eq_true_eq] at hz
    rw [if_neg hz] at t9
    exact ab_has_mem t9
theorem ab_ml_spec {own i mi kd : Nat} (h : ab_ml own i = some (mi, kd)) : ∃ q : ab_P, ab_mlT (own, i, mi, kd, q) = true := by
  unfold ab_ml at h
  rw [Option.map_eq_some_iff] at h
  obtain ⟨e, h1, h2⟩ := h
  obtain ⟨q1, q2⟩ := ab_find h1 ab_mlL_ok
  obtain ⟨a, b, x, z, w⟩ := e
  simp only [Bool.and_eq_true, beq_iff_eq] at q1
  cases h2
  obtain ⟨rfl, rfl⟩ := q1
  exact ⟨w, q2⟩
theorem ab_w_good {mi : Nat} (h : mi < ab_M.length) {Ts : List Cond} (hT : ∀ w ∈ ab_BIG, w ∈ Ts) : GoodIn Ts (ab_w mi) := by
  intro w hw
  have hb : w ∈ ab_BIG := by
    rcases List.mem_cons.mp hw with rfl | hw
    · exact (ab_M_use h).1
    · exact hw
  exact ⟨hT w hb, ab_BIG_good w hb⟩
theorem ab_w1 : Cond.instanceMethod objectInit ∈ ab_BIG := ab_has_mem (q := (1, 21)) (by decide +kernel)
theorem ab_w2 : Cond.code objectInit ⟨#[0xb1]⟩ 1 none ∈ ab_BIG := ab_has_mem (q := (1, 22)) (by decide +kernel)
theorem ab_w3 : Cond.static arraycopyName ∈ ab_BIG := ab_has_mem (q := (2, 196)) (by decide +kernel)
theorem ab_w4 : Cond.native arraycopyName ∈ ab_BIG := ab_has_mem (q := (2, 197)) (by decide +kernel)
theorem ab_w5 : Cond.initialized "java/lang/System" ∈ ab_BIG := ab_has_mem (q := (1, 13)) (by decide +kernel)
theorem ab_w6 : Cond.static Lib.Math.max.name ∈ ab_BIG := ab_has_mem (q := (2, 211)) (by decide +kernel)
theorem ab_w7 : Cond.code Lib.Math.max.name Lib.Math.max.code 2 (some .int) ∈ ab_BIG := ab_has_mem (q := (2, 212)) (by decide +kernel)
theorem ab_w8 : Cond.initialized "java/lang/Math" ∈ ab_BIG := ab_has_mem (q := (1, 14)) (by decide +kernel)
theorem ab_mlT1 (own i mi : Nat) (q : ab_P) : ab_mlT (own, i, mi, 1, q) = (ab_has q (.methodLink (ab_C own) i (ab_nm mi)) && decide (((ab_M[mi]?).map (fun q => decide (¬ q.2.2.2.2.2.2.2.2.2.2 = (0, 0)))).getD false = true)) := rfl
theorem ab_mlT2 (own i mi : Nat) (q : ab_P) : ab_mlT (own, i, mi, 2, q) = (decide (ab_NW[q.2]? = some (.methodLinkNest (ab_C own) i (ab_nm mi) RX7)) && decide (((ab_M[mi]?).map (fun q => decide (¬ q.2.2.2.2.2.2.2.2.2.2 = (0, 0)))).getD false = true)) := rfl
theorem ab_mlT3 (own i mi : Nat) (q : ab_P) : ab_mlT (own, i, mi, 3, q) = (ab_has q (.methodLink (ab_C own) i (ab_nm mi)) && decide (((ab_M[mi]?).map (fun q => decide (q.2.2.2.2.2.2.2.2.2.2 = (0, 0)) && decide (q.2.1.name = "<init>") && decide (q.2.2.2.2.1 = none))).getD false = true)) := rfl
theorem ab_mlT4 (own i mi : Nat) (q : ab_P) : ab_mlT (own, i, mi, 4, q) = (decide (ab_NW[q.2]? = some (.methodLinkNest (ab_C own) i (ab_nm mi) RX7)) && decide (((ab_M[mi]?).map (fun q => decide (q.2.2.2.2.2.2.2.2.2.2 = (0, 0)) && decide (q.2.1.name = "<init>") && decide (q.2.2.2.2.1 = none))).getD false = true)) := rfl
theorem ab_mlT5 (own i mi : Nat) (q : ab_P) : ab_mlT (own, i, mi, 5, q) = ab_has q (.methodLink (ab_C own) i objectInit) := rfl
theorem ab_mlT6 (own i mi : Nat) (q : ab_P) : ab_mlT (own, i, mi, 6, q) = ab_has q (.methodLink (ab_C own) i arraycopyName) := rfl
theorem ab_mlT7 (own i mi : Nat) (q : ab_P) : ab_mlT (own, i, mi, 7, q) = ab_has q (.methodLink (ab_C own) i Lib.Math.max.name) := rfl
theorem ab_mlT8 (own i mi : Nat) (q : ab_P) : ab_mlT (own, i, mi, 8, q) = ab_has q (.methodLink (ab_C own) i yJ0_length_8abf5) := rfl
theorem ab_mlT9 (own i mi : Nat) (q : ab_P) : ab_mlT (own, i, mi, 9, q) = ab_has q (.methodLink (ab_C own) i yJ0_charAt_5068e) := rfl
theorem ab_sB_ok : ∀ k, k < 12 → ∀ j, j < ab_sL.getD k 0 → ((((ab_sB.getD k []).getD j 0 &&& 255).toUInt32 % 65536).toInt32 = (ab_sB.getD k []).getD j 0) ∧ narrow .char (.int ((ab_sB.getD k []).getD j 0)) = .int ((ab_sB.getD k []).getD j 0) := by decide +kernel
theorem ab_sL_lt : ∀ k, k < 12 → ab_sL.getD k 0 < 6 := by decide +kernel
section ABH
variable {sc : Option (List Int32)} {p : Program} {l : Launch} {e : Env} {R : Room} {s : State} {m : MethodId} {args : Array Value} {below : List Frame} {meth : Method} {c : Code} {Q : State → Prop} {A : Nat → Prop} {D : va_G} {y : Nat → ClassId} {nL : Nat} {ad0 : Nat → Nat} {h0 : ab_H} {cc : ByteArray} {pc : Nat} {L : ab_L} {S : List Value} {h : ab_H}
theorem ab_cell_fun {ad : Nat → Nat} {o q : Nat} {f : Nat → Int32} (hq : q ≠ o) : ab_cell y ad (h.1, (fun a => if a = o then f else h.2.1 a), h.2.2) q = ab_cell y ad h q := by
  have e : (h.1, (fun a => if a = o then f else h.2.1 a), h.2.2).2.1 q = h.2.1 q := if_neg hq
  have e2 : ∀ j ty, ab_gv (h.1, (fun a => if a = o then f else h.2.1 a), h.2.2) q j ty = ab_gv h q j ty := by
    intro j ty
    cases ty <;> simp [ab_gv, hq] <;> rfl
  unfold ab_cell
  rw [show ab_kd (h.1, (fun a => if a = o then f else h.2.1 a), h.2.2) q = ab_kd h q from rfl, show ab_ln (h.1, (fun a => if a = o then f else h.2.1 a), h.2.2) q = ab_ln h q from rfl, e]
  simp only [e2]
  rfl
/-- the room of a call -/
theorem ab_roomI {own fr lc i mi kd : Nat} (h : ab_cok1 own fr lc i = true) (hm : ab_ml own i = some (mi, kd)) (hk : kd ≤ 4) : ab_fr mi + 1 ≤ fr ∧ 8 + (ab_mxl mi + 11) + ab_lc mi ≤ lc := by
  unfold ab_cok1 at h
  rw [hm] at h
  simp only at h
  rw [if_pos hk, Bool.and_eq_true, decide_eq_true_eq, decide_eq_true_eq] at h
  exact h
theorem ab_catm (ad : Nat → Nat) (rest : List Value) : ((rest.map (ab_cv ad)).map fun v => v.category).sum = ab_cat rest := by
  unfold ab_cat
  rw [List.map_map]
  congr 1
  exact List.map_congr_left fun v _ => ab_cv_cat ad v
/-- length and charAt of a text -/
theorem abs_txt (hx : p.tables.exec = Jvm.exec) (hb : c.code = cc) (hml : c.maxLocals = nL) {own i b : Nat} {j : MethodName} {bj : ByteArray} {ml : Nat} {ret : Option FieldType} {rm : Room} {vs rest : List Value} {r : Int32} (hown : s.vm.findClass (ab_C own) = some m.cls) (hts : ∀ w ∈ ab_BIG, w.before args s = true) (hT : ab_ST sc ad0 A s s.heap) (hb1 : 1000 ≤ b) (hb2 : b < 1012)
    (hd : decode cc pc = .ok (.invokevirtual i, 3)) (h0' : Cond.methodLink (ab_C own) i j ∈ ab_BIG) (h1' : Cond.instanceMethod j ∈ ab_BIG) (h2' : Cond.selects RJ0 j j ∈ ab_BIG) (h3' : Cond.code j bj ml ret ∈ ab_BIG) (hj : j.cls = RJ0) (hrc : rm.cells = 0) (hrs : rm.slots = 0) (hdesc : j.cls ≠ "java/lang/invoke/MethodHandle" ∧ j.cls ≠ "java/lang/invoke/VarHandle" ∧ (parseMethodDescriptor j.desc).map (fun d => d.parameters.length) = some vs.length) (hR : rm.frames + 1 ≤ R.frames ∧ 8 + (ml + 11) + rm.locals ≤ R.locals) (hvs : ∀ ad : Nat → Nat, vs.map (ab_cv ad) = vs)
    (hM : ∀ q t : Nat, Met l j (jd_w j bj ml ret) rm (va_Pc (.ref q :: vs) (fun U => jd_Z U U.heap ∧ jd_S q t (ab_sL.getD (b - 1000) 0) (fun k => (ab_sB.getD (b - 1000) []).getD k 0) U U.heap)) (va_Qi (fun (x : Int32) (_ : Unit) => x = r) (fun _ _ => True) jF) 0 0 jF) (hcat : ab_cat rest ≤ 8) (hRc : ab_nx h - ab_nx h0 ≤ R.cells ∧ ab_sl h - ab_sl h0 ≤ R.slots)
    (k1 : ab_Sim p l e R s m args below meth c Q A D y nL ad0 h0 (pc + 3, L, .int r :: rest, h)) : ab_Sim p l e R s m args below meth c Q A D y nL ad0 h0 (pc, L, vs.reverse ++ .ref b :: rest, h) := by
  intro ad H locs ls hP hD hS hw hl hlen hfix hn1 hn2
  have hn1 : ab_nx h0 ≤ ab_nx h := hn1
  have hn2 : ab_sl h0 ≤ ab_sl h := hn2
  obtain ⟨⟨adV, hK⟩, -, hz1, hz2, -⟩ := (hT.kept hS.1 hS.2.1).narrow (B := jF) (fun q z => z.elim)
  have ek : 1000 + (b - 1000) = b := by omega
  have ea : ad b = ad0 b := hfix.1 b (Or.inr hb1)
  obtain ⟨k1', k2', k3', k4'⟩ := hK.1 (b - 1000) (by omega)
  dsimp only at k1' k2' k3'
  rw [ek, ← ea] at k1' k2' k3'
  have hZ : jd_Z s H := ⟨hz1, hz2⟩
  have hO : jd_S (ad b) (adV (b - 1000)) (ab_sL.getD (b - 1000) 0) (fun k => (ab_sB.getD (b - 1000) []).getD k 0) s H := ⟨k1', k2', k3', k4'⟩
  obtain ⟨cell, o1, o2, o3, o4⟩ := hO.1
  have hst : (vs.reverse ++ .ref b :: rest).map (ab_cv ad) = vs.reverse ++ .ref (ad b) :: rest.map (ab_cv ad) := by
    rw [List.map_append, List.map_reverse, hvs ad]
    rfl
  have hcatm := ab_catm ad rest
  show W p l e R s m args below meth c H locs (ab_nx h - ab_nx h0) (ab_sl h - ab_sl h0) Q (F0 m pc ls ((vs.reverse ++ .ref b :: rest).map (ab_cv ad)))
  rw [hst]
  have hr := va_runV (cells := ab_nx h - ab_nx h0) (slots := ab_sl h - ab_sl h0) (locs := locs) (H := H) (e := e) (below := below) (meth := meth) (As := vs) (rest := rest.map (ab_cv ad)) (nL := nL) (g := F0 m pc ls (vs.reverse ++ .ref (ad b) :: rest.map (ab_cv ad))) (b := ad b) (Ts := ab_BIG) ⟨hx, hb, hml, hown, hts⟩ (hM (ad b) (adV (b - 1000))) (cwV (C := RJ0) (R := R) (s := s) (args := args) vs.length hts (jd_goodV h0' h1' h2' j_iS h3') rfl hrc hrs ⟨hj, hdesc⟩ hR) ⟨fun a U g mk q => by obtain ⟨q0, q1, q2⟩ := q; exact ⟨q0, q1.moved (u := U) (U := U.calling g mk a) (Vm.Alike.refl U.vm), q2.moved (u := U) (U := U.calling g mk a) (Vm.Alike.refl U.vm)⟩, ⟨cell, o1, o2, o3⟩, fun U hU hW => ⟨rfl, by rw [hU]; exact hZ.moved hW.alike, by rw [hU]; exact hO.moved hW.alike⟩⟩ rfl rfl hl.1 rfl (by
    show 2 * 0 + _ ≤ 8
    omega) hd ⟨hRc.1, hRc.2⟩
  refine va_calli hr hS (fun q _ z => z.elim) (fun q z => z.elim) (fun x u t H1 locs1 ht hvm hw2 _ hz hk hS1 => ?_)
  subst hw2
  have hP1 : va_P D vwCl (ab_ws y ad h) H1 := fun k q hq => (hP k q hq).kept (hk q.1 (hP k q hq).lt (fun z => z))
  exact k1 ad H1 locs1 ls hP1 hD hS1 hw hl hlen hfix hn1 hn2
theorem abs_inv (hx : p.tables.exec = Jvm.exec) (hb : c.code = cc) (hml : c.maxLocals = nL) {call : Nat → List Value → ab_H → Option (Option Value × ab_H)} {own fr lc i : Nat} {virt : Bool} {F : ab_F} (hown : s.vm.findClass (ab_C own) = some m.cls) (hts : ∀ w ∈ ab_BIG, w.before args s = true) (hA : ∀ q, s.heap.size ≤ q → A q) (hE : ab_EF D y s) (hT : ab_ST sc ad0 A s s.heap) (hC : ab_CS sc l D y call) (hok : ab_cok1 own fr lc i = true) (hRf : fr ≤ R.frames) (hRl : lc ≤ R.locals)
    (hd : decode cc pc = .ok (if virt then .invokevirtual i else .invokestatic i, 3)) (hs : ab_inv call own i virt pc L S h = some (.inl F)) (hRc : ab_nx F.2.2.2 - ab_nx h0 ≤ R.cells ∧ ab_sl F.2.2.2 - ab_sl h0 ≤ R.slots) (k1 : ab_Sim p l e R s m args below meth c Q A D y nL ad0 h0 F) : ab_Sim p l e R s m args below meth c Q A D y nL ad0 h0 (pc, L, S, h) := by
  unfold ab_inv at hs
  cases hm : ab_ml own i with
  | none => rw [hm] at hs; cases hs
  | some mk =>
  obtain ⟨mi, kd⟩ := mk
  rw [hm] at hs
  simp only at hs
  obtain ⟨q, hq⟩ := ab_ml_spec hm
  -- the call itself
  have kcall : ∀ (vs rest : List Value) (mi : Nat) (F : ab_F), ab_call call mi vs pc L rest h = some (.inl F) → ab_cat rest ≤ 8 ∧ ∃ rv h', call mi vs h = some (rv, h') ∧ F = (pc + 3, L, rv.toList ++ rest, h') ∧ ((ab_nx h' = ab_nx h ∧ ab_sl h' = ab_sl h) ∨ (ab_nx h ≤ ab_nx h' ∧ ab_sl h ≤ ab_sl h' ∧ (L.all (fun v => (v.map (ab_ok (ab_nx h))).getD true) && rest.all (ab_ok (ab_nx h))) = true)) := by
    intro vs rest mi F hz
    unfold ab_call at hz
    split at hz
    · rename_i hcat
      split at hz
      · rename_i rv h' hcl
        split at hz
        · rename_i hcond
          cases hz
          exact ⟨hcat, rv, h', hcl, rfl, hcond⟩
        · cases hz
      · cases hz
    · cases hz
  have hcatm : ∀ (ad : Nat → Nat) (rest : List Value), ((rest.map (ab_cv ad)).map fun v => v.category).sum = ab_cat rest := by
    intro ad rest
    unfold ab_cat
    rw [List.map_map]
    congr 1
    exact List.map_congr_left fun v _ => ab_cv_cat ad v
  cases virt with
  | true =>
    rw [if_pos rfl] at hs hd
    by_cases hk0 : kd = 0
    · subst hk0
      rw [if_pos rfl] at hs
      split at hs
      · rename_i b rest hdrop
        split at hs
        · rename_i hcc
          rw [Bool.and_eq_true, Bool.and_eq_true, decide_eq_true_eq] at hcc
          obtain ⟨⟨hrb, ho9⟩, hargs⟩ := hcc
          obtain ⟨hb1, hkd⟩ := ab_refs hrb
          obtain ⟨hcat, rv, h', hcl, rfl, hcond⟩ := kcall _ _ _ _ hs
          simp only [ab_mlT, if_true, Bool.and_eq_true, decide_eq_true_eq] at hq
          have hlt : mi < ab_M.length := by
            rcases Nat.lt_or_ge mi ab_M.length with w | w
            · exact w
            · rw [List.getElem?_eq_none w] at hq; exact absurd hq.2 (by simp)
          obtain ⟨u1, u2, u3, u4, u5, u6, u7⟩ := ab_M_use hlt
          have hqq : ((ab_M[mi]?).map (fun q => decide (q.2.2.2.2.2.2.2.2.2.2 = (0, 0)))).getD false = true ∧ ¬ (ab_nm mi).name = "<init>" := by
            have h2 := hq.2
            unfold ab_nm
            rw [List.getElem?_eq_getElem hlt] at h2 ⊢
            simp only [Option.map_some, Option.getD_some, Bool.and_eq_true, decide_eq_true_eq] at h2 ⊢
            exact h2
          obtain ⟨v1, v2⟩ := u6 hqq.1
          have v2 : Cond.selects (ab_nm mi).cls (ab_nm mi) (ab_nm mi) ∈ ab_BIG := v2.elim (fun w => absurd w.1 hqq.2) id
          obtain ⟨r1, r2⟩ := ab_roomI hok hm (by omega)
          intro ad H locs ls hP hD hS hw hl hlen hfix hn1 hn2
          have hn1 : ab_nx h0 ≤ ab_nx h := hn1
          have hn2 : ab_sl h0 ≤ ab_sl h := hn2
          have hSeq : S.map (ab_cv ad) = ((S.take (ab_np mi)).reverse.map (ab_cv ad)).reverse ++ .ref (ad b) :: rest.map (ab_cv ad) := by
            rw [← List.map_reverse, List.reverse_reverse]
            show _ = (S.take (ab_np mi)).map (ab_cv ad) ++ (Value.ref b :: rest).map (ab_cv ad)
            rw [← List.map_append, ← hdrop, List.take_append_drop]
          have hgood : GoodIn ab_BIG (wsV (ab_C own) i (ab_nm mi).cls (ab_nm mi) (ab_w mi)) := by
            intro w hw2
            rcases List.mem_append.mp hw2 with h3 | h3
            · have : w ∈ ab_BIG := by
                simp only [List.mem_cons, List.not_mem_nil, or_false] at h3
                rcases h3 with rfl | rfl | rfl | rfl
                · exact ab_has_mem hq.1
                · exact v1
                · exact v2
                · exact u2
              exact ⟨this, ab_BIG_good w this⟩
            · exact ab_w_good hlt (fun _ h => h) w h3
          have hlenA : ((S.take (ab_np mi)).reverse.map (ab_cv ad)).length = ab_np mi := by
            rw [List.length_map, List.length_reverse, List.length_take]
            have : ¬ S.length ≤ ab_np mi := fun w => by rw [List.drop_eq_nil_of_le w] at hdrop; cases hdrop
            omega
          have hr := va_runV (cells := ab_nx h - ab_nx h0) (slots := ab_sl h - ab_sl h0) (locs := locs) (H := H) (e := e) (below := below) (meth := meth) (As := (S.take (ab_np mi)).reverse.map (ab_cv ad)) (rest := rest.map (ab_cv ad)) (nL := nL) (g := F0 m pc ls (S.map (ab_cv ad))) (b := ad b) (Ts := ab_BIG) ⟨hx, hb, hml, hown, hts⟩ (hC mi _ h rv h' hcl hw ad H.size) (cwV (R := R) (s := s) (args := args) (ab_np mi) hts hgood rfl rfl rfl ⟨rfl, u5⟩ ⟨by show ab_fr mi + 1 ≤ R.frames; omega, by show 8 + (ab_mxl mi + 11) + ab_lc mi ≤ R.locals; omega⟩) ⟨ab_blind, (by
              have := va_recv hE.1 hP (ab_cls (ab_own mi) ho9) (q0 := b) (by rw [ab_ws_get hb1, ab_cell_obj hkd ho9])
              rw [u3]
              exact this), (ab_preS (vs := .ref b :: (S.take (ab_np mi)).reverse) hE hP hD hT hS hA hfix).2⟩ rfl hlenA hl.1 hSeq (by
              have := hcatm ad rest
              show 2 * 0 + _ ≤ 8
              omega) hd ⟨by have := hRc.1; show ab_nx h - ab_nx h0 + (ab_nx h' - ab_nx h) ≤ R.cells; have : ab_nx h' - ab_nx h0 ≤ R.cells := this; rcases hcond with z | z <;> omega, by have := hRc.2; show ab_sl h - ab_sl h0 + (ab_sl h' - ab_sl h) ≤ R.slots; have : ab_sl h' - ab_sl h0 ≤ R.slots := this; rcases hcond with z | z <;> omega⟩
          exact ab_call_sim hcond hP hD hS hl hlen hfix hn1 hn2 hA hr k1
        · cases hs
      · cases hs
    · rw [if_neg hk0] at hs
      by_cases hk8 : kd = 8
      · subst hk8
        rw [if_pos rfl] at hs
        split at hs
        · rename_i b rest
          split at hs
          · rename_i hcc
            obtain ⟨b1, b2, hcat⟩ := hcc
            cases hs
            have hq1 : Cond.methodLink (ab_C own) i yJ0_length_8abf5 ∈ ab_BIG := by
              have : ab_has q (.methodLink (ab_C own) i yJ0_length_8abf5) = true := by rw [ab_mlT8] at hq; exact hq
              exact ab_has_mem this
            have hrm : 2 ≤ fr ∧ 60 ≤ lc := by
              unfold ab_cok1 at hok
              rw [hm] at hok
              simpa using hok
            exact abs_txt (vs := []) (rm := { frames := 1, cells := 0, slots := 0, locals := 20 }) hx hb hml hown hts hT b1 b2 hd hq1 j_len1 j_len2 j_len3 rfl rfl rfl (by decide +kernel) ⟨by show 1 + 1 ≤ R.frames; omega, by show 8 + (1 + 11) + 20 ≤ R.locals; omega⟩ (fun _ => rfl) (fun q t => jd_length l q t _ _) hcat hRc k1
          · cases hs
        · cases hs
      · rw [if_neg hk8] at hs
        by_cases hk9 : kd = 9
        · subst hk9
          rw [if_pos rfl] at hs
          split at hs
          · rename_i x b rest
            split at hs
            · rename_i hcc
              obtain ⟨b1, b2, hin, hcat⟩ := hcc
              cases hs
              have hq1 : Cond.methodLink (ab_C own) i yJ0_charAt_5068e ∈ ab_BIG := by
                have : ab_has q (.methodLink (ab_C own) i yJ0_charAt_5068e) = true := by rw [ab_mlT9] at hq; exact hq
                exact ab_has_mem this
              have hrm : 4 ≤ fr ∧ 90 ≤ lc := by
                unfold ab_cok1 at hok
                rw [hm] at hok
                simpa using hok
              unfold ab_in at hin
              rw [Bool.and_eq_true, decide_eq_true_eq, decide_eq_true_eq] at hin
              have hk12 : b - 1000 < 12 := Nat.sub_lt_left_of_lt_add b1 b2
              have hlt := ab_sL_lt (b - 1000) hk12
              obtain ⟨c1, c2⟩ := ab_sB_ok (b - 1000) hk12 _ hin.2
              have n0 : ¬ x < 0 := Int32.not_lt.mpr hin.1
              have n1 : x < Int32.ofNat (ab_sL.getD (b - 1000) 0) := by
                rw [Int32.lt_iff_toInt_lt]
                have e1 : (Int32.ofNat (ab_sL.getD (b - 1000) 0)).toInt = (ab_sL.getD (b - 1000) 0 : Int) := Int32.toInt_ofNat_of_lt (by omega)
                have e2 : x.toInt = (x.toNatClampNeg : Int) := by
                  have h0' : (0 : Int) ≤ x.toInt := by simpa using Int32.le_iff_toInt_le.mp hin.1
                  show x.toInt = ((x.toInt.toNat : Nat) : Int)
                  omega
                rw [e1, e2]
                have := hin.2
                omega
              exact abs_txt (vs := [.int x]) (rm := { frames := 3, cells := 0, slots := 0, locals := 64 }) hx hb hml hown hts hT b1 b2 hd hq1 j_chr1 j_chr2 j_chr3 rfl rfl rfl ⟨by decide +kernel, by decide +kernel, by show _ = some 1; decide +kernel⟩ ⟨by show 3 + 1 ≤ R.frames; omega, by show 8 + (2 + 11) + 64 ≤ R.locals; omega⟩ (fun _ => rfl) (fun q t => jd_charAt l q t _ _ x n0 n1 (fun z => z.elim n0 (fun w => by have := hin.2; omega)) c1 c2) hcat hRc k1
            · cases hs
          · cases hs
        · rw [if_neg hk9] at hs
          cases hs
  | false =>
    rw [if_neg (by simp)] at hs hd
    by_cases hk12 : kd = 1 ∨ kd = 2
    · rw [if_pos hk12] at hs
      split at hs
      · rename_i hcc
        obtain ⟨hlenS, hargs⟩ := hcc
        obtain ⟨hcat, rv, h', hcl, rfl, hcond⟩ := kcall _ _ _ _ hs
        have hstat : ((ab_M[mi]?).map (fun q => decide (¬ q.2.2.2.2.2.2.2.2.2.2 = (0, 0)))).getD false = true := by
          rcases hk12 with rfl | rfl
          · rw [ab_mlT1, Bool.and_eq_true] at hq
            exact of_decide_eq_true hq.2
          · rw [ab_mlT2, Bool.and_eq_true] at hq
            exact of_decide_eq_true hq.2
        have hlt : mi < ab_M.length := by
          rcases Nat.lt_or_ge mi ab_M.length with w | w
          · exact w
          · rw [List.getElem?_eq_none w] at hstat; exact absurd hstat (by simp)
        obtain ⟨u1, u2, u3, u4, u5, u6, u7⟩ := ab_M_use hlt
        have v1 := u7 hstat
        obtain ⟨r1, r2⟩ := ab_roomI hok hm (by omega)
        intro ad H locs ls hP hD hS hw hl hlen hfix hn1 hn2
        have hn1 : ab_nx h0 ≤ ab_nx h := hn1
        have hn2 : ab_sl h0 ≤ ab_sl h := hn2
        have hSeq : S.map (ab_cv ad) = ((S.take (ab_np mi)).reverse.map (ab_cv ad)).reverse ++ (S.drop (ab_np mi)).map (ab_cv ad) := by
          rw [← List.map_reverse, List.reverse_reverse, ← List.map_append, List.take_append_drop]
        have hlenA : ((S.take (ab_np mi)).reverse.map (ab_cv ad)).length = ab_np mi := by
          rw [List.length_map, List.length_reverse, List.length_take]
          omega
        have hcatk : 2 * (F0 m pc ls (S.map (ab_cv ad))).monitorRoom + (((S.drop (ab_np mi)).map (ab_cv ad)).map fun v => v.category).sum ≤ 8 := by
          have := hcatm ad (S.drop (ab_np mi))
          show 2 * 0 + _ ≤ 8
          omega
        have hroom : ab_nx h - ab_nx h0 + (ab_nx h' - ab_nx h) ≤ R.cells ∧ ab_sl h - ab_sl h0 + (ab_sl h' - ab_sl h) ≤ R.slots := ⟨by have : ab_nx h' - ab_nx h0 ≤ R.cells := hRc.1; rcases hcond with z | z <;> omega, by have : ab_sl h' - ab_sl h0 ≤ R.slots := hRc.2; rcases hcond with z | z <;> omega⟩
        rcases hk12 with rfl | rfl
        · rw [ab_mlT1, Bool.and_eq_true] at hq
          have hq1 : Cond.methodLink (ab_C own) i (ab_nm mi) ∈ ab_BIG := ab_has_mem hq.1
          have hgood : GoodIn ab_BIG (va_wsS (ab_C own) i (ab_nm mi) (ab_w mi)) := by
            intro w hw2
            rcases List.mem_append.mp hw2 with h3 | h3
            · have : w ∈ ab_BIG := by
                simp only [List.mem_cons, List.not_mem_nil, or_false] at h3
                rcases h3 with rfl | rfl | rfl
                · exact hq1
                · exact v1
                · exact u2
              exact ⟨this, ab_BIG_good w this⟩
            · exact ab_w_good hlt (fun _ h => h) w h3
          have hr := va_runS (cells := ab_nx h - ab_nx h0) (slots := ab_sl h - ab_sl h0) (locs := locs) (H := H) (e := e) (below := below) (meth := meth) (As := (S.take (ab_np mi)).reverse.map (ab_cv ad)) (rest := (S.drop (ab_np mi)).map (ab_cv ad)) (nL := nL) (g := F0 m pc ls (S.map (ab_cv ad))) (Ts := ab_BIG) ⟨hx, hb, hml, hown, hts⟩ (hC mi _ h rv h' hcl hw ad H.size) (va_cwS (R := R) (s := s) (args := args) (ab_np mi) hts hgood rfl rfl rfl u5 ⟨by show ab_fr mi + 1 ≤ R.frames; omega, by show 8 + (ab_mxl mi + 11) + ab_lc mi ≤ R.locals; omega⟩) (ab_preS (vs := (S.take (ab_np mi)).reverse) hE hP hD hT hS hA hfix) rfl hlenA hl.1 hSeq hcatk hd hroom
          exact ab_call_sim hcond hP hD hS hl hlen hfix hn1 hn2 hA hr k1
        · have hq1 : va_Nw (.methodLinkNest (ab_C own) i (ab_nm mi) RX7) s := by
            have : ab_NW[q.2]? = some (.methodLinkNest (ab_C own) i (ab_nm mi) RX7) := by
              rw [ab_mlT2, Bool.and_eq_true] at hq
              exact of_decide_eq_true hq.1
            exact hE.2.1 _ (List.mem_of_getElem? this)
          have hr := va_runSN (cells := ab_nx h - ab_nx h0) (slots := ab_sl h - ab_sl h0) (locs := locs) (H := H) (e := e) (below := below) (meth := meth) (As := (S.take (ab_np mi)).reverse.map (ab_cv ad)) (rest := (S.drop (ab_np mi)).map (ab_cv ad)) (nL := nL) (g := F0 m pc ls (S.map (ab_cv ad))) (Ts := ab_BIG) ⟨hx, hb, hml, hown, hts⟩ (hC mi _ h rv h' hcl hw ad H.size) ⟨va_cnB (R := R) (s := s) (args := args) (ab_np mi) hts (ab_w_good hlt (fun _ h => h)) rfl rfl rfl hq1 (hts _ u2) u5 ⟨by show ab_fr mi + 1 ≤ R.frames; omega, by show 8 + (ab_mxl mi + 11) + ab_lc mi ≤ R.locals; omega⟩, hts _ v1, trivial⟩ (ab_preS (vs := (S.take (ab_np mi)).reverse) hE hP hD hT hS hA hfix) rfl hlenA hl.1 hSeq hcatk hd hroom
          exact ab_call_sim hcond hP hD hS hl hlen hfix hn1 hn2 hA hr k1
      · cases hs
    · rw [if_neg hk12] at hs
      by_cases hk6 : kd = 6
      · subst hk6
        rw [if_pos rfl] at hs
        split at hs
        · rename_i n dp a1 sp a0 rest
          split at hs
          · rename_i hcc
            simp only [Bool.and_eq_true, decide_eq_true_eq] at hcc
            obtain ⟨⟨⟨⟨⟨⟨⟨hr0, hr1⟩, hsp⟩, hdp⟩, hn0⟩, hl0⟩, hl1⟩, hcat⟩ := hcc
            obtain ⟨ho0, hkd0⟩ := ab_refs hr0
            obtain ⟨ho1, hkd1⟩ := ab_refs hr1
            cases hs
            have hq1 : Cond.methodLink (ab_C own) i arraycopyName ∈ ab_BIG := by
              have : ab_has q (.methodLink (ab_C own) i arraycopyName) = true := by rw [ab_mlT6] at hq; exact hq
              exact ab_has_mem this
            have hrm : 1 ≤ fr ∧ 8 + (nativeFrameWords "java/lang/System" "arraycopy" 5 + 11) ≤ lc := by
              unfold ab_cok1 at hok
              rw [hm] at hok
              simpa using hok
            intro ad H locs ls hP hD hS hw hl hlen hfix hn1 hn2
            have hn1 : ab_nx h0 ≤ ab_nx h := hn1
            have hn2 : ab_sl h0 ≤ ab_sl h := hn2
            have hws : (ab_ws y ad h).set a1 (ad a1, .inl (y 10, ab_ln h a1, .inl (va_cpy (h.2.1 a0) (h.2.1 a1) sp.toNatClampNeg dp.toNatClampNeg n.toNatClampNeg))) = ab_ws y ad (h.1, (fun o => if o = a1 then va_cpy (h.2.1 a0) (h.2.1 a1) sp.toNatClampNeg dp.toNatClampNeg n.toNatClampNeg else h.2.1 o), h.2.2) := by
              refine ab_ws_set rfl ?_ (fun q hq => ?_)
              · rw [ab_cell_arr (h := (h.1, (fun o => if o = a1 then va_cpy (h.2.1 a0) (h.2.1 a1) sp.toNatClampNeg dp.toNatClampNeg n.toNatClampNeg else h.2.1 o), h.2.2)) (kd := 10) hkd1 (by omega) (by omega) (by omega) (by omega)]
                show Sum.inl (y 10, ab_ln h a1, Sum.inl (if a1 = a1 then _ else _)) = _
                rw [if_pos rfl]
              · exact ab_cell_fun hq
            refine va_copyi (ty := .int) hx hb (hml.trans hl.1.symm) hown (hts _ hq1) (hts _ ab_w4) (hts _ ab_w3) (hts _ ab_w5) hE.1 hP hD hS a0 a1 0 0 (by rw [ab_ws_get ho0, ab_cell_arr hkd0 (by omega) (by omega) (by omega) (by omega)]) (by rw [ab_ws_get ho1, ab_cell_arr hkd1 (by omega) (by omega) (by omega) (by omega)]) rfl rfl rfl (Int32.not_lt.mpr hsp) (Int32.not_lt.mpr hdp) (Int32.not_lt.mpr hn0) hl0 hl1 (fun _ _ => rfl) (by omega) (by
              have := hcatm ad rest
              omega) hd (fun H1 locs1 hP1 hD1 hS1 => ?_)
            rw [hws] at hP1 hD1
            exact k1 ad H1 locs1 ls hP1 hD1 hS1 hw hl hlen hfix hn1 hn2
          · cases hs
        · cases hs
      · rw [if_neg hk6] at hs
        by_cases hk7 : kd = 7
        · subst hk7
          rw [if_pos rfl] at hs
          split at hs
          · rename_i z x rest
            split at hs
            · rename_i hcat
              cases hs
              have hq1 : Cond.methodLink (ab_C own) i Lib.Math.max.name ∈ ab_BIG := by
                have : ab_has q (.methodLink (ab_C own) i Lib.Math.max.name) = true := by rw [ab_mlT7] at hq; exact hq
                exact ab_has_mem this
              have hrm : 1 ≤ fr ∧ 21 ≤ lc := by
                unfold ab_cok1 at hok
                rw [hm] at hok
                simpa using hok
              intro ad H locs ls hP hD hS hw hl hlen hfix hn1 hn2
              have hn1 : ab_nx h0 ≤ ab_nx h := hn1
              have hn2 : ab_sl h0 ≤ ab_sl h := hn2
              refine va_mmax hx hb (hml.trans hl.1.symm) hown (hts _ hq1) (hts _ ab_w6) (hts _ ab_w8) (hts _ ab_w7) (by omega) (by
                have := hcatm ad rest
                omega) (by have : ab_nx h - ab_nx h0 ≤ R.cells := hRc.1; exact this) (by have : ab_sl h - ab_sl h0 ≤ R.slots := hRc.2; exact this) hd ?_
              exact k1 ad H locs ls hP hD hS hw hl hlen hfix hn1 hn2
            · cases hs
          · cases hs
        · rw [if_neg hk7] at hs
          cases hs
theorem abs_spc (hx : p.tables.exec = Jvm.exec) (hb : c.code = cc) (hml : c.maxLocals = nL) {call : Nat → List Value → ab_H → Option (Option Value × ab_H)} {own fr lc i : Nat} {F : ab_F} (hown : s.vm.findClass (ab_C own) = some m.cls) (hts : ∀ w ∈ ab_BIG, w.before args s = true) (hA : ∀ q, s.heap.size ≤ q → A q) (hE : ab_EF D y s) (hT : ab_ST sc ad0 A s s.heap) (hC : ab_CS sc l D y call) (hok : ab_cok1 own fr lc i = true) (hRf : fr ≤ R.frames) (hRl : lc ≤ R.locals)
    (hd : decode cc pc = .ok (.invokespecial i, 3)) (hs : ab_spc call own i pc L S h = some (.inl F)) (hRc : ab_nx F.2.2.2 - ab_nx h0 ≤ R.cells ∧ ab_sl F.2.2.2 - ab_sl h0 ≤ R.slots) (k1 : ab_Sim p l e R s m args below meth c Q A D y nL ad0 h0 F) : ab_Sim p l e R s m args below meth c Q A D y nL ad0 h0 (pc, L, S, h) := by
  unfold ab_spc at hs
  cases hm : ab_ml own i with
  | none => rw [hm] at hs; cases hs
  | some mk =>
  obtain ⟨mi, kd⟩ := mk
  rw [hm] at hs
  simp only at hs
  obtain ⟨q, hq⟩ := ab_ml_spec hm
  have hcatm : ∀ (ad : Nat → Nat) (rest : List Value), ((rest.map (ab_cv ad)).map fun v => v.category).sum = ab_cat rest := by
    intro ad rest
    unfold ab_cat
    rw [List.map_map]
    congr 1
    exact List.map_congr_left fun v _ => ab_cv_cat ad v
  by_cases hk5 : kd = 5
  · subst hk5
    rw [if_pos rfl] at hs
    split at hs
    · rename_i b rest
      split at hs
      · rename_i hcat
        cases hs
        have hq1 : Cond.methodLink (ab_C own) i objectInit ∈ ab_BIG := by
          have : ab_has q (.methodLink (ab_C own) i objectInit) = true := by rw [ab_mlT5] at hq; exact hq
          exact ab_has_mem this
        have hrm : 1 ≤ fr ∧ 21 ≤ lc := by
          unfold ab_cok1 at hok
          rw [hm] at hok
          simpa using hok
        intro ad H locs ls hP hD hS hw hl hlen hfix hn1 hn2
        have hn1 : ab_nx h0 ≤ ab_nx h := hn1
        have hn2 : ab_sl h0 ≤ ab_sl h := hn2
        refine W.objInit hx hb hown (hts _ hq1) (hts _ ab_w1) (hts _ ab_w2) rfl (hl.1.trans hml.symm) rfl hd (by omega) (by
          have := hcatm ad rest
          show 2 * 0 + _ + 12 ≤ _
          omega) ?_
        exact k1 ad H locs ls hP hD hS hw hl hlen hfix hn1 hn2
      · cases hs
    · cases hs
  · rw [if_neg hk5] at hs
    by_cases hk34 : kd = 3 ∨ kd = 4
    · rw [if_pos hk34] at hs
      split at hs
      · rename_i b rest
        split at hs
        · rename_i hcc
          obtain ⟨hnp, hrb, ho9⟩ := hcc
          obtain ⟨hb1, hkd⟩ := ab_refs hrb
          unfold ab_call at hs
          split at hs
          · rename_i hcat
            split at hs
            · rename_i rv h' hcl
              split at hs
              · rename_i hcond
                cases hs
                have hini : ((ab_M[mi]?).map (fun q => decide (q.2.2.2.2.2.2.2.2.2.2 = (0, 0)) && decide (q.2.1.name = "<init>") && decide (q.2.2.2.2.1 = none))).getD false = true := by
                  rcases hk34 with rfl | rfl
                  · rw [ab_mlT3, Bool.and_eq_true] at hq
                    exact of_decide_eq_true hq.2
                  · rw [ab_mlT4, Bool.and_eq_true] at hq
                    exact of_decide_eq_true hq.2
                have hlt : mi < ab_M.length := by
                  rcases Nat.lt_or_ge mi ab_M.length with w | w
                  · exact w
                  · rw [List.getElem?_eq_none w] at hini; exact absurd hini (by simp)
                obtain ⟨u1, u2, u3, u4, u5, u6, u7⟩ := ab_M_use hlt
                have hqq : ((ab_M[mi]?).map (fun q => decide (q.2.2.2.2.2.2.2.2.2.2 = (0, 0)))).getD false = true ∧ (ab_nm mi).name = "<init>" ∧ ab_rt mi = none := by
                  unfold ab_nm ab_rt
                  rw [List.getElem?_eq_getElem hlt] at hini ⊢
                  simp only [Option.map_some, Option.getD_some, Bool.and_eq_true, decide_eq_true_eq] at hini ⊢
                  exact ⟨hini.1.1, hini.1.2, hini.2⟩
                obtain ⟨v1, -⟩ := u6 hqq.1
                obtain ⟨r1, r2⟩ := ab_roomI hok hm (by omega)
                have hwg := ab_w_good hlt (Ts := ab_BIG) (fun _ h => h)
                have hwe : ab_w mi = Cond.code (ab_nm mi) (ab_by mi) (ab_mxl mi) none :: ab_BIG := by
                  unfold ab_w
                  rw [hqq.2.2]
                have u5' := u5
                rw [hnp] at u5'
                intro ad H locs ls hP hD hS hw hl hlen hfix hn1 hn2
                have hn1 : ab_nx h0 ≤ ab_nx h := hn1
                have hn2 : ab_sl h0 ≤ ab_sl h := hn2
                have hcatk : 2 * (F0 m pc ls ((Value.ref b :: rest).map (ab_cv ad))).monitorRoom + ((rest.map (ab_cv ad)).map fun v => v.category).sum ≤ 8 := by
                  have := hcatm ad rest
                  show 2 * 0 + _ ≤ 8
                  omega
                have hroom : ab_nx h - ab_nx h0 + (ab_nx h' - ab_nx h) ≤ R.cells ∧ ab_sl h - ab_sl h0 + (ab_sl h' - ab_sl h) ≤ R.slots := ⟨by have : ab_nx h' - ab_nx h0 ≤ R.cells := hRc.1; rcases hcond with z | z <;> omega, by have : ab_sl h' - ab_sl h0 ≤ R.slots := hRc.2; rcases hcond with z | z <;> omega⟩
                rcases hk34 with rfl | rfl
                · have hq1 : Cond.methodLink (ab_C own) i (ab_nm mi) ∈ ab_BIG := by
                    have : ab_has q (.methodLink (ab_C own) i (ab_nm mi)) = true := by
                      rw [ab_mlT3, Bool.and_eq_true] at hq
                      exact hq.1
                    exact ab_has_mem this
                  have hr := va_runI (cells := ab_nx h - ab_nx h0) (slots := ab_sl h - ab_sl h0) (locs := locs) (H := H) (e := e) (below := below) (meth := meth) (b := ad b) (As := []) (rest := rest.map (ab_cv ad)) (nL := nL) (g := F0 m pc ls ((Value.ref b :: rest).map (ab_cv ad))) (Ts := ab_BIG) ⟨hx, hb, hml, hown, hts⟩ (hC mi _ h rv h' hcl hw ad H.size) (cwI (R := R) (s := s) (args := args) 0 hts hwg hwe rfl rfl (hts _ u2) (hts _ hq1) (hts _ v1) hqq.2.1 u5' ⟨by show ab_fr mi + 1 ≤ R.frames; omega, by show 8 + (ab_mxl mi + 11) + ab_lc mi ≤ R.locals; omega⟩) (ab_preS (vs := [.ref b]) hE hP hD hT hS hA hfix) rfl rfl hl.1 rfl hcatk hd hroom
                  exact ab_call_sim hcond hP hD hS hl hlen hfix hn1 hn2 hA hr k1
                · have hq1 : va_Nw (.methodLinkNest (ab_C own) i (ab_nm mi) RX7) s := by
                    have : ab_NW[q.2]? = some (.methodLinkNest (ab_C own) i (ab_nm mi) RX7) := by
                      rw [ab_mlT4, Bool.and_eq_true] at hq
                      exact of_decide_eq_true hq.1
                    exact hE.2.1 _ (List.mem_of_getElem? this)
                  have hr := va_runIN (cells := ab_nx h - ab_nx h0) (slots := ab_sl h - ab_sl h0) (locs := locs) (H := H) (e := e) (below := below) (meth := meth) (b := ad b) (As := []) (rest := rest.map (ab_cv ad)) (nL := nL) (g := F0 m pc ls ((Value.ref b :: rest).map (ab_cv ad))) (Ts := ab_BIG) ⟨hx, hb, hml, hown, hts⟩ (hC mi _ h rv h' hcl hw ad H.size) ⟨va_cnB (R := R) (s := s) (args := args) 0 hts hwg hwe rfl rfl hq1 (hts _ u2) u5' ⟨by show ab_fr mi + 1 ≤ R.frames; omega, by show 8 + (ab_mxl mi + 11) + ab_lc mi ≤ R.locals; omega⟩, hqq.2.1, hts _ v1⟩ (ab_preS (vs := [.ref b]) hE hP hD hT hS hA hfix) rfl rfl hl.1 rfl hcatk hd hroom
                  exact ab_call_sim hcond hP hD hS hl hlen hfix hn1 hn2 hA hr k1
              · cases hs
            · cases hs
          · cases hs
        · cases hs
      · cases hs
    · rw [if_neg hk34] at hs
      cases hs
end ABH
