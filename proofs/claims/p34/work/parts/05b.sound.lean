section ABS
variable {p : Program} {l : Launch} {e : Env} {R : Room} {s : State} {m : MethodId} {args : Array Value} {below : List Frame} {meth : Method} {c : Code} {Q : State → Prop} {A : Nat → Prop} {D : va_G} {y : Nat → ClassId} {nL : Nat} {ad0 : Nat → Nat} {h0 : ab_H} {cc : ByteArray} {pc : Nat} {L : ab_L} {S : List Value} {h : ab_H}
theorem ab_rf_setr {o k r q j : Nat} (hk : k < ab_rl h o) : ab_rf (ab_setr h o k r) q j = if q = o ∧ j = k then some r else ab_rf h q j := by
  unfold ab_rl at hk
  cases hx : h.1[o]? with
  | none => rw [hx] at hk; simp at hk
  | some x =>
    rw [hx] at hk
    have hk : k < x.2.2.length := hk
    have hlt : o < h.1.length := (List.getElem?_eq_some_iff.mp hx).1
    unfold ab_rf ab_setr
    rw [hx]
    simp only [List.getElem?_set]
    by_cases hq : o = q
    · subst hq
      rw [if_pos rfl, if_pos hlt, hx]
      simp only [Option.map_some, Option.getD_some, true_and, List.getD_eq_getElem?_getD, List.getElem?_set]
      by_cases hj : k = j
      · subst hj
        simp [hk]
      · rw [if_neg hj, if_neg (fun z => hj z.symm)]
    · rw [if_neg hq, if_neg (fun z => hq z.1.symm)]
theorem ab_shape_setr (h : ab_H) (o k r : Nat) : (ab_setr h o k r).1.length = h.1.length ∧ (∀ q, ab_kd (ab_setr h o k r) q = ab_kd h q) ∧ (∀ q, ab_ln (ab_setr h o k r) q = ab_ln h q) ∧ (ab_setr h o k r).1.map (fun x => x.2.1) = h.1.map (fun x => x.2.1) := by
  cases hx : h.1[o]? with
  | none =>
    have e : ab_setr h o k r = h := by
      unfold ab_setr
      rw [hx]
    rw [e]
    exact ⟨rfl, fun _ => rfl, fun _ => rfl, rfl⟩
  | some x =>
    have hlt : o < h.1.length := (List.getElem?_eq_some_iff.mp hx).1
    have e : (ab_setr h o k r).1 = h.1.set o (x.1, x.2.1, x.2.2.set k (some r)) := by
      unfold ab_setr
      rw [hx]
    have eg : ∀ q, (h.1.set o (x.1, x.2.1, x.2.2.set k (some r)))[q]? = if q = o then some (x.1, x.2.1, x.2.2.set k (some r)) else h.1[q]? := by
      intro q
      rw [List.getElem?_set]
      by_cases hq : o = q
      · subst hq
        simp [hlt]
      · rw [if_neg hq, if_neg (fun z => hq z.symm)]
    refine ⟨by rw [e, List.length_set], fun q => ?_, fun q => ?_, ?_⟩
    · unfold ab_kd
      rw [e, eg]
      by_cases hq : q = o
      · subst hq; rw [if_pos rfl, hx]; rfl
      · rw [if_neg hq]
    · unfold ab_ln
      rw [e, eg]
      by_cases hq : q = o
      · subst hq; rw [if_pos rfl, hx]; rfl
      · rw [if_neg hq]
    · rw [e]
      apply List.ext_getElem?
      intro q
      rw [List.getElem?_map, List.getElem?_map, eg]
      by_cases hq : q = o
      · subst hq; rw [if_pos rfl, hx]; rfl
      · rw [if_neg hq]
theorem ab_rfs_congr {a : ClassId} {n : Nat} {f g : Nat → Option Nat} (hfg : ∀ j, f j = g j) : (Sum.inl (a, n, Sum.inr (Sum.inr (Sum.inr (Sum.inr f)))) : va_E) = Sum.inl (a, n, Sum.inr (Sum.inr (Sum.inr (Sum.inr g)))) := by rw [show f = g from funext hfg]
theorem ab_gv_setr {o k r q j : Nat} (hk : k < ab_rl h o) (hq : q ≠ o ∨ j ≠ k) (ty : FieldType) : ab_gv (ab_setr h o k r) q j ty = ab_gv h q j ty := by
  have e : ab_rf (ab_setr h o k r) q j = ab_rf h q j := by
    rw [ab_rf_setr hk, if_neg (fun z => hq.elim (fun w => w z.1) (fun w => w z.2))]
  cases ty <;> simp only [ab_gv, e] <;> rfl
theorem ab_cell_setr {ad : Nat → Nat} {o q k r : Nat} (hk : k < ab_rl h o) (hq : q ≠ o) : ab_cell y ad (ab_setr h o k r) q = ab_cell y ad h q := by
  obtain ⟨-, e1, e2, -⟩ := ab_shape_setr h o k r
  have e3 : ∀ j, ab_rf (ab_setr h o k r) q j = ab_rf h q j := fun j => by rw [ab_rf_setr hk, if_neg (fun z => hq z.1)]
  unfold ab_cell
  rw [e1, e2]
  simp only [ab_gv_setr hk (Or.inl hq), e3]
  rfl
theorem ab_setv_shape (o k : Nat) (v : Value) : ab_nx (ab_setv h o k v) = ab_nx h ∧ (∀ q, ab_kd (ab_setv h o k v) q = ab_kd h q) ∧ (∀ q, ab_ln (ab_setv h o k v) q = ab_ln h q) ∧ ab_sl (ab_setv h o k v) = ab_sl h := by
  cases v <;> first | exact ⟨rfl, fun _ => rfl, fun _ => rfl, rfl⟩ | skip
  rename_i r
  obtain ⟨a1, a2, a3, a4⟩ := ab_shape_setr h o k r
  exact ⟨a1, a2, a3, congrArg List.sum a4⟩
theorem ab_setv_wf {o k : Nat} {v : Value} (hw : ab_wf h) (hk : ab_rlok h o k v = true) (hv : ab_lt (ab_nx h) v = true) : ab_wf (ab_setv h o k v) := by
  intro q j r hr
  rw [(ab_setv_shape o k v).1]
  cases v <;> first | exact hw q j r hr | skip
  rename_i r0
  simp only [ab_rlok, decide_eq_true_eq] at hk
  simp only [ab_lt, decide_eq_true_eq] at hv
  have e : ab_rf (ab_setv h o k (.ref r0)) q j = if q = o ∧ j = k then some r0 else ab_rf h q j := ab_rf_setr hk
  rw [e] at hr
  split at hr
  · cases hr; exact hv
  · exact hw q j r hr
theorem ab_setv_obj {ad : Nat → Nat} {o k ci : Nat} {v : Value} (hkd : ab_kd h o = ci) (hci : ci < 8) (hf : ab_fit (ab_ty ci k) v = true) (hrl : ab_rlok h o k v = true) (hk : k < ab_N ci) : (ab_ws y ad h).set o (ad o, .inr (ci, ((List.range (ab_N ci)).map (fun k => ab_cv ad (ab_gv h o k (ab_ty ci k)))).set k (ab_cv ad v))) = ab_ws y ad (ab_setv h o k v) := by
  obtain ⟨s1, s2, s3, -⟩ := ab_setv_shape (h := h) o k v
  refine ab_ws_set s1 ?_ ?_
  · rw [ab_cell_obj ((s2 o).trans hkd) hci]
    congr 1
    refine Prod.ext rfl ?_
    apply List.ext_getElem?
    intro j
    rw [List.getElem?_set, List.getElem?_map, List.length_map, List.length_range]
    by_cases hj : k = j
    · subst hj
      rw [if_pos rfl, if_pos hk, List.getElem?_range hk]
      show some (ab_cv ad (ab_gv (ab_setv h o k v) o k (ab_ty ci k))) = _
      congr 2
      generalize ab_ty ci k = ty at hf ⊢
      cases ty <;> cases v <;> first | (simp [ab_fit] at hf; done) | skip
      all_goals first
        | (simp [ab_gv, ab_setv, ab_seti, ab_setl, ab_up]; done)
        | (simp only [ab_rlok, decide_eq_true_eq] at hrl; simp only [ab_gv, ab_setv]; rw [ab_rf_setr hrl]; simp [va_rf])
    · rw [if_neg hj, List.getElem?_map]
      by_cases hjn : j < ab_N ci
      · rw [List.getElem?_range hjn]
        show some (ab_cv ad (ab_gv (ab_setv h o k v) o j (ab_ty ci j))) = some (ab_cv ad (ab_gv h o j (ab_ty ci j)))
        congr 2
        generalize ab_ty ci j = ty
        cases v <;> first | rfl | skip
        · cases ty <;> first | rfl | (simp [ab_gv, ab_setv, ab_seti, ab_up, Ne.symm hj]; done)
        · cases ty <;> first | rfl | (simp [ab_gv, ab_setv, ab_setl, ab_up, Ne.symm hj]; done)
        · simp only [ab_rlok, decide_eq_true_eq] at hrl
          exact ab_gv_setr hrl (Or.inr (Ne.symm hj)) ty
      · have h1 : (List.range (ab_N ci))[j]? = none := List.getElem?_eq_none (by rw [List.length_range]; omega)
        rw [h1]
        rfl
  · intro q hq
    cases v <;> first | rfl | skip
    · exact ab_cell_seti hq
    · exact ab_cell_setl hq
    · simp only [ab_rlok, decide_eq_true_eq] at hrl
      exact ab_cell_setr hrl hq
theorem ab_fit_spec {ty : FieldType} {v : Value} (ad : Nat → Nat) (hf : ab_fit ty v = true) : narrow ty (ab_cv ad v) = ab_cv ad v ∧ fits ty (ab_cv ad v) = true := by
  cases ty <;> cases v <;> first | (simp [ab_fit] at hf; done) | (exact ⟨rfl, rfl⟩) | skip
  rename_i x
  simp only [ab_fit, Bool.or_eq_true, decide_eq_true_eq] at hf
  rcases hf with rfl | rfl
  · exact ⟨(by decide : narrow FieldType.boolean (Value.int 0) = Value.int 0), (by decide : fits FieldType.boolean (Value.int 0) = true)⟩
  · exact ⟨(by decide : narrow FieldType.boolean (Value.int 1) = Value.int 1), (by decide : fits FieldType.boolean (Value.int 1) = true)⟩
theorem abs_putf (hx : p.tables.exec = Jvm.exec) (hb : c.code = cc) {own i o ci k : Nat} {v : Value} {ini : Bool} (hown : s.vm.findClass (ab_C own) = some m.cls) (hts : ∀ w ∈ ab_BIG, w.before args s = true) (hini : ini = true → meth.name = "<init>") (hE : ab_EF D y s) (hf : ab_fl own i = some (ci, k)) (hr : ab_ref h o ci = true) (hk : k < ab_N ci) (hci : ci < 8) (hfit : ab_fit (ab_ty ci k) v = true) (hrl : ab_rlok h o k v = true) (hlt : ab_lt (ab_nx h) v = true) (hfin : (ab_T ci k).2.2.2 = false ∨ (ini = true ∧ own = ci)) (hown2 : (ab_T ci k).1 = ab_C ci) (hd : decode cc pc = .ok (.putfield i, 3)) (k1 : ab_Sim p l e R s m args below meth c Q A D y nL ad0 h0 (pc + 3, L, S, ab_setv h o k v)) : ab_Sim p l e R s m args below meth c Q A D y nL ad0 h0 (pc, L, v :: .ref o :: S, h) := by
  obtain ⟨ho, hkd⟩ := ab_refs hr
  obtain ⟨s1, s2, s3, s4⟩ := ab_setv_shape (h := h) o k v
  intro ad H locs ls hP hD hS hw hl hlen hfix hn1 hn2
  obtain ⟨f1, f2⟩ := ab_fit_spec ad hfit
  have hws := ab_setv_obj (y := y) (ad := ad) hkd hci hfit hrl hk
  have he : (ab_ws y ad h)[o]? = some (ad o, .inr (ci, (List.range (ab_N ci)).map (fun k => ab_cv ad (ab_gv h o k (ab_ty ci k))))) := by rw [ab_ws_get ho, ab_cell_obj hkd hci]
  have kk : ∀ (H1 : Heap) (locs1 : List Loc), va_P D vwCl (ab_ws y ad (ab_setv h o k v)) H1 → va_D A (ab_ws y ad (ab_setv h o k v)) → va_S A s.heap H1 locs1 → W p l e R s m args below meth c H1 locs1 (ab_nx h - ab_nx h0) (ab_sl h - ab_sl h0) Q (F0 m (pc + 3) ls (S.map (ab_cv ad))) := by
    intro H1 locs1 hP1 hD1 hS1
    have k2 := k1 ad H1 locs1 ls hP1 hD1 hS1 (ab_setv_wf hw hrl hlt) hl hlen ⟨hfix.1, fun z => hfix.2 (by rw [← z]; exact s1.symm)⟩ (by show ab_nx h0 ≤ ab_nx (ab_setv h o k v); rw [s1]; exact hn1) (by show ab_sl h0 ≤ ab_sl (ab_setv h o k v); rw [s4]; exact hn2)
    have e1 : ab_nx (pc + 3, L, S, ab_setv h o k v).2.2.2 = ab_nx h := s1
    have e2 : ab_sl (pc + 3, L, S, ab_setv h o k v).2.2.2 = ab_sl h := s4
    rw [e1, e2] at k2
    exact k2
  cases hb2 : (ab_T ci k).2.2.2 with
  | false =>
    refine va_put (C := ab_C ci) (T := ab_T ci) (N := ab_N ci) (ci := ci) hx hb (fun w h => hts w h) (ab_cls_in ci hci) (ab_ty ci) (ab_cls_ty ci hci) (ab_cls_nm ci hci) hown hE.1 hP hD hS o he (ab_cls ci hci) k hk (hts _ (ab_fl_spec hf)) (fun _ q => q) hb2 (ab_cls_ty ci hci k hk) f1 f2 (by rw [List.length_map, List.length_range]; exact hk) hd (fun H1 locs1 hP1 hD1 hS1 => ?_)
    rw [hws] at hP1 hD1
    exact kk H1 locs1 hP1 hD1 hS1
  | true =>
    rw [hb2] at hfin
    obtain ⟨i1, i2⟩ : ini = true ∧ own = ci := hfin.elim (fun z => by cases z) id
    refine va_putF (C := ab_C ci) (T := ab_T ci) (N := ab_N ci) (ci := ci) hx hb (fun w h => hts w h) (ab_cls_in ci hci) (ab_ty ci) (ab_cls_ty ci hci) (ab_cls_nm ci hci) hown hE.1 hP hD hS o he (ab_cls ci hci) k hk (hts _ (ab_fl_spec hf)) (fun _ q => q) hb2 (hini i1) (by rw [hown2, i2]) (ab_cls_ty ci hci k hk) f1 f2 (by rw [List.length_map, List.length_range]; exact hk) hd (fun H1 locs1 hP1 hD1 hS1 => ?_)
    rw [hws] at hP1 hD1
    exact kk H1 locs1 hP1 hD1 hS1

theorem abs_aald15 (hx : p.tables.exec = Jvm.exec) (hb : c.code = cc) {o : Nat} {i : Int32} (hE : ab_EF D y s) (hr : ab_ref h o 15 = true) (hi : ab_in i (ab_ln h o) = true) (hd : decode cc pc = .ok (.aaload, 1)) (k1 : ab_Sim p l e R s m args below meth c Q A D y nL ad0 h0 (pc + 1, L, va_rf (ab_rf h o i.toNatClampNeg) :: S, h)) : ab_Sim p l e R s m args below meth c Q A D y nL ad0 h0 (pc, L, .int i :: .ref o :: S, h) := by
  obtain ⟨ho, hkd⟩ := ab_refs hr
  intro ad H locs ls hP hD hS hw hl hlen hfix hn1 hn2
  refine va_aldq hx hb hE.1 hP o 5 (by rw [ab_ws_get ho, ab_cell_rfs hkd (Or.inr rfl)]) rfl (ab_in_vp hi) hd ?_
  rw [ab_rf_cv]
  exact k1 ad H locs ls hP hD hS hw hl hlen hfix hn1 hn2
theorem abs_aald14 (hx : p.tables.exec = Jvm.exec) (hb : c.code = cc) {o : Nat} {i : Int32} (hE : ab_EF D y s) (hr : ab_ref h o 14 = true) (hi : ab_in i (ab_ln h o) = true) (hd : decode cc pc = .ok (.aaload, 1)) (k1 : ab_Sim p l e R s m args below meth c Q A D y nL ad0 h0 (pc + 1, L, va_rf (ab_rf h o i.toNatClampNeg) :: S, h)) : ab_Sim p l e R s m args below meth c Q A D y nL ad0 h0 (pc, L, .int i :: .ref o :: S, h) := by
  obtain ⟨ho, hkd⟩ := ab_refs hr
  intro ad H locs ls hP hD hS hw hl hlen hfix hn1 hn2
  have hin := ab_in_vp hi
  have hlt : i.toNatClampNeg < ab_ln h o := Nat.not_le.mp fun q => hin (Or.inr q)
  have hcell : H[ad o]? = some (vp_cell (y 14) (ab_ln h o, .inr (.inr (.inr (.inr (fun i => (ab_rf h o i).map ad)))))) := by
    have := hP o _ (ab_ws_get ho)
    rw [ab_cell_rfs hkd (Or.inl rfl)] at this
    exact this
  have hK := hE.1.2 4 (y 14, .array .int) rfl
  refine W.aald (v := va_rf ((ab_rf h o i.toNatClampNeg).map ad)) (ty := .array .int) hx hb hcell (hK.1 (ab_ln h o) (fun j => va_rf ((ab_rf h o j).map ad))) rfl (fun q => by cases q) (by show ¬ (i < 0 ∨ (arrV _ _ _).slots.size ≤ _); rw [arrV_size]; exact hin) (by show (arrV _ _ _).slots[_]? = _; rw [arrV_read _ _ hlt]) rfl rfl hd ?_
  rw [ab_rf_cv]
  exact k1 ad H locs ls hP hD hS hw hl hlen hfix hn1 hn2
theorem abs_aast (hx : p.tables.exec = Jvm.exec) (hb : c.code = cc) {o r : Nat} {i : Int32} (hE : ab_EF D y s) (hr : ab_ref h o 15 = true) (hr2 : ab_ref h r 3 = true) (hi : ab_in i (ab_ln h o) = true) (hrl : i.toNatClampNeg < ab_rl h o) (hd : decode cc pc = .ok (.aastore, 1)) (k1 : ab_Sim p l e R s m args below meth c Q A D y nL ad0 h0 (pc + 1, L, S, ab_setr h o i.toNatClampNeg r)) : ab_Sim p l e R s m args below meth c Q A D y nL ad0 h0 (pc, L, .ref r :: .int i :: .ref o :: S, h) := by
  obtain ⟨ho, hkd⟩ := ab_refs hr
  obtain ⟨ho2, hkd2⟩ := ab_refs hr2
  obtain ⟨s1, s2, s3, s4⟩ := ab_setv_shape (h := h) o i.toNatClampNeg (.ref r)
  have hrl' : ab_rlok h o i.toNatClampNeg (.ref r) = true := decide_eq_true hrl
  intro ad H locs ls hP hD hS hw hl hlen hfix hn1 hn2
  have hws : (ab_ws y ad h).set o (ad o, .inl (y 15, ab_ln h o, .inr (.inr (.inr (.inr (va_up (fun i => (ab_rf h o i).map ad) i.toNatClampNeg (some (ad r)))))))) = ab_ws y ad (ab_setv h o i.toNatClampNeg (.ref r)) := by
    refine ab_ws_set s1 ?_ (fun q hq => ab_cell_setr hrl hq)
    rw [ab_cell_rfs ((s2 o).trans hkd) (Or.inr rfl), s3]
    refine ab_rfs_congr (fun j => ?_)
    show (ab_rf (ab_setr h o i.toNatClampNeg r) o j).map ad = va_up (fun i => (ab_rf h o i).map ad) i.toNatClampNeg (some (ad r)) j
    rw [ab_rf_setr hrl]
    unfold va_up
    by_cases hj : j = i.toNatClampNeg
    · rw [if_pos ⟨rfl, hj⟩, if_pos hj]
      rfl
    · rw [if_neg (fun z => hj z.2), if_neg hj]
  refine va_astq (r := (ab_C 3, ab_T 3, ab_N 3)) hx hb hE.1 hP hD hS o 5 r 3 (by rw [ab_ws_get ho, ab_cell_rfs hkd (Or.inr rfl)]) rfl (by rw [ab_ws_get ho2, ab_cell_obj hkd2 (by omega)]) (ab_cls 3 (by omega)) (ab_in_vp hi) hd (fun H1 locs1 hP1 hD1 hS1 => ?_)
  rw [hws] at hP1 hD1
  have k2 := k1 ad H1 locs1 ls hP1 hD1 hS1 (ab_setv_wf hw hrl' (decide_eq_true ho2)) hl hlen ⟨hfix.1, fun z => hfix.2 (by rw [← z]; exact s1.symm)⟩ (by show ab_nx h0 ≤ ab_nx (ab_setv h o i.toNatClampNeg (.ref r)); rw [s1]; exact hn1) (by show ab_sl h0 ≤ ab_sl (ab_setv h o i.toNatClampNeg (.ref r)); rw [s4]; exact hn2)
  have e1 : ab_nx (pc + 1, L, S, ab_setr h o i.toNatClampNeg r).2.2.2 = ab_nx h := s1
  have e2 : ab_sl (pc + 1, L, S, ab_setr h o i.toNatClampNeg r).2.2.2 = ab_sl h := s4
  rw [e1, e2] at k2
  exact k2
end ABS
