/-! multianewarray, of two dimensions -/
theorem vr_outer (c : ClassId) (N h0 : Nat) : ∀ i : Nat, Jvm.Free.Multi.outerC c N h0 i = arrV c N (fun j => va_rf (if j < i then some (h0 + 1 + j) else none))
  | 0 => by
    show ({ cls := c, slots := Array.replicate N .null, vm := .none } : Cell) = _
    rw [arrV_new]
    refine congrArg (arrV c N) (funext fun j => ?_)
    simp [va_rf]
  | i + 1 => by
    show (Jvm.Free.Multi.outerC c N h0 i).setSlot i (.ref (h0 + 1 + i)) = _
    rw [vr_outer c N h0 i, arrV_store]
    refine congrArg (arrV c N) (funext fun j => ?_)
    by_cases e : j = i
    · subst e
      simp [updV, va_rf]
    · by_cases h : j < i
      · simp [updV, e, h, Nat.lt_succ_of_lt h]
      · simp [updV, e, h, show ¬ j < i + 1 by omega]
theorem ab_mw3 : Cond.classLink (ab_C 3) 33 "[[I" ∈ ab_BIG := ab_has_mem (q := (1, 52)) (by decide +kernel)
theorem ab_mw5 : Cond.classLink (ab_C 5) 18 "[[I" ∈ ab_BIG := ab_has_mem (q := (2, 15)) (by decide +kernel)
section ABJ
variable {p : Program} {l : Launch} {e : Env} {R : Room} {s : State} {m : MethodId} {args : Array Value} {below : List Frame} {meth : Method} {c : Code} {Q : State → Prop} {A : Nat → Prop} {D : va_G} {y : Nat → ClassId} {nL : Nat} {ad0 : Nat → Nat} {h0 : ab_H} {cc : ByteArray} {pc : Nat} {L : ab_L} {S : List Value} {h : ab_H}
theorem ab_mna_get {N K i : Nat} : (ab_mna h N K).1[ab_nx h + i]? = ((14, N, (List.range N).map (fun i => some (ab_nx h + 1 + i))) :: List.replicate N (10, K, ([] : List (Option Nat))))[i]? := by
  show (h.1 ++ _)[h.1.length + i]? = _
  rw [List.getElem?_append_right (Nat.le_add_right _ _), Nat.add_sub_cancel_left]
  rfl
def ab_ad2 (ad : Nat → Nat) (n N q : Nat) : Nat → Nat := fun o => if n ≤ o ∧ o < n + 1 + N then q + (o - n) else ad o
set_option maxHeartbeats 1000000 in
theorem abs_mna (hx : p.tables.exec = Jvm.exec) (hb : c.code = cc) {own i : Nat} {n k : Int32} (hown : s.vm.findClass (ab_C own) = some m.cls) (hts : ∀ w ∈ ab_BIG, w.before args s = true) (hA : ∀ q, s.heap.size ≤ q → A q) (hE : ab_EF D y s) (hw1 : Cond.classLink (ab_C own) i "[[I" ∈ ab_BIG) (h0n : 0 ≤ n) (h0k : 0 ≤ k) (hn1k : n.toNatClampNeg ≤ 1000) (hk1k : k.toNatClampNeg ≤ 1000) (h1000 : ab_nx h + n.toNatClampNeg < 1000) (hL : L.all (fun v => (v.map (ab_ok (ab_nx h))).getD true) = true) (hSS : S.all (ab_ok (ab_nx h)) = true)
    (hR : ab_nx h + (1 + n.toNatClampNeg) - ab_nx h0 ≤ R.cells ∧ ab_sl h + (n.toNatClampNeg + n.toNatClampNeg * k.toNatClampNeg) - ab_sl h0 ≤ R.slots) (hd : decode cc pc = .ok (.multianewarray i 2, 4)) (k1 : ab_Sim p l e R s m args below meth c Q A D y nL ad0 h0 (pc + 4, L, .ref (ab_nx h) :: S, ab_mna h n.toNatClampNeg k.toNatClampNeg)) : ab_Sim p l e R s m args below meth c Q A D y nL ad0 h0 (pc, L, .int k :: .int n :: S, h) := by
  intro ad H locs ls hP hD hS hw hl hlen hfix hn1 hn2
  have hn1 : ab_nx h0 ≤ ab_nx h := hn1
  have hn2 : ab_sl h0 ≤ ab_sl h := hn2
  intro T hT Xs
  obtain ⟨vm₁, cA, comp, -, fA, fC, hO, -, X', step⟩ := Xs.multianewarray2F (ty := .int) hx hown (hts _ hw1) hE.2.2.2 (hts _ ab_arrI) (g := F0 m pc ls (.int k :: .int n :: S.map (ab_cv ad))) rfl (by rw [hb]; exact hd) rfl (Int32.not_lt.mpr h0n) (Int32.not_lt.mpr h0k) (by omega) (by show k.toNatClampNeg * 4 ≤ _; omega) (by omega) rfl rfl (by show ab_nx h - ab_nx h0 + _ ≤ _; omega) (by show ab_sl h - ab_sl h0 + _ ≤ _; omega)
  generalize hN : n.toNatClampNeg = N at *
  generalize hK : k.toNatClampNeg = K at *
  have hRA := (hE.1.2 4 _ rfl).2
  have hRI := (hE.1.2 0 _ rfl).2
  have ecA : cA = y 14 := Option.some.inj (fA.symm.trans hRA)
  have eco : comp = y 10 := Option.some.inj (fC.symm.trans hRI)
  subst ecA
  subst eco
  generalize hF : Jvm.Free.Multi.fill (T.setVm vm₁) (y 14) (y 10) N K (defaultValue .int) N = F at X' step
  have hTh : (T.setVm vm₁).heap = H := hT
  obtain ⟨f1, f2, -, -⟩ := Jvm.Free.Multi.fill_facts (T.setVm vm₁) (y 14) (y 10) N K (defaultValue .int) N
  rw [hF, hTh] at f1 f2
  have hold : ∀ x : Nat, x < H.size → F.heap[x]? = H[x]? := fun x hx => by
    have := Jvm.Free.Multi.fill_old (T.setVm vm₁) (y 14) (y 10) N K (defaultValue .int) (a := x) (by rw [hTh]; exact hx) N
    rw [hF, hTh] at this
    exact this
  have hrow : ∀ j : Nat, j < N → F.heap[H.size + 1 + j]? = some (vp_cell (y 10) (K, .inl (fun _ => 0))) := fun j hj => by
    have := Jvm.Free.Multi.fill_inner (T.setVm vm₁) (y 14) (y 10) N K (defaultValue .int) N j hj
    rw [hF, hTh] at this
    rw [this, vp_cell_i, ← arrV_new]
    rfl
  have hout : F.heap[H.size]? = some (vp_cell (y 14) (N, .inr (.inr (.inr (.inr (fun i => if i < N then some (H.size + 1 + i) else none)))))) := by
    rw [f2, vp_cell_q, vr_outer]
  let ad' := ab_ad2 ad (ab_nx h) N H.size
  have had : ad' = ab_ad2 ad (ab_nx h) N H.size := rfl
  have hfe : ∀ o, o < ab_nx h ∨ 1000 ≤ o → ad' o = ad o := fun o ho => if_neg (by omega)
  have hnew : ∀ j, j < N + 1 → ad' (ab_nx h + j) = H.size + j := by
    intro j hj
    rw [had]
    unfold ab_ad2
    rw [if_pos (by omega)]
    omega
  have hns : ((14, N, (List.range N).map (fun i => some (h.1.length + 1 + i))) :: List.replicate N (10, K, ([] : List (Option Nat)))).length = N + 1 := by simp
  have hcell : ∀ j, j < N + 1 → F.heap[H.size + j]? = some (vp_cell (y (if j = 0 then 14 else 10)) (if j = 0 then (N, .inr (.inr (.inr (.inr (fun i => if i < N then some (H.size + 1 + i) else none))))) else (K, .inl (fun _ => 0)))) := by
    intro j hj
    cases j with
    | zero => exact hout
    | succ j =>
      have := hrow j (by omega)
      rw [show H.size + (j + 1) = H.size + 1 + j by omega, this]
      rfl
  have hab : ∀ j, j < N + 1 → ab_cell y ad' (ab_mna h N K) (ab_nx h + j) = .inl (y (if j = 0 then 14 else 10), (if j = 0 then (N, .inr (.inr (.inr (.inr (fun i => if i < N then some (H.size + 1 + i) else none))))) else (K, .inl (fun _ => 0)))) := by
    intro j hj
    cases j with
    | zero =>
      have eg := ab_mna_get (h := h) (N := N) (K := K) (i := 0)
      rw [List.getElem?_cons_zero] at eg
      have k14 : ab_kd (ab_mna h N K) (ab_nx h + 0) = 14 := by unfold ab_kd; rw [eg]; rfl
      rw [ab_cell_rfs k14 (Or.inl rfl)]
      have e1 : ab_ln (ab_mna h N K) (ab_nx h + 0) = N := by unfold ab_ln; rw [eg]; rfl
      rw [e1, if_pos rfl, if_pos rfl]
      refine ab_rfs_congr (fun j => ?_)
      have e2 : ab_rf (ab_mna h N K) (ab_nx h + 0) j = if j < N then some (ab_nx h + 1 + j) else none := by
        unfold ab_rf
        rw [eg]
        show ((List.range N).map (fun i => some (ab_nx h + 1 + i))).getD j none = _
        rw [List.getD_eq_getElem?_getD, List.getElem?_map]
        by_cases hj2 : j < N
        · rw [List.getElem?_range hj2, if_pos hj2]; rfl
        · rw [if_neg hj2, List.getElem?_eq_none (by rw [List.length_range]; omega)]; rfl
      rw [e2]
      by_cases hj2 : j < N
      · rw [if_pos hj2, if_pos hj2]
        have := hnew (1 + j) (by omega)
        show some (ad' (ab_nx h + 1 + j)) = _
        rw [show ab_nx h + 1 + j = ab_nx h + (1 + j) by omega, this]
        congr 1
        omega
      · rw [if_neg hj2, if_neg hj2]
        rfl
    | succ j =>
      have eg := ab_mna_get (h := h) (N := N) (K := K) (i := j + 1)
      rw [List.getElem?_cons_succ, List.getElem?_replicate, if_pos (by omega)] at eg
      have k10 : ab_kd (ab_mna h N K) (ab_nx h + (j + 1)) = 10 := by unfold ab_kd; rw [eg]; rfl
      rw [ab_cell_arr k10 (by omega) (by omega) (by omega) (by omega)]
      have e1 : ab_ln (ab_mna h N K) (ab_nx h + (j + 1)) = K := by unfold ab_ln; rw [eg]; rfl
      rw [e1, if_neg (by omega), if_neg (by omega)]
      have e3 : (ab_mna h N K).2.1 (ab_nx h + (j + 1)) = fun _ => 0 := funext fun q => if_neg (by show ¬ ab_nx h + (j + 1) < ab_nx h; omega)
      rw [e3]
  have hws : ab_ws y ad' (ab_mna h N K) = ab_ws y ad h ++ (List.range (N + 1)).map (fun i => (ad' (ab_nx h + i), ab_cell y ad' (ab_mna h N K) (ab_nx h + i))) := by
    have := ab_ws_add (y := y) (h := h) (ns := (14, N, (List.range N).map (fun i => some (h.1.length + 1 + i))) :: List.replicate N (10, K, [])) (ad := ad) (ad' := ad') hw (fun o ho => hfe o (Or.inl ho))
    rw [hns] at this
    exact this
  have hget : ∀ (k9 : Nat) (x : Nat × va_E), ((List.range (N + 1)).map (fun i => (ad' (ab_nx h + i), ab_cell y ad' (ab_mna h N K) (ab_nx h + i))))[k9]? = some x → k9 < N + 1 ∧ x.1 = H.size + k9 ∧ x.2 = ab_cell y ad' (ab_mna h N K) (ab_nx h + k9) := by
    intro k9 x hx
    rw [List.getElem?_map] at hx
    by_cases h9 : k9 < N + 1
    · rw [List.getElem?_range h9] at hx
      cases hx
      exact ⟨h9, hnew k9 h9, rfl⟩
    · rw [List.getElem?_eq_none (by rw [List.length_range]; omega)] at hx
      cases hx
  have hP1 : va_P D vwCl (ab_ws y ad' (ab_mna h N K)) F.heap := by
    rw [hws]
    refine (hP.kept (fun k9 x hx => hold x.1 ((hP k9 x hx).lt))).app (fun k9 x hx => ?_)
    obtain ⟨g1, g2, g3⟩ := hget k9 x hx
    obtain ⟨xa, xe⟩ := x
    simp only at g2 g3
    subst g2
    subst g3
    rw [hab k9 g1]
    exact hcell k9 g1
  have hD1 : va_D A (ab_ws y ad' (ab_mna h N K)) := by
    rw [hws]
    refine hD.app ⟨fun a b x z hx hz e => ?_, fun k9 x hx => ?_⟩ (fun a b x z hx hz e => ?_)
    · have g1 := (hget a x hx).2.1
      have g2 := (hget b z hz).2.1
      omega
    · rw [(hget k9 x hx).2.1]
      exact hA _ (by have := hS.1; omega)
    · have g1 := (hP a x hx).lt
      have g2 := (hget b z hz).2.1
      omega
  have eN : ab_nx (ab_mna h N K) = ab_nx h + (N + 1) := by
    show (h.1 ++ _).length = _
    rw [List.length_append, hns]
    rfl
  have eS : ab_sl (ab_mna h N K) = ab_sl h + (N + N * K) := by
    show ab_sl (ab_add h _) = _
    rw [ab_sl_add]
    simp
  have k2 := k1 ad' F.heap locs ls hP1 hD1 ⟨by rw [f1]; have := hS.1; omega, fun x h1 h2 => (hold x (Nat.lt_of_lt_of_le h1 hS.1)).trans (hS.2.1 x h1 h2), hS.2.2⟩ (ab_add_wf hw (fun x hx2 j r hr => by
      rw [hns]
      rcases List.mem_cons.mp hx2 with rfl | hx2
      · rw [List.getD_eq_getElem?_getD, List.getElem?_map] at hr
        by_cases hj2 : j < N
        · rw [List.getElem?_range hj2] at hr
          cases hr
          show ab_nx h + 1 + j < _
          omega
        · rw [List.getElem?_eq_none (by rw [List.length_range]; omega)] at hr
          cases hr
      · rw [List.mem_replicate] at hx2
        rw [hx2.2] at hr
        simp at hr)) (ab_has_weak hl (ab_ok_L hL hfe)) hlen (ab_fx_ad hfix hn1 (by rw [hns]; omega) hfe) (by show ab_nx h0 ≤ ab_nx (ab_mna h N K); omega) (by show ab_sl h0 ≤ ab_sl (ab_mna h N K); omega)
  have e1 : ab_nx (pc + 4, L, Value.ref (ab_nx h) :: S, ab_mna h N K).2.2.2 - ab_nx h0 = ab_nx h - ab_nx h0 + 1 + N := by
    show ab_nx (ab_mna h N K) - ab_nx h0 = _
    omega
  have e2 : ab_sl (pc + 4, L, Value.ref (ab_nx h) :: S, ab_mna h N K).2.2.2 - ab_sl h0 = ab_sl h - ab_sl h0 + N + N * K := by
    show ab_sl (ab_mna h N K) - ab_sl h0 = _
    omega
  have e3 : (pc + 4, L, Value.ref (ab_nx h) :: S, ab_mna h N K).2.2.1.map (ab_cv ad') = Value.ref H.size :: S.map (ab_cv ad) := by
    show ab_cv _ (.ref (ab_nx h)) :: S.map _ = _
    rw [ab_ok_S hSS hfe]
    show Value.ref (ad' (ab_nx h)) :: _ = _
    rw [show ad' (ab_nx h) = H.size from hnew 0 (by omega)]
  rw [e1, e2, e3] at k2
  obtain ⟨t, a1, b1⟩ := k2 F rfl X'
  refine ⟨t, step t ?_, b1⟩
  have e : T.heap.size = H.size := by rw [hT]
  rw [e]
  exact a1
end ABJ
