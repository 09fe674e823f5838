/-! CALLS -/
theorem ab_AOA.spec {u : State} (h : ab_AOA u) : ∃ comp c k, u.vm.findClass (FieldType.array .int).toString = some comp ∧ (u.vm.classes.findIdx? fun (x : Class) => match x.kind with | .array component _ => component == comp | _ => false) = some c ∧ u.vm.classes[c]? = some k ∧ k.kind = .array comp (.array .int) ∧ u.vm.findClass ("[" ++ (FieldType.array .int).toString) = some c := by
  unfold ab_AOA Cond.before Cond.holds at h
  simp only [Cond.value, beq_iff_eq] at h
  cases hc : u.vm.findClass (FieldType.array .int).toString with
  | none => simp [hc] at h
  | some comp =>
    simp only [hc, Option.bind_some, Option.bind_eq_some_iff, Option.map_eq_some_iff] at h
    obtain ⟨c, hi, k, hk, hb⟩ := h
    obtain ⟨hlt, hp, -⟩ := Array.findIdx?_eq_some_iff_getElem.mp hi
    have hkk : u.vm.classes[c] = k := (Array.getElem?_eq_some_iff.mp hk).2
    rw [hkk] at hp
    cases hkind : k.kind with
    | array component ty =>
      rw [hkind] at hb hp
      simp at hb hp
      exact ⟨comp, c, k, rfl, hi, hk, by rw [hkind, hp, hb.1], hb.2⟩
    | _ => rw [hkind] at hb; simp at hb
theorem ab_AOA.moved {u U : State} (hvm : u.vm.Alike U.vm) (h : ab_AOA u) : ab_AOA U := by
  obtain ⟨comp, c, k, h1, h2, h3, h4, h5⟩ := ab_AOA.spec h
  obtain ⟨k', hk', he⟩ := hvm.2.2 _ _ h3
  have hi : (U.vm.classes.findIdx? fun (x : Class) => match x.kind with | .array component _ => component == comp | _ => false) = some c := by
    have hbe : u.vm.bare = U.vm.bare := by first | exact hvm.bare_eq | exact hvm.bare_eq.symm
    have e1 := va_idx_bare u.vm comp
    have e2 := va_idx_bare U.vm comp
    rw [hbe] at e1
    exact (e2.symm.trans e1).trans h2
  have hkind : k'.kind = .array comp (.array .int) := by rw [he]; exact h4
  have f1 : U.vm.findClass (FieldType.array .int).toString = some comp := by rw [hvm.findClass]; exact h1
  have f2 : U.vm.findClass ("[" ++ (FieldType.array .int).toString) = some c := by rw [hvm.findClass]; exact h5
  unfold ab_AOA Cond.before Cond.holds
  simp only [Cond.value]
  rw [f1, Option.bind_some]
  refine (congrArg (fun o : Option Nat => (o.bind (fun c => (U.vm.classes[c]?).map fun (k : Class) => match k.kind with | .array _ ty => decide (ty = FieldType.array .int) && decide (U.vm.findClass ("[" ++ (FieldType.array .int).toString) = some c) | _ => false) == some true)) hi).trans ?_
  simp [hk', hkind, f2]
theorem ab_NW_form : ∀ w ∈ ab_NW, ∃ a i x q, w = .methodLinkNest a i x q := by
  intro w hw
  simp only [ab_NW, List.mem_cons, List.not_mem_nil, or_false] at hw
  rcases hw with h | h | h | h | h | h | h | h | h | h | h <;> exact ⟨_, _, _, _, h⟩
theorem ab_EF.warm {D : va_G} {y : Nat → ClassId} {s U : State} (hW : s.WarmedH U.vm) (h : ab_EF D y s) : ab_EF D y U := by
  refine ⟨va_K.moved hW.alike h.1, fun w hw => ?_, va_AO.moved hW.alike h.2.2.1, ab_AOA.moved hW.alike h.2.2.2⟩
  obtain ⟨a, i, x, q, rfl⟩ := ab_NW_form w hw
  exact va_Nw.warmM hW (h.2.1 _ hw)
theorem ab_EF.same {D : va_G} {y : Nat → ClassId} {s U : State} (hv : s.vm = U.vm) (h : ab_EF D y s) : ab_EF D y U := by
  have hal : s.vm.Alike U.vm := by rw [hv]; exact Vm.Alike.refl U.vm
  refine ⟨va_K.moved hal h.1, fun w hw => ?_, va_AO.moved hal h.2.2.1, ab_AOA.moved hal h.2.2.2⟩
  obtain ⟨a, i, x, q, rfl⟩ := ab_NW_form w hw
  exact va_Nw.same rfl hv (h.2.1 _ hw)
/-- the script -/
def ab_XS (sc : Option (List Int32)) (ad : Nat → Nat) (A : Nat → Prop) (U : State) (H : Heap) : Prop := ∀ xs, sc = some xs → ∃ b, ad 2000 = b ∧ va_X b xs.length (fun j => xs.getD j 0) U H ∧ b < H.size ∧ ¬ A b
/-- texts and statics, that no call changes -/
def ab_ST (sc : Option (List Int32)) (ad : Nat → Nat) (A : Nat → Prop) (U : State) (H : Heap) : Prop := (∃ adV : Nat → Nat, vk_S 12 ab_sL ab_sB (fun i => ad (1000 + i)) adV A U H) ∧ (∀ i, i < 12 → vk_R RX4 (ab_kIx.getD i 0) (ab_sT i) (ad (1000 + i)) U) ∧ va_Z "java/lang/String" "COMPACT_STRINGS" "Z" (.int 1) A U H ∧ va_Zq "jdk/internal/util/Preconditions" "SIOOBE_FORMATTER" "Ljava/util/function/BiFunction;" A U H ∧ ab_XS sc ad A U H
theorem ab_ST.warm {sc : Option (List Int32)} {ad : Nat → Nat} {A : Nat → Prop} {s U : State} {H : Heap} (hW : s.WarmedH U.vm) (h : ab_ST sc ad A s H) : ab_ST sc ad A U H := ⟨h.1.imp (fun _ z => z.moved hW.alike), fun i hi => vk_R.warm hW (h.2.1 i hi), h.2.2.1.moved hW.alike, h.2.2.2.1.moved hW.alike, fun xs hx => by
    obtain ⟨b, h1, h2, h3⟩ := h.2.2.2.2 xs hx
    exact ⟨b, h1, h2.moved hW.alike, h3⟩⟩
theorem ab_ST.same {sc : Option (List Int32)} {ad : Nat → Nat} {A : Nat → Prop} {s U : State} {H : Heap} (hv : s.vm = U.vm) (h : ab_ST sc ad A s H) : ab_ST sc ad A U H := by
  have hal : s.vm.Alike U.vm := by rw [hv]; exact Vm.Alike.refl U.vm
  exact ⟨h.1.imp (fun _ z => z.moved hal), fun i hi => vk_R.same hv.symm (h.2.1 i hi), h.2.2.1.moved hal, h.2.2.2.1.moved hal, fun xs hx => by
    obtain ⟨b, h1, h2, h3⟩ := h.2.2.2.2 xs hx
    exact ⟨b, h1, h2.moved hal, h3⟩⟩
theorem ab_ST.kept {sc : Option (List Int32)} {ad : Nat → Nat} {A : Nat → Prop} {U : State} {H H1 : Heap} (h : ab_ST sc ad A U H) (hz : H.size ≤ H1.size) (hq : ∀ a : Nat, a < H.size → ¬ A a → H1[a]? = H[a]?) : ab_ST sc ad A U H1 := ⟨h.1.imp (fun _ z => z.kept hq), h.2.1, h.2.2.1.kept hq, h.2.2.2.1.kept hq, fun xs hx => by
    obtain ⟨b, h1, h2, h3, h4⟩ := h.2.2.2.2 xs hx
    exact ⟨b, h1, h2.kept (hq b h3 h4), Nat.lt_of_lt_of_le h3 hz, h4⟩⟩
theorem ab_ST.narrow {sc : Option (List Int32)} {ad : Nat → Nat} {A B : Nat → Prop} {U : State} {H : Heap} (h : ab_ST sc ad A U H) (hAB : ∀ q, B q → A q) : ab_ST sc ad B U H := ⟨h.1.imp (fun _ z => z.narrow hAB), h.2.1, h.2.2.1.narrow hAB, h.2.2.2.1.narrow hAB, fun xs hx => by
    obtain ⟨b, h1, h2, h3, h4⟩ := h.2.2.2.2 xs hx
    exact ⟨b, h1, h2, h3, fun z => h4 (hAB b z)⟩⟩
theorem ab_ST.ad {sc : Option (List Int32)} {ad ad' : Nat → Nat} {A : Nat → Prop} {U : State} {H : Heap} (ha : ∀ o, 1000 ≤ o → ad' o = ad o) (h : ab_ST sc ad A U H) : ab_ST sc ad' A U H := by
  have e : (fun i => ad' (1000 + i)) = fun i => ad (1000 + i) := funext fun i => ha _ (Nat.le_add_right _ _)
  refine ⟨?_, fun i hi => ?_, h.2.2.1, h.2.2.2.1, fun xs hx => ?_⟩
  · rw [e]; exact h.1
  · rw [ha _ (Nat.le_add_right _ _)]; exact h.2.1 i hi
  · obtain ⟨b, h1, h2⟩ := h.2.2.2.2 xs hx
    exact ⟨b, (ha _ (by omega)).trans h1, h2⟩
def ab_w (mi : Nat) : List Cond := .code (ab_nm mi) (ab_by mi) (ab_mxl mi) (ab_rt mi) :: ab_BIG
def ab_rm (mi : Nat) (h h' : ab_H) : Room := { frames := ab_fr mi, cells := ab_nx h' - ab_nx h, slots := ab_sl h' - ab_sl h, locals := ab_lc mi }
def ab_Pc (sc : Option (List Int32)) (D : va_G) (y : Nat → ClassId) (ad : Nat → Nat) (h : ab_H) (sz : Nat) (vs : List Value) : Array Value → State → Prop := va_Pc (vs.map (ab_cv ad)) (fun U => U.heap.size = sz ∧ ab_EF D y U ∧ va_P D vwCl (ab_ws y ad h) U.heap ∧ va_D (fun _ => True) (ab_ws y ad h) ∧ ab_ST sc ad (va_A (ab_ws y ad h) sz) U U.heap)
def ab_Q (D : va_G) (y : Nat → ClassId) (ad : Nat → Nat) (h : ab_H) (sz : Nat) (r : Option Value) (h' : ab_H) : Array Value → State → Outcome → State → Prop := fun _ st oc t =>
  (∃ ad' : Nat → Nat, ab_fx ad' ad h h' ∧ oc = .returned (r.map (ab_cv ad')) ∧ va_P D vwCl (ab_ws y ad' h') t.heap ∧ va_D (va_A (ab_ws y ad h) sz) (ab_ws y ad' h') ∧ ab_wf h') ∧ va_F (va_A (ab_ws y ad h) sz) st t
def ab_Met (sc : Option (List Int32)) (l : Launch) (D : va_G) (y : Nat → ClassId) (mi : Nat) (vs : List Value) (h : ab_H) (r : Option Value) (h' : ab_H) : Prop := ∀ (ad : Nat → Nat) (sz : Nat), Met l (ab_nm mi) (ab_w mi) (ab_rm mi h h') (ab_Pc sc D y ad h sz vs) (ab_Q D y ad h sz r h') (ab_nx h' - ab_nx h) (ab_sl h' - ab_sl h) (va_A (ab_ws y ad h) sz)
/-- what is known of calls -/
def ab_CS (sc : Option (List Int32)) (l : Launch) (D : va_G) (y : Nat → ClassId) (call : Nat → List Value → ab_H → Option (Option Value × ab_H)) : Prop := ∀ mi vs h r h', call mi vs h = some (r, h') → ab_wf h → ab_Met sc l D y mi vs h r h'
section ABC
variable {sc : Option (List Int32)} {p : Program} {l : Launch} {e : Env} {R : Room} {s : State} {m : MethodId} {args : Array Value} {below : List Frame} {meth : Method} {c : Code} {Q : State → Prop} {A : Nat → Prop} {D : va_G} {y : Nat → ClassId} {nL : Nat} {ad0 : Nat → Nat} {h0 : ab_H} {cc : ByteArray} {pc : Nat} {L : ab_L} {S : List Value} {h : ab_H}
theorem ab_blind {ad : Nat → Nat} {sz : Nat} {vs : List Value} : FrameBlind (ab_Pc sc D y ad h sz vs) := by
  intro a U g mk q
  obtain ⟨q0, q1, q2, q3, q4, q5⟩ := q
  exact ⟨q0, q1, ab_EF.same (s := U) (U := U.calling g mk a) rfl q2, q3, q4, ab_ST.same (s := U) (U := U.calling g mk a) rfl q5⟩
theorem ab_hAf {ad : Nat → Nat} {H : Heap} {locs : List Loc} (hD : va_D A (ab_ws y ad h)) (hS : va_S A s.heap H locs) (hA : ∀ q, s.heap.size ≤ q → A q) : ∀ q, va_A (ab_ws y ad h) H.size q → A q := by
  intro q hq
  rcases hq with ⟨k, e, hk⟩ | hq
  · exact hD.2 k (q, e) hk
  · exact hA q (Nat.le_trans hS.1 hq)
theorem ab_preS {ad : Nat → Nat} {H : Heap} {locs : List Loc} {vs : List Value} (hE : ab_EF D y s) (hP : va_P D vwCl (ab_ws y ad h) H) (hD : va_D A (ab_ws y ad h)) (hT : ab_ST sc ad0 A s s.heap) (hS : va_S A s.heap H locs) (hA : ∀ q, s.heap.size ≤ q → A q) (hfix : ab_fx ad ad0 h0 h) : PreS s H (ab_Pc sc D y ad h H.size vs) (vs.map (ab_cv ad)) :=
  ⟨ab_blind, fun U hU hW => ⟨rfl, by rw [hU], ab_EF.warm hW hE, by rw [hU]; exact hP, hD.weaken (fun _ _ _ _ => trivial), by rw [hU]; exact (((hT.kept hS.1 hS.2.1).narrow (ab_hAf hD hS hA)).ad (fun o ho => hfix.1 o (Or.inr ho))).warm hW⟩⟩
theorem ab_callk {ad : Nat → Nat} {H : Heap} {locs : List Loc} {cells slots mc ms : Nat} {ls : Array Slot} {st0 rest : List Value} {rv : Option Value} {h' : ab_H} {a : Array Value}
    (hr : va_Run p l e R s m args below meth c H locs cells slots mc ms (F0 m pc ls st0) rest (ab_Q D y ad h H.size rv h' a) (va_A (ab_ws y ad h) H.size)) (hS : va_S A s.heap H locs) (hAf : ∀ q, va_A (ab_ws y ad h) H.size q → A q)
    (kk : ∀ (ad' : Nat → Nat) (H1 : Heap) (locs1 : List Loc), va_P D vwCl (ab_ws y ad' h') H1 → va_D A (ab_ws y ad' h') → ab_fx ad' ad h h' → ab_wf h' → va_S A s.heap H1 locs1 → W p l e R s m args below meth c H1 locs1 (cells + mc) (slots + ms) Q (F0 m (pc + 3) ls ((rv.map (ab_cv ad')).toList ++ rest))) :
    W p l e R s m args below meth c H locs cells slots Q (F0 m pc ls st0) := by
  intro T hT X
  obtain ⟨v, st₀, t, T', L2, g0, X', hL, e1, e2, ⟨⟨ad', hfx, hv, hP', hD', hw'⟩, hz, hk⟩, st⟩ := hr T hT X
  have hv2 : v = rv.map (ab_cv ad') := by injection hv
  subst hv2
  rw [g0] at hz hk
  obtain ⟨t2, a1, b1⟩ := kk ad' T'.heap (locs ++ L2) (by rw [e1]; exact hP') (hD'.weaken (fun _ q _ hq => hAf q.1 hq)) hfx hw'
    ⟨Nat.le_trans hS.1 (by rw [e1]; exact hz), fun q h1 h2 => by rw [e1, hk q (Nat.lt_of_lt_of_le h1 hS.1) (fun z => h2 (hAf q z))]; exact hS.2.1 q h1 h2, fun q hq => by
      rcases List.mem_append.mp hq with h | h
      · exact hS.2.2 q h
      · exact hAf _ (hL q h)⟩ T' rfl X'
  exact ⟨t2, st t2 a1, b1⟩
/-- a call, once its run is known -/
theorem ab_call_sim {ad : Nat → Nat} {H : Heap} {locs : List Loc} {ls : Array Slot} {st0 : List Value} {rest : List Value} {rv : Option Value} {h' : ab_H} {a : Array Value}
    (hcond : (ab_nx h' = ab_nx h ∧ ab_sl h' = ab_sl h) ∨ (ab_nx h ≤ ab_nx h' ∧ ab_sl h ≤ ab_sl h' ∧ (L.all (fun v => (v.map (ab_ok (ab_nx h))).getD true) && rest.all (ab_ok (ab_nx h))) = true))
    (hP : va_P D vwCl (ab_ws y ad h) H) (hD : va_D A (ab_ws y ad h)) (hS : va_S A s.heap H locs) (hl : lv_has ls nL (ab_le ad L)) (hlen : L.length = nL) (hfix : ab_fx ad ad0 h0 h) (hn1 : ab_nx h0 ≤ ab_nx h) (hn2 : ab_sl h0 ≤ ab_sl h) (hA : ∀ q, s.heap.size ≤ q → A q)
    (hr : va_Run p l e R s m args below meth c H locs (ab_nx h - ab_nx h0) (ab_sl h - ab_sl h0) (ab_nx h' - ab_nx h) (ab_sl h' - ab_sl h) (F0 m pc ls st0) (rest.map (ab_cv ad)) (ab_Q D y ad h H.size rv h' a) (va_A (ab_ws y ad h) H.size))
    (k1 : ab_Sim p l e R s m args below meth c Q A D y nL ad0 h0 (pc + 3, L, rv.toList ++ rest, h')) : W p l e R s m args below meth c H locs (ab_nx h - ab_nx h0) (ab_sl h - ab_sl h0) Q (F0 m pc ls st0) := by
  have hle : ab_nx h ≤ ab_nx h' ∧ ab_sl h ≤ ab_sl h' := by
    rcases hcond with h1 | h1
    · exact ⟨by omega, by omega⟩
    · exact ⟨h1.1, h1.2.1⟩
  have hAf : ∀ q, va_A (ab_ws y ad h) H.size q → A q := by
    intro q hq
    rcases hq with ⟨k, e, hk⟩ | hq
    · exact hD.2 k (q, e) hk
    · exact hA q (Nat.le_trans hS.1 hq)
  refine ab_callk hr hS hAf (fun ad' H1 locs1 hP1 hD1 hfx hw1 hS1 => ?_)
  have hfx2 : ab_fx ad' ad0 h0 h' := by
    refine ⟨fun o ho => ?_, fun z => ?_⟩
    · rw [hfx.1 o (ho.elim (fun w => Or.inl (by omega)) Or.inr)]
      exact hfix.1 o ho
    · rw [hfx.2 (by omega)]
      exact hfix.2 (by omega)
  have hboth : (∀ q ∈ ab_le ad' L, q ∈ ab_le ad L) ∧ rest.map (ab_cv ad') = rest.map (ab_cv ad) := by
    rcases hcond with h1 | h1
    · rw [hfx.2 h1.1]
      exact ⟨fun _ h => h, rfl⟩
    · rw [Bool.and_eq_true] at h1
      exact ⟨ab_ok_L h1.2.2.1 hfx.1, ab_ok_S h1.2.2.2 hfx.1⟩
  have k2 := k1 ad' H1 locs1 ls hP1 hD1 hS1 hw1 (ab_has_weak hl hboth.1) hlen hfx2 (by show ab_nx h0 ≤ ab_nx h'; omega) (by show ab_sl h0 ≤ ab_sl h'; omega)
  have e1 : ab_nx (pc + 3, L, rv.toList ++ rest, h').2.2.2 - ab_nx h0 = ab_nx h - ab_nx h0 + (ab_nx h' - ab_nx h) := by
    show ab_nx h' - ab_nx h0 = _
    omega
  have e2 : ab_sl (pc + 3, L, rv.toList ++ rest, h').2.2.2 - ab_sl h0 = ab_sl h - ab_sl h0 + (ab_sl h' - ab_sl h) := by
    show ab_sl h' - ab_sl h0 = _
    omega
  have e3 : (pc + 3, L, rv.toList ++ rest, h').2.2.1.map (ab_cv ad') = (rv.map (ab_cv ad')).toList ++ rest.map (ab_cv ad) := by
    show (rv.toList ++ rest).map (ab_cv ad') = _
    rw [List.map_append, hboth.2]
    cases rv <;> rfl
  rw [e1, e2, e3] at k2
  exact k2
end ABC
