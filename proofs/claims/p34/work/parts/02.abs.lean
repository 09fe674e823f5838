/-! THE ABSTRACT MACHINE: objects by number (in the order of their making), a shape, ints and longs apart. -/
abbrev ab_H : Type := List (Nat × Nat × List (Option Nat)) × (Nat → Nat → Int32) × (Nat → Nat → Int64)
abbrev ab_L : Type := List (Option Value)
abbrev ab_F : Type := Nat × ab_L × List Value × ab_H
abbrev ab_R : Type := Option (ab_F ⊕ (Option Value × ab_H))
def ab_kd (h : ab_H) (o : Nat) : Nat := ((h.1[o]?).map (fun x => x.1)).getD 99
def ab_ln (h : ab_H) (o : Nat) : Nat := ((h.1[o]?).map (fun x => x.2.1)).getD 0
def ab_rf (h : ab_H) (o k : Nat) : Option Nat := ((h.1[o]?).map (fun x => x.2.2.getD k none)).getD none
def ab_nx (h : ab_H) : Nat := h.1.length
def ab_sl (h : ab_H) : Nat := (h.1.map (fun x => x.2.1)).sum
def ab_up {α : Type} (f : Nat → Nat → α) (o k : Nat) (v : α) : Nat → Nat → α := fun a b => if a = o ∧ b = k then v else f a b
def ab_seti (h : ab_H) (o k : Nat) (x : Int32) : ab_H := (h.1, ab_up h.2.1 o k x, h.2.2)
def ab_setl (h : ab_H) (o k : Nat) (x : Int64) : ab_H := (h.1, h.2.1, ab_up h.2.2 o k x)
def ab_setr (h : ab_H) (o k r : Nat) : ab_H := (match h.1[o]? with | some x => h.1.set o (x.1, x.2.1, x.2.2.set k (some r)) | none => h.1, h.2.1, h.2.2)
def ab_add (h : ab_H) (ns : List (Nat × Nat × List (Option Nat))) : ab_H := (h.1 ++ ns, (fun o k => if o < h.1.length then h.2.1 o k else 0), (fun o k => if o < h.1.length then h.2.2 o k else 0))
def ab_new (h : ab_H) (kd ln : Nat) (rs : List (Option Nat)) : ab_H := ab_add h [(kd, ln, rs)]
def ab_mna (h : ab_H) (n k : Nat) : ab_H := ab_add h ((14, n, (List.range n).map (fun i => some (h.1.length + 1 + i))) :: List.replicate n (10, k, []))
def ab_ty (ci k : Nat) : FieldType := match ci with
  | 0 => tyX0 k | 1 => tyX1 k | 2 => tyX2 k | 3 => tyX3 k | 4 => tyX4 k | 5 => tyX5 k | 6 => tyX6 k | _ => tyX7 k
def ab_N (ci : Nat) : Nat := match ci with
  | 0 => 3 | 1 => 1 | 2 => 10 | 3 => 17 | 4 => 12 | 5 => 4 | 6 => 2 | _ => 10
def ab_T (ci : Nat) : u_T := match ci with
  | 0 => TX0 | 1 => TX1 | 2 => TX2 | 3 => TX3 | 4 => TX4 | 5 => TX5 | 6 => TX6 | _ => TX7
def ab_C (ci : Nat) : String := match ci with
  | 0 => RX0 | 1 => RX1 | 2 => RX2 | 3 => RX3 | 4 => RX4 | 5 => RX5 | 6 => RX6 | 7 => RX7 | _ => RL
theorem ab_cls (ci : Nat) (h : ci < 8) : vwCl[ci]? = some (ab_C ci, ab_T ci, ab_N ci) := by
  rcases (show ci = 0 ∨ ci = 1 ∨ ci = 2 ∨ ci = 3 ∨ ci = 4 ∨ ci = 5 ∨ ci = 6 ∨ ci = 7 by omega) with h | h | h | h | h | h | h | h <;> subst h <;> rfl
/-- a value's numbers to addresses -/
def ab_cv (ad : Nat → Nat) : Value → Value
  | .ref o => .ref (ad o)
  | v => v
/-- what a field holds -/
def ab_gv (h : ab_H) (o k : Nat) : FieldType → Value
  | .int => .int (h.2.1 o k)
  | .boolean => .int (h.2.1 o k)
  | .long => .long (h.2.2 o k)
  | _ => va_rf (ab_rf h o k)
def ab_cell (y : Nat → ClassId) (ad : Nat → Nat) (h : ab_H) (o : Nat) : va_E :=
  if ab_kd h o < 8 then .inr (ab_kd h o, (List.range (ab_N (ab_kd h o))).map (fun k => ab_cv ad (ab_gv h o k (ab_ty (ab_kd h o) k))))
  else .inl (y (ab_kd h o), ab_ln h o, if ab_kd h o = 11 then .inr (.inl (h.2.2 o)) else if ab_kd h o = 14 ∨ ab_kd h o = 15 then .inr (.inr (.inr (.inr (fun i => (ab_rf h o i).map ad)))) else .inl (h.2.1 o))
def ab_ws (y : Nat → ClassId) (ad : Nat → Nat) (h : ab_H) : va_W := (List.range (ab_nx h)).map (fun o => (ad o, ab_cell y ad h o))
def ab_tys (y : Nat → ClassId) : List (ClassId × FieldType) := [(y 10, .int), (y 11, .long), (y 12, .boolean), (y 13, .byte), (y 14, .array .int), (y 15, .object RX3)]
def ab_wf (h : ab_H) : Prop := ∀ o k r, ab_rf h o k = some r → r < ab_nx h
/-- a value that tells no object that is not yet made (numbers from 1000 on are the strings') -/
def ab_ok (n : Nat) : Value → Bool
  | .ref o => decide (o < n) || decide (1000 ≤ o)
  | _ => true
theorem ab_ws_get {y : Nat → ClassId} {ad : Nat → Nat} {h : ab_H} {o : Nat} (ho : o < ab_nx h) : (ab_ws y ad h)[o]? = some (ad o, ab_cell y ad h o) := by
  unfold ab_ws
  rw [List.getElem?_map, List.getElem?_range ho]
  rfl
theorem ab_ws_len {y : Nat → ClassId} {ad : Nat → Nat} {h : ab_H} : (ab_ws y ad h).length = ab_nx h := by simp [ab_ws]
theorem ab_ws_set {y : Nat → ClassId} {ad : Nat → Nat} {h h' : ab_H} {o : Nat} {e : va_E} (hn : ab_nx h' = ab_nx h) (he : ab_cell y ad h' o = e) (hc : ∀ q, q ≠ o → ab_cell y ad h' q = ab_cell y ad h q) : (ab_ws y ad h).set o (ad o, e) = ab_ws y ad h' := by
  apply List.ext_getElem?
  intro i
  rw [List.getElem?_set]
  by_cases hi : i < ab_nx h
  · rw [ab_ws_get (h := h') (by omega), ab_ws_get hi, ab_ws_len]
    by_cases e1 : o = i
    · subst e1
      simp [hi, he]
    · rw [if_neg e1, hc i (fun z => e1 z.symm)]
  · have h1 : (ab_ws y ad h)[i]? = none := List.getElem?_eq_none (by rw [ab_ws_len]; omega)
    have h2 : (ab_ws y ad h')[i]? = none := List.getElem?_eq_none (by rw [ab_ws_len]; omega)
    rw [h1, h2, ab_ws_len]
    by_cases e1 : o = i
    · subst e1
      simp [hi]
    · simp [e1]
theorem ab_up_same {α : Type} (f : Nat → Nat → α) (o k : Nat) (v : α) : ab_up f o k v o = fun b => if b = k then v else f o b := by
  funext b
  simp [ab_up]
theorem ab_up_other {α : Type} (f : Nat → Nat → α) {o q : Nat} (k : Nat) (v : α) (h : q ≠ o) : ab_up f o k v q = f q := by
  funext b
  simp [ab_up, h]
theorem ab_cell_seti {y : Nat → ClassId} {ad : Nat → Nat} {h : ab_H} {o q k : Nat} {x : Int32} (hq : q ≠ o) : ab_cell y ad (ab_seti h o k x) q = ab_cell y ad h q := by
  have e : (ab_seti h o k x).2.1 q = h.2.1 q := ab_up_other _ _ _ hq
  have e2 : ∀ j ty, ab_gv (ab_seti h o k x) q j ty = ab_gv h q j ty := by
    intro j ty
    cases ty <;> simp [ab_gv, e] <;> rfl
  unfold ab_cell
  rw [show ab_kd (ab_seti h o k x) q = ab_kd h q from rfl, show ab_ln (ab_seti h o k x) q = ab_ln h q from rfl, e]
  simp only [e2]
  rfl
theorem ab_cell_setl {y : Nat → ClassId} {ad : Nat → Nat} {h : ab_H} {o q k : Nat} {x : Int64} (hq : q ≠ o) : ab_cell y ad (ab_setl h o k x) q = ab_cell y ad h q := by
  have e : (ab_setl h o k x).2.2 q = h.2.2 q := ab_up_other _ _ _ hq
  have e2 : ∀ j ty, ab_gv (ab_setl h o k x) q j ty = ab_gv h q j ty := by
    intro j ty
    cases ty <;> simp [ab_gv, e] <;> rfl
  unfold ab_cell
  rw [show ab_kd (ab_setl h o k x) q = ab_kd h q from rfl, show ab_ln (ab_setl h o k x) q = ab_ln h q from rfl, e]
  simp only [e2]
  rfl
/-- locals -/
def ab_le (ad : Nat → Nat) (L : ab_L) : List (Nat × Value) := (List.range L.length).filterMap (fun i => (L.getD i none).map (fun v => (i, ab_cv ad v)))
theorem ab_le_mem {ad : Nat → Nat} {L : ab_L} {q : Nat × Value} : q ∈ ab_le ad L ↔ ∃ v, L.getD q.1 none = some v ∧ q.2 = ab_cv ad v := by
  unfold ab_le
  rw [List.mem_filterMap]
  constructor
  · rintro ⟨i, -, hi⟩
    cases hL : L.getD i none with
    | none => rw [hL] at hi; cases hi
    | some v => rw [hL] at hi; cases hi; exact ⟨v, hL, rfl⟩
  · rintro ⟨v, hv, hq⟩
    refine ⟨q.1, ?_, ?_⟩
    · rw [List.mem_range]
      rcases Nat.lt_or_ge q.1 L.length with h | h
      · exact h
      · rw [List.getD_eq_getElem?_getD, List.getElem?_eq_none h] at hv; cases hv
    · rw [hv, Option.map_some, ← hq]
def ab_put (i : Nat) (v : Value) (L : ab_L) : ab_L :=
  let L1 := L.set i (some v)
  let L2 := if v.category = 2 then L1.set (i + 1) none else L1
  match i with
  | 0 => L2
  | j + 1 => match L.getD j none with
    | some w => if w.category = 2 then L2.set j none else L2
    | none => L2
theorem ab_has_weak {ls : Array Slot} {nL : Nat} {l l' : List (Nat × Value)} (h : lv_has ls nL l) (hl : ∀ q ∈ l', q ∈ l) : lv_has ls nL l' := ⟨h.1, h.2.1, fun q hq => h.2.2 q (hl q hq)⟩
theorem ab_getD_set {α : Type} (L : List (Option α)) (i j : Nat) (v : Option α) : (L.set i v).getD j none = if i = j ∧ i < L.length then v else L.getD j none := by
  simp only [List.getD_eq_getElem?_getD, List.getElem?_set]
  by_cases h : i = j
  · subst h
    by_cases h2 : i < L.length
    · simp [h2]
    · simp [h2, List.getElem?_eq_none (Nat.le_of_not_lt h2)]
  · simp [h]
theorem ab_put_len (i : Nat) (v : Value) (L : ab_L) : (ab_put i v L).length = L.length := by
  unfold ab_put
  cases i with
  | zero => simp; split <;> simp
  | succ j =>
    simp only
    split
    · split <;> split <;> simp
    · split <;> simp
theorem ab_put_get {i j : Nat} {v w : Value} {L : ab_L} (hi : i < L.length) (h : (ab_put i v L).getD j none = some w) : (j = i ∧ w = v) ∨ (L.getD j none = some w ∧ j ≠ i ∧ ¬ (v.category = 2 ∧ j = i + 1) ∧ ¬ (j + 1 = i ∧ w.category = 2)) := by
  have base : ((if v.category = 2 then (L.set i (some v)).set (i + 1) none else L.set i (some v)) : ab_L).getD j none = some w → (j = i ∧ w = v) ∨ (L.getD j none = some w ∧ j ≠ i ∧ ¬ (v.category = 2 ∧ j = i + 1)) := by
    intro h
    split at h
    · rename_i hc
      rw [ab_getD_set, ab_getD_set] at h
      split at h
      · cases h
      · rename_i h1
        split at h
        · rename_i h2
          cases h
          exact Or.inl ⟨h2.1.symm, rfl⟩
        · rename_i h2
          refine Or.inr ⟨h, fun z => h2 ⟨z.symm, hi⟩, fun z => ?_⟩
          by_cases hl : i + 1 < (L.set i (some v)).length
          · exact h1 ⟨z.2.symm, hl⟩
          · rw [z.2, List.getD_eq_getElem?_getD, List.getElem?_eq_none (by simpa using hl)] at h
            cases h
    · rename_i hc
      rw [ab_getD_set] at h
      split at h
      · rename_i h2
        cases h
        exact Or.inl ⟨h2.1.symm, rfl⟩
      · rename_i h2
        exact Or.inr ⟨h, fun z => h2 ⟨z.symm, hi⟩, fun z => hc z.1⟩
  cases i with
  | zero =>
    rcases base h with h | ⟨h1, h2, h3⟩
    · exact Or.inl h
    · exact Or.inr ⟨h1, h2, h3, fun z => by omega⟩
  | succ k =>
    unfold ab_put at h
    simp only at h
    generalize hG : ((if v.category = 2 then (L.set (k + 1) (some v)).set (k + 1 + 1) none else L.set (k + 1) (some v)) : ab_L) = L2 at h base
    have hl2 : L2.length = L.length := by
      rw [← hG]
      split <;> simp
    cases hw0 : L.getD k none with
    | some w0 =>
      rw [hw0] at h
      simp only at h
      by_cases hc : w0.category = 2
      · rw [if_pos hc, ab_getD_set] at h
        split at h
        · cases h
        · rename_i hne
          rcases base h with h | ⟨h1, h2, h3⟩
          · exact Or.inl h
          · exact Or.inr ⟨h1, h2, h3, fun z => hne ⟨by omega, by omega⟩⟩
      · rw [if_neg hc] at h
        rcases base h with h | ⟨h1, h2, h3⟩
        · exact Or.inl h
        · refine Or.inr ⟨h1, h2, h3, fun z => ?_⟩
          rw [show j = k by omega, hw0] at h1
          cases h1
          exact hc z.2
    | none =>
      rw [hw0] at h
      simp only at h
      rcases base h with h | ⟨h1, h2, h3⟩
      · exact Or.inl h
      · refine Or.inr ⟨h1, h2, h3, fun z => ?_⟩
        rw [show j = k by omega, hw0] at h1
        cases h1
theorem ab_cv_cat (ad : Nat → Nat) (v : Value) : (ab_cv ad v).category = v.category := by
  cases v <;> rfl
theorem ab_put1 {ad : Nat → Nat} {i : Nat} {v : Value} {L : ab_L} (hi : i < L.length) (hc : v.category = 1) : ∀ q ∈ ab_le ad (ab_put i v L), q ∈ ((i, ab_cv ad v) :: (ab_le ad L).filter (fun q => !(q.1 == i) && !(q.1 + 1 == i && q.2.category == 2))) := by
  intro q hq
  obtain ⟨w, h1, h2⟩ := ab_le_mem.mp hq
  rcases ab_put_get hi h1 with ⟨h3, h4⟩ | ⟨h3, h4, h5, h6⟩
  · subst h4
    rw [show q = (i, ab_cv ad w) from Prod.ext h3 h2]
    exact List.mem_cons_self
  · refine List.mem_cons_of_mem _ (List.mem_filter.mpr ⟨ab_le_mem.mpr ⟨w, h3, h2⟩, ?_⟩)
    rw [h2, ab_cv_cat]
    simp only [Bool.and_eq_true, Bool.not_eq_true', beq_eq_false_iff_ne, Bool.and_eq_false_iff]
    refine ⟨h4, ?_⟩
    rcases Nat.decEq (q.1 + 1) i with h | h
    · exact Or.inl h
    · exact Or.inr (fun z => h6 ⟨h, z⟩)
theorem ab_put2 {ad : Nat → Nat} {i : Nat} {v : Value} {L : ab_L} (hi : i < L.length) (hc : v.category = 2) : ∀ q ∈ ab_le ad (ab_put i v L), q ∈ ((i, ab_cv ad v) :: (ab_le ad L).filter (fun q => !(q.1 == i) && (!(q.1 == i + 1) && !(q.1 + 1 == i && q.2.category == 2)))) := by
  intro q hq
  obtain ⟨w, h1, h2⟩ := ab_le_mem.mp hq
  rcases ab_put_get hi h1 with ⟨h3, h4⟩ | ⟨h3, h4, h5, h6⟩
  · subst h4
    rw [show q = (i, ab_cv ad w) from Prod.ext h3 h2]
    exact List.mem_cons_self
  · refine List.mem_cons_of_mem _ (List.mem_filter.mpr ⟨ab_le_mem.mpr ⟨w, h3, h2⟩, ?_⟩)
    rw [h2, ab_cv_cat]
    simp only [Bool.and_eq_true, Bool.not_eq_true', beq_eq_false_iff_ne, Bool.and_eq_false_iff]
    refine ⟨h4, fun z => h5 ⟨hc, z⟩, ?_⟩
    rcases Nat.decEq (q.1 + 1) i with h | h
    · exact Or.inl h
    · exact Or.inr (fun z => h6 ⟨h, z⟩)
