/-! A METHOD THAT MAKES NOTHING RUNS THE SAME BESIDE MORE OBJECTS, and with a script at hand -/
abbrev ab_Sh : Type := List (Nat × Nat × List (Option Nat))
def ab_xt (E : ab_Sh) (h : ab_H) : ab_H := (h.1 ++ E, h.2.1, h.2.2)
section EXT
variable {E : ab_Sh} {h h' : ab_H} {sc : Option (List Int32)} {call call' : Nat → List Value → ab_H → Option (Option Value × ab_H)} {o k : Nat}
theorem xt_get (ho : o < h.1.length) : (ab_xt E h).1[o]? = h.1[o]? := List.getElem?_append_left ho
theorem xt_nx : ab_nx (ab_xt E h) = ab_nx h + E.length := List.length_append
theorem xt_sl : ab_sl (ab_xt E h) = ab_sl h + (E.map (fun x => x.2.1)).sum := by
  show ((h.1 ++ E).map (fun x => x.2.1)).sum = _
  rw [List.map_append, List.sum_append]
  rfl
theorem xt_r {kd : Nat} (hr : ab_ref h o kd = true) : o < h.1.length := (ab_refs hr).1
theorem xt_kd (ho : o < h.1.length) : ab_kd (ab_xt E h) o = ab_kd h o := by unfold ab_kd; rw [xt_get ho]
theorem xt_ln (ho : o < h.1.length) : ab_ln (ab_xt E h) o = ab_ln h o := by unfold ab_ln; rw [xt_get ho]
theorem xt_rf (ho : o < h.1.length) : ab_rf (ab_xt E h) o k = ab_rf h o k := by unfold ab_rf; rw [xt_get ho]
theorem xt_rl (ho : o < h.1.length) : ab_rl (ab_xt E h) o = ab_rl h o := by unfold ab_rl; rw [xt_get ho]
theorem xt_ref {kd : Nat} (hr : ab_ref h o kd = true) : ab_ref (ab_xt E h) o kd = true := by
  have ho := xt_r hr
  unfold ab_ref at hr ⊢
  rw [Bool.and_eq_true, decide_eq_true_eq, decide_eq_true_eq] at hr ⊢
  rw [xt_kd ho, xt_nx]
  exact ⟨by omega, hr.2⟩
theorem xt_ok1 {v : Value} (hv : ab_ok (ab_nx h) v = true) : ab_ok (ab_nx (ab_xt E h)) v = true := by
  cases v with
  | ref r =>
    unfold ab_ok at hv ⊢
    rw [Bool.or_eq_true, decide_eq_true_eq, decide_eq_true_eq] at hv ⊢
    rw [xt_nx]
    exact hv.imp (fun z => Nat.lt_of_lt_of_le z (Nat.le_add_right _ _)) id
  | _ => rfl
theorem xt_okS {S : List Value} (hv : S.all (ab_ok (ab_nx h)) = true) : S.all (ab_ok (ab_nx (ab_xt E h))) = true :=
  List.all_eq_true.mpr fun v hm => xt_ok1 (List.all_eq_true.mp hv v hm)
theorem xt_okL {L : ab_L} (hv : L.all (fun v => (v.map (ab_ok (ab_nx h))).getD true) = true) : L.all (fun v => (v.map (ab_ok (ab_nx (ab_xt E h)))).getD true) = true := by
  refine List.all_eq_true.mpr fun v hm => ?_
  have := List.all_eq_true.mp hv v hm
  cases v with
  | none => rfl
  | some v => exact xt_ok1 this
theorem xt_lt {v : Value} (hv : ab_lt (ab_nx h) v = true) : ab_lt (ab_nx (ab_xt E h)) v = true := by
  cases v with
  | ref r =>
    unfold ab_lt at hv ⊢
    rw [decide_eq_true_eq] at hv ⊢
    rw [xt_nx]
    exact Nat.lt_of_lt_of_le hv (Nat.le_add_right _ _)
  | _ => rfl
theorem xt_rlok {v : Value} (ho : o < h.1.length) (hv : ab_rlok h o k v = true) : ab_rlok (ab_xt E h) o k v = true := by
  cases v with
  | ref r =>
    unfold ab_rlok at hv ⊢
    rw [xt_rl ho]
    exact hv
  | _ => rfl
theorem xt_setr {r : Nat} (ho : o < h.1.length) : ab_setr (ab_xt E h) o k r = ab_xt E (ab_setr h o k r) := by
  unfold ab_setr
  rw [xt_get ho]
  cases hx : h.1[o]? with
  | none => rfl
  | some x =>
    simp only [ab_xt]
    rw [List.set_append_left _ _ ho]
theorem xt_setv {v : Value} (ho : o < h.1.length) : ab_setv (ab_xt E h) o k v = ab_xt E (ab_setv h o k v) := by
  cases v <;> first | rfl | exact xt_setr ho
theorem xt_gv {ty : FieldType} (ho : o < h.1.length) : ab_gv (ab_xt E h) o k ty = ab_gv h o k ty := by
  cases ty <;> first | rfl | exact congrArg va_rf (xt_rf ho)
def ab_xC (E : ab_Sh) (call call' : Nat → List Value → ab_H → Option (Option Value × ab_H)) : Prop := ∀ mi vs h r h', call mi vs h = some (r, h') → h'.1.length = h.1.length → call' mi vs (ab_xt E h) = some (r, ab_xt E h')
theorem xt_call (hC : ab_xC E call call') {mi pc pc' : Nat} {vs rest S' : List Value} {L L' : ab_L} (hs : ab_call call mi vs pc L rest h = some (.inl (pc', L', S', h'))) (hl : h'.1.length = h.1.length) : ab_call call' mi vs pc L rest (ab_xt E h) = some (.inl (pc', L', S', ab_xt E h')) := by
  unfold ab_call at hs ⊢
  split at hs
  · rename_i hc
    rw [if_pos hc]
    cases hcl : call mi vs h with
    | none => rw [hcl] at hs; cases hs
    | some x =>
      obtain ⟨rv, h2⟩ := x
      rw [hcl] at hs
      simp only at hs
      split at hs
      · rename_i hcc
        cases hs
        rw [hC _ _ _ _ _ hcl hl]
        simp only
        refine if_pos ?_
        rw [xt_nx, xt_nx, xt_sl, xt_sl]
        rcases hcc with z | ⟨z1, z2, z3⟩
        · exact Or.inl ⟨by omega, by omega⟩
        · rw [Bool.and_eq_true] at z3
          refine Or.inr ⟨by omega, by omega, ?_⟩
          rw [Bool.and_eq_true, ← xt_nx]
          exact ⟨xt_okL z3.1, xt_okS z3.2⟩
      · cases hs
  · cases hs
theorem xt_inv (hC : ab_xC E call call') {own i pc pc' : Nat} {virt : Bool} {S S' : List Value} {L L' : ab_L} (hs : ab_inv call own i virt pc L S h = some (.inl (pc', L', S', h'))) (hl : h'.1.length = h.1.length) : ab_inv call' own i virt pc L S (ab_xt E h) = some (.inl (pc', L', S', ab_xt E h')) := by
  unfold ab_inv at hs ⊢
  cases hm : ab_ml own i with
  | none => rw [hm] at hs; cases hs
  | some x =>
    obtain ⟨mi, kd⟩ := x
    rw [hm] at hs
    simp only at hs ⊢
    cases virt with
    | true =>
      simp only [if_true] at hs ⊢
      by_cases hk : kd = 0
      · simp only [if_pos hk] at hs ⊢
        cases hd : S.drop (ab_np mi) with
        | nil => rw [hd] at hs; cases hs
        | cons b rest =>
          rw [hd] at hs
          cases b <;> first | (cases hs; done) | skip
          rename_i b
          simp only at hs ⊢
          split at hs
          · rename_i hc
            rw [Bool.and_eq_true, Bool.and_eq_true] at hc
            rw [if_pos (by rw [xt_ref hc.1.1, hc.1.2, xt_okS hc.2]; rfl)]
            exact xt_call hC hs hl
          · cases hs
      · simp only [if_neg hk] at hs ⊢
        by_cases hk8 : kd = 8
        · simp only [if_pos hk8] at hs ⊢
          split at hs
          · split at hs
            · rename_i hc
              cases hs
              exact if_pos hc
            · cases hs
          · cases hs
        · simp only [if_neg hk8] at hs ⊢
          by_cases hk9 : kd = 9
          · simp only [if_pos hk9] at hs ⊢
            split at hs
            · split at hs
              · rename_i hc
                cases hs
                exact if_pos hc
              · cases hs
            · cases hs
          · simp only [if_neg hk9] at hs
            cases hs
    | false =>
      simp only [Bool.false_eq_true, if_false] at hs ⊢
      by_cases hk : kd = 1 ∨ kd = 2
      · simp only [if_pos hk] at hs ⊢
        split at hs
        · rename_i hc
          rw [if_pos ⟨hc.1, xt_okS hc.2⟩]
          exact xt_call hC hs hl
        · cases hs
      · simp only [if_neg hk] at hs ⊢
        by_cases hk6 : kd = 6
        · simp only [if_pos hk6] at hs ⊢
          split at hs
          · split at hs
            · rename_i hc
              cases hs
              simp only [Bool.and_eq_true, decide_eq_true_eq] at hc
              obtain ⟨⟨⟨⟨⟨⟨⟨c1, c2⟩, c3⟩, c4⟩, c5⟩, c6⟩, c7⟩, c8⟩ := hc
              refine if_pos ?_
              simp only [Bool.and_eq_true, decide_eq_true_eq]
              rw [xt_ln (xt_r c1), xt_ln (xt_r c2)]
              exact ⟨⟨⟨⟨⟨⟨⟨xt_ref c1, xt_ref c2⟩, c3⟩, c4⟩, c5⟩, c6⟩, c7⟩, c8⟩
            · cases hs
          · cases hs
        · simp only [if_neg hk6] at hs ⊢
          by_cases hk7 : kd = 7
          · simp only [if_pos hk7] at hs ⊢
            split at hs
            · split at hs
              · rename_i hc
                cases hs
                exact if_pos hc
              · cases hs
            · cases hs
          · simp only [if_neg hk7] at hs
            cases hs
theorem xt_spc (hC : ab_xC E call call') {own i pc pc' : Nat} {S S' : List Value} {L L' : ab_L} (hs : ab_spc call own i pc L S h = some (.inl (pc', L', S', h'))) (hl : h'.1.length = h.1.length) : ab_spc call' own i pc L S (ab_xt E h) = some (.inl (pc', L', S', ab_xt E h')) := by
  unfold ab_spc at hs ⊢
  cases hm : ab_ml own i with
  | none => rw [hm] at hs; cases hs
  | some x =>
    obtain ⟨mi, kd⟩ := x
    rw [hm] at hs
    simp only at hs ⊢
    by_cases hk5 : kd = 5
    · simp only [if_pos hk5] at hs ⊢
      split at hs
      · split at hs
        · rename_i hc
          cases hs
          exact if_pos hc
        · cases hs
      · cases hs
    · simp only [if_neg hk5] at hs ⊢
      by_cases hk : kd = 3 ∨ kd = 4
      · simp only [if_pos hk] at hs ⊢
        split at hs
        · split at hs
          · rename_i hc
            rw [if_pos ⟨hc.1, xt_ref hc.2.1, hc.2.2⟩]
            exact xt_call hC hs hl
          · cases hs
        · cases hs
      · simp only [if_neg hk] at hs
        cases hs
theorem xt_go {pc pc' : Nat} {off : Int} {S S' : List Value} {L L' : ab_L} (hs : ab_go pc off L S h = some (.inl (pc', L', S', h'))) : ab_go pc off L S (ab_xt E h) = some (.inl (pc', L', S', ab_xt E h')) := by
  unfold ab_go at hs ⊢
  split at hs
  · rename_i hc
    cases hs
    exact if_pos hc
  · cases hs
set_option maxHeartbeats 4000000 in
theorem xt_step (hC : ab_xC E call call') {own len pc pc' : Nat} {ini : Bool} {ret : Option FieldType} {ins : Instr} {L L' : ab_L} {S S' : List Value} (hs : ab_step call own ini ret none ins len pc L S h = some (.inl (pc', L', S', h'))) (hl : h'.1.length = h.1.length) : ab_step call' own ini ret sc ins len pc L S (ab_xt E h) = some (.inl (pc', L', S', ab_xt E h')) := by
  unfold ab_step at hs ⊢
  cases ins with
  | iconst n =>
    dsimp only at hs ⊢
    cases hs
    rfl
  | bipush n =>
    dsimp only at hs ⊢
    cases hs
    rfl
  | sipush n =>
    dsimp only at hs ⊢
    cases hs
    rfl
  | lconst n =>
    dsimp only at hs ⊢
    cases hs
    rfl
  | iload_n j =>
    dsimp only at hs ⊢
    split at hs
    · rename_i x hv
      cases hs
      simp only [hv]
    · cases hs
  | iload j =>
    dsimp only at hs ⊢
    split at hs
    · rename_i x hv
      cases hs
      simp only [hv]
    · cases hs
  | lload_n j =>
    dsimp only at hs ⊢
    split at hs
    · rename_i x hv
      cases hs
      simp only [hv]
    · cases hs
  | lload j =>
    dsimp only at hs ⊢
    split at hs
    · rename_i x hv
      cases hs
      simp only [hv]
    · cases hs
  | aload_n j =>
    dsimp only at hs ⊢
    split at hs
    · rename_i x hv
      cases hs
      simp only [hv]
    · cases hs
  | aload j =>
    dsimp only at hs ⊢
    split at hs
    · rename_i x hv
      cases hs
      simp only [hv]
    · cases hs
  | ldc i =>
    dsimp only at hs ⊢
    split at hs
    · rename_i v hv
      cases hs
      simp only [hv]
    · split at hs
      · rename_i k hk
        cases hs
        simp only [hk]
      · cases hs
  | ldc_w i =>
    dsimp only at hs ⊢
    split at hs
    · rename_i v hv
      cases hs
      simp only [hv]
    · cases hs
  | ldc2_w i =>
    dsimp only at hs ⊢
    split at hs
    · rename_i v hv
      cases hs
      simp only [hv]
    · cases hs
  | iadd =>
    dsimp only at hs ⊢
    split at hs
    · cases hs
      rfl
    · cases hs
  | isub =>
    dsimp only at hs ⊢
    split at hs
    · cases hs
      rfl
    · cases hs
  | imul =>
    dsimp only at hs ⊢
    split at hs
    · cases hs
      rfl
    · cases hs
  | iand =>
    dsimp only at hs ⊢
    split at hs
    · cases hs
      rfl
    · cases hs
  | ior =>
    dsimp only at hs ⊢
    split at hs
    · cases hs
      rfl
    · cases hs
  | ixor =>
    dsimp only at hs ⊢
    split at hs
    · cases hs
      rfl
    · cases hs
  | ishl =>
    dsimp only at hs ⊢
    split at hs
    · cases hs
      rfl
    · cases hs
  | ishr =>
    dsimp only at hs ⊢
    split at hs
    · cases hs
      rfl
    · cases hs
  | iushr =>
    dsimp only at hs ⊢
    split at hs
    · cases hs
      rfl
    · cases hs
  | ladd =>
    dsimp only at hs ⊢
    split at hs
    · cases hs
      rfl
    · cases hs
  | lsub =>
    dsimp only at hs ⊢
    split at hs
    · cases hs
      rfl
    · cases hs
  | lmul =>
    dsimp only at hs ⊢
    split at hs
    · cases hs
      rfl
    · cases hs
  | lneg =>
    dsimp only at hs ⊢
    split at hs
    · cases hs
      rfl
    · cases hs
  | lshr =>
    dsimp only at hs ⊢
    split at hs
    · cases hs
      rfl
    · cases hs
  | lcmp =>
    dsimp only at hs ⊢
    split at hs
    · cases hs
      rfl
    · cases hs
  | i2l =>
    dsimp only at hs ⊢
    split at hs
    · cases hs
      rfl
    · cases hs
  | l2i =>
    dsimp only at hs ⊢
    split at hs
    · cases hs
      rfl
    · cases hs
  | i2b =>
    dsimp only at hs ⊢
    split at hs
    · cases hs
      rfl
    · cases hs
  | i2s =>
    dsimp only at hs ⊢
    split at hs
    · cases hs
      rfl
    · cases hs
  | istore_n j =>
    dsimp only at hs ⊢
    split at hs
    · split at hs
      · rename_i hc
        cases hs
        exact if_pos hc
      · cases hs
    · cases hs
  | istore j =>
    dsimp only at hs ⊢
    split at hs
    · split at hs
      · rename_i hc
        cases hs
        exact if_pos hc
      · cases hs
    · cases hs
  | lstore_n j =>
    dsimp only at hs ⊢
    split at hs
    · split at hs
      · rename_i hc
        cases hs
        exact if_pos hc
      · cases hs
    · cases hs
  | lstore j =>
    dsimp only at hs ⊢
    split at hs
    · split at hs
      · rename_i hc
        cases hs
        exact if_pos hc
      · cases hs
    · cases hs
  | astore_n j =>
    dsimp only at hs ⊢
    split at hs
    · split at hs
      · rename_i hc
        cases hs
        exact if_pos hc
      · cases hs
    · cases hs
  | astore j =>
    dsimp only at hs ⊢
    split at hs
    · split at hs
      · rename_i hc
        cases hs
        exact if_pos hc
      · cases hs
    · cases hs
  | dup =>
    dsimp only at hs ⊢
    split at hs
    · split at hs
      · rename_i hc
        cases hs
        exact if_pos hc
      · cases hs
    · cases hs
  | dup2 =>
    dsimp only at hs ⊢
    split at hs
    · split at hs
      · rename_i hc
        cases hs
        exact if_pos hc
      · cases hs
    · cases hs
  | pop =>
    dsimp only at hs ⊢
    split at hs
    · split at hs
      · rename_i hc
        cases hs
        exact if_pos hc
      · cases hs
    · cases hs
  | pop2 =>
    dsimp only at hs ⊢
    split at hs
    · split at hs
      · rename_i hc
        cases hs
        exact if_pos hc
      · cases hs
    · cases hs
  | if_icmp c off =>
    dsimp only at hs ⊢
    split at hs
    · split at hs
      · rename_i hc
        cases hs
        exact if_pos hc
      · cases hs
    · cases hs
  | ifCond c off =>
    dsimp only at hs ⊢
    split at hs
    · split at hs
      · rename_i hc
        cases hs
        exact if_pos hc
      · cases hs
    · cases hs
  | irem =>
    dsimp only at hs ⊢
    split at hs
    · split at hs
      · cases hs
      · rename_i hc
        cases hs
        exact if_neg hc
    · cases hs
  | idiv =>
    dsimp only at hs ⊢
    split at hs
    · split at hs
      · cases hs
      · rename_i hc
        cases hs
        exact if_neg hc
    · cases hs
  | ldiv =>
    dsimp only at hs ⊢
    split at hs
    · split at hs
      · cases hs
      · rename_i hc
        cases hs
        exact if_neg hc
    · cases hs
  | iinc j n =>
    dsimp only at hs ⊢
    split at hs
    · rename_i x hv
      split at hs
      · rename_i hc
        cases hs
        exact if_pos hc
      · cases hs
    · cases hs
  | goto off =>
    dsimp only at hs ⊢
    exact xt_go hs
  | tableswitch dflt lo hi offs =>
    dsimp only at hs ⊢
    split at hs
    · split at hs
      · rename_i hc
        rw [if_pos hc]
        exact xt_go hs
      · rename_i hc
        rw [if_neg hc]
        split at hs
        · exact xt_go hs
        · cases hs
    · cases hs
  | lookupswitch dflt ps =>
    dsimp only at hs ⊢
    split at hs
    · split at hs
      · rename_i hc
        rw [if_pos hc]
        exact xt_go hs
      · cases hs
    · cases hs
  | getfield i =>
    dsimp only at hs ⊢
    split at hs
    · rename_i ci k o S2 hf
      split at hs
      · rename_i hc
        cases hs
        simp only [Bool.and_eq_true, decide_eq_true_eq] at hc
        rw [if_pos (by simp only [Bool.and_eq_true, decide_eq_true_eq]; exact ⟨⟨xt_ref hc.1.1, hc.1.2⟩, hc.2⟩), xt_gv (xt_r hc.1.1)]
      · cases hs
    · cases hs
  | putfield i =>
    dsimp only at hs ⊢
    split at hs
    · rename_i ci k v o S2 hf
      split at hs
      · rename_i hc
        cases hs
        simp only [Bool.and_eq_true, Bool.or_eq_true, Bool.not_eq_true', decide_eq_true_eq] at hc
        obtain ⟨⟨⟨⟨⟨⟨c1, c2⟩, c3⟩, c4⟩, c5⟩, c6⟩, c7⟩ := hc
        rw [if_pos (by simp only [Bool.and_eq_true, Bool.or_eq_true, Bool.not_eq_true', decide_eq_true_eq]; exact ⟨⟨⟨⟨⟨⟨xt_ref c1, c2⟩, c3⟩, c4⟩, xt_rlok (xt_r c1) c5⟩, xt_lt c6⟩, c7⟩), xt_setv (xt_r c1)]
      · cases hs
    · cases hs
  | iaload =>
    dsimp only at hs ⊢
    split at hs
    · rename_i i o S2
      split at hs
      · cases hs
      · rename_i ho
        rw [if_neg ho]
        split at hs
        · rename_i hc
          cases hs
          rw [Bool.and_eq_true] at hc
          refine if_pos ?_
          rw [xt_ref hc.1, xt_ln (xt_r hc.1), hc.2]
          rfl
        · cases hs
    · cases hs
  | laload =>
    dsimp only at hs ⊢
    split at hs
    · split at hs
      · rename_i hc
        cases hs
        rw [Bool.and_eq_true] at hc
        refine if_pos ?_
        rw [xt_ref hc.1, xt_ln (xt_r hc.1), hc.2]
        rfl
      · cases hs
    · cases hs
  | baload =>
    dsimp only at hs ⊢
    split at hs
    · split at hs
      · rename_i hc
        cases hs
        rw [Bool.and_eq_true, Bool.or_eq_true] at hc
        refine if_pos ?_
        rw [Bool.and_eq_true, Bool.or_eq_true]
        rcases hc.1 with z | z
        · exact ⟨Or.inl (xt_ref z), by rw [xt_ln (xt_r z)]; exact hc.2⟩
        · exact ⟨Or.inr (xt_ref z), by rw [xt_ln (xt_r z)]; exact hc.2⟩
      · cases hs
    · cases hs
  | aaload =>
    dsimp only at hs ⊢
    split at hs
    · split at hs
      · rename_i hc
        cases hs
        rw [Bool.and_eq_true, Bool.or_eq_true] at hc
        have hlt := hc.1.elim xt_r xt_r
        rw [if_pos (by
          rw [Bool.and_eq_true, Bool.or_eq_true, xt_ln hlt]
          exact ⟨hc.1.imp xt_ref xt_ref, hc.2⟩), xt_rf hlt]
      · cases hs
    · cases hs
  | iastore =>
    dsimp only at hs ⊢
    split at hs
    · split at hs
      · rename_i hc
        cases hs
        rw [Bool.and_eq_true] at hc
        refine if_pos ?_
        rw [xt_ref hc.1, xt_ln (xt_r hc.1), hc.2]
        rfl
      · cases hs
    · cases hs
  | lastore =>
    dsimp only at hs ⊢
    split at hs
    · split at hs
      · rename_i hc
        cases hs
        rw [Bool.and_eq_true] at hc
        refine if_pos ?_
        rw [xt_ref hc.1, xt_ln (xt_r hc.1), hc.2]
        rfl
      · cases hs
    · cases hs
  | bastore =>
    dsimp only at hs ⊢
    split at hs
    · split at hs
      · rename_i hc
        cases hs
        rw [Bool.and_eq_true, Bool.or_eq_true] at hc
        have hlt := hc.1.elim xt_r xt_r
        rw [if_pos (by
          rw [Bool.and_eq_true, Bool.or_eq_true, xt_ln hlt]
          exact ⟨hc.1.imp xt_ref xt_ref, hc.2⟩), xt_kd hlt]
        rfl
      · cases hs
    · cases hs
  | aastore =>
    dsimp only at hs ⊢
    split at hs
    · split at hs
      · rename_i hc
        cases hs
        simp only [Bool.and_eq_true, decide_eq_true_eq] at hc
        rw [if_pos (by simp only [Bool.and_eq_true, decide_eq_true_eq]; rw [xt_ln (xt_r hc.1.1.1), xt_rl (xt_r hc.1.1.1)]; exact ⟨⟨⟨xt_ref hc.1.1.1, xt_ref hc.1.1.2⟩, hc.1.2⟩, hc.2⟩), xt_setr (xt_r hc.1.1.1)]
      · cases hs
    · cases hs
  | arraylength =>
    dsimp only at hs ⊢
    split at hs
    · split at hs
      · cases hs
      · cases hs
    · cases hs
  | new i =>
    dsimp only at hs ⊢
    split at hs
    · split at hs
      · cases hs
        exfalso
        have e : (h.1 ++ _).length = h.1.length := hl
        rw [List.length_append] at e
        simp at e
      · cases hs
    · cases hs
  | newarray ty =>
    dsimp only at hs ⊢
    split at hs
    · unfold ab_newarr at hs
      split at hs
      · split at hs
        all_goals first | (cases hs; exfalso; have e : (h.1 ++ _).length = h.1.length := hl; rw [List.length_append] at e; simp at e; done) | cases hs
      · cases hs
    · cases hs
  | anewarray i =>
    dsimp only at hs ⊢
    split at hs
    · split at hs
      · cases hs
        exfalso
        have e : (h.1 ++ _).length = h.1.length := hl
        rw [List.length_append] at e
        simp at e
      · cases hs
    · cases hs
  | multianewarray i d =>
    dsimp only at hs ⊢
    split at hs
    · split at hs
      · cases hs
        exfalso
        have e : (h.1 ++ _).length = h.1.length := hl
        rw [List.length_append] at e
        simp at e
      · cases hs
    · cases hs
  | ireturn =>
    dsimp only at hs ⊢
    exfalso
    unfold ab_ret at hs
    repeat' (first | (cases hs; done) | split at hs)
  | lreturn =>
    dsimp only at hs ⊢
    exfalso
    repeat' (first | (cases hs; done) | split at hs)
  | return_ =>
    dsimp only at hs ⊢
    exfalso
    repeat' (first | (cases hs; done) | split at hs)
  | invokevirtual i =>
    dsimp only at hs ⊢
    exact xt_inv hC hs hl
  | invokestatic i =>
    dsimp only at hs ⊢
    exact xt_inv hC hs hl
  | invokespecial i =>
    dsimp only at hs ⊢
    exact xt_spc hC hs hl
  | _ => cases hs
theorem xt_end {own len pc : Nat} {ini : Bool} {ret : Option FieldType} {ins : Instr} {L : ab_L} {S : List Value} {x : Option Value × ab_H} (hs : ab_step call own ini ret none ins len pc L S h = some (.inr x)) : ab_step call' own ini ret sc ins len pc L S (ab_xt E h) = some (.inr (x.1, ab_xt E x.2)) := by
  rcases ab_step_ret hs with ⟨v, ty, rfl, rfl, rfl, hn, rfl⟩ | ⟨v, rfl, rfl, rfl, rfl⟩ | ⟨rfl, rfl, rfl, rfl⟩
  · unfold ab_step ab_ret
    exact if_pos hn
  · unfold ab_step
    exact if_pos rfl
  · unfold ab_step
    exact if_pos rfl
theorem xt_mono {code : Nat → Option (Instr × Nat)} {own : Nat} {ini : Bool} {ret : Option FieldType} {x : Option Value × ab_H} : ∀ (n : Nat) (F : ab_F), ab_loop call code own ini ret sc n F = some x → ab_nx F.2.2.2 ≤ ab_nx x.2 := by
  intro n
  induction n with
  | zero => intro F hF; cases hF
  | succ n ih =>
    intro F hF
    obtain ⟨pc, L, S, h⟩ := F
    unfold ab_loop at hF
    split at hF
    · split at hF
      · rename_i st hst
        exact Nat.le_trans (ab_step_mono hst).1 (ih st hF)
      · rename_i r hst
        cases hF
        rcases ab_step_ret hst with ⟨v, ty, -, -, -, -, rfl⟩ | ⟨v, -, -, -, rfl⟩ | ⟨-, -, -, rfl⟩ <;> exact Nat.le_refl _
      · cases hF
    · cases hF
theorem xt_loop (hC : ab_xC E call call') {code : Nat → Option (Instr × Nat)} {own : Nat} {ini : Bool} {ret : Option FieldType} {x : Option Value × ab_H} : ∀ (n : Nat) (F : ab_F), ab_loop call code own ini ret none n F = some x → x.2.1.length = F.2.2.2.1.length → ab_loop call' code own ini ret sc n (F.1, F.2.1, F.2.2.1, ab_xt E F.2.2.2) = some (x.1, ab_xt E x.2) := by
  intro n
  induction n with
  | zero => intro F hF; cases hF
  | succ n ih =>
    intro F hF hl
    obtain ⟨pc, L, S, h⟩ := F
    unfold ab_loop at hF ⊢
    dsimp only
    split at hF
    · rename_i ins len hpc
      split at hF
      · rename_i st hst
        have m1 : h.1.length ≤ st.2.2.2.1.length := (ab_step_mono hst).1
        have m2 : st.2.2.2.1.length ≤ x.2.1.length := xt_mono n st hF
        have hl : x.2.1.length = h.1.length := hl
        obtain ⟨pc', L', S', h'⟩ := st
        have m1 : h.1.length ≤ h'.1.length := m1
        have m2 : h'.1.length ≤ x.2.1.length := m2
        rw [xt_step hC hst (by omega)]
        exact ih _ hF (by show x.2.1.length = h'.1.length; omega)
      · rename_i r hst
        cases hF
        rw [xt_end hst]
      · cases hF
    · cases hF
theorem xt_ex (E : ab_Sh) (sc : Option (List Int32)) : ∀ n, ab_xC E (ab_ex none n) (ab_ex sc n) := by
  intro n
  induction n with
  | zero => intro mi vs h r h' hx; cases hx
  | succ n ih =>
    intro mi vs h r h' hx hl
    unfold ab_ex at hx ⊢
    split at hx
    · rename_i hc
      rw [if_pos hc]
      exact xt_loop (x := (r, h')) ih n _ hx hl
    · cases hx
/-- a contract of the class, beside more objects -/
theorem Ey_of {xs : List Int32} {mi : Nat} {vs : List Value} {sh : ab_Sh} {I : Nat → Nat → Int32} {J : Nat → Nat → Int64} {Q : Option Value → ab_H → Prop} (z : Ex mi vs (sh, I, J) (fun r h' => ∃ I' J', h' = (sh, I', J') ∧ Q r (sh ++ E, I', J'))) : Ey xs mi vs (sh ++ E, I, J) Q := by
  obtain ⟨n, r, h', h1, I', J', rfl, h2⟩ := z
  exact ⟨n, r, _, xt_ex E (some xs) n mi vs (sh, I, J) r (sh, I', J') h1 rfl, h2⟩
end EXT
