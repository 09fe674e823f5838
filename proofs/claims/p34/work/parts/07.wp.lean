/-! WHAT RUNS: rules over the abstract machine -/
def ab_leC (f g : Nat → List Value → ab_H → Option (Option Value × ab_H)) : Prop := ∀ mi vs h x, f mi vs h = some x → g mi vs h = some x
theorem ab_call_le {f g : Nat → List Value → ab_H → Option (Option Value × ab_H)} (hfg : ab_leC f g) {mi pc : Nat} {vs rest : List Value} {L : ab_L} {h : ab_H} {r : ab_F ⊕ (Option Value × ab_H)} (hs : ab_call f mi vs pc L rest h = some r) : ab_call g mi vs pc L rest h = some r := by
  unfold ab_call at hs ⊢
  split at hs
  · rename_i hc
    rw [if_pos hc]
    cases hf : f mi vs h with
    | none => rw [hf] at hs; cases hs
    | some x =>
      rw [hf] at hs
      rw [hfg _ _ _ _ hf]
      exact hs
  · cases hs
theorem ab_inv_le {f g : Nat → List Value → ab_H → Option (Option Value × ab_H)} (hfg : ab_leC f g) {own i pc : Nat} {virt : Bool} {L : ab_L} {S : List Value} {h : ab_H} {r : ab_F ⊕ (Option Value × ab_H)} (hs : ab_inv f own i virt pc L S h = some r) : ab_inv g own i virt pc L S h = some r := by
  unfold ab_inv at hs ⊢
  cases hm : ab_ml own i with
  | none => rw [hm] at hs; exact hs
  | some x =>
    obtain ⟨mi, kd⟩ := x
    rw [hm] at hs
    simp only at hs ⊢
    cases virt with
    | true =>
      simp only [if_true] at hs ⊢
      by_cases hk : kd = 0
      · simp only [if_pos hk] at hs ⊢
        cases hd : S.drop (ab_np mi) with
        | nil => rw [hd] at hs; exact hs
        | cons b rest =>
          rw [hd] at hs
          cases b <;> first | exact hs | skip
          rename_i b
          simp only at hs ⊢
          by_cases hc : (ab_ref h b (ab_own mi) && decide (ab_own mi < 8) && (S.take (ab_np mi)).all (ab_ok (ab_nx h))) = true
          · rw [if_pos hc] at hs ⊢
            exact ab_call_le hfg hs
          · rw [if_neg hc] at hs
            cases hs
      · simp only [if_neg hk] at hs ⊢
        exact hs
    | false =>
      simp only [Bool.false_eq_true, if_false] at hs ⊢
      by_cases hk : kd = 1 ∨ kd = 2
      · simp only [if_pos hk] at hs ⊢
        by_cases hc : ab_np mi ≤ S.length ∧ (S.take (ab_np mi)).all (ab_ok (ab_nx h)) = true
        · rw [if_pos hc] at hs ⊢
          exact ab_call_le hfg hs
        · rw [if_neg hc] at hs
          cases hs
      · simp only [if_neg hk] at hs ⊢
        exact hs
theorem ab_spc_le {f g : Nat → List Value → ab_H → Option (Option Value × ab_H)} (hfg : ab_leC f g) {own i pc : Nat} {L : ab_L} {S : List Value} {h : ab_H} {r : ab_F ⊕ (Option Value × ab_H)} (hs : ab_spc f own i pc L S h = some r) : ab_spc g own i pc L S h = some r := by
  unfold ab_spc at hs ⊢
  cases hm : ab_ml own i with
  | none => rw [hm] at hs; exact hs
  | some x =>
    obtain ⟨mi, kd⟩ := x
    rw [hm] at hs
    simp only at hs ⊢
    by_cases hk5 : kd = 5
    · simp only [if_pos hk5] at hs ⊢
      exact hs
    · simp only [if_neg hk5] at hs ⊢
      by_cases hk : kd = 3 ∨ kd = 4
      · simp only [if_pos hk] at hs ⊢
        cases S with
        | nil => exact hs
        | cons b rest =>
          cases b <;> first | exact hs | skip
          rename_i b
          simp only at hs ⊢
          by_cases hc : ab_np mi = 0 ∧ ab_ref h b (ab_own mi) = true ∧ ab_own mi < 8
          · rw [if_pos hc] at hs ⊢
            exact ab_call_le hfg hs
          · rw [if_neg hc] at hs
            cases hs
      · simp only [if_neg hk] at hs
        cases hs
theorem ab_step_le {f g : Nat → List Value → ab_H → Option (Option Value × ab_H)} (hfg : ab_leC f g) {own len pc : Nat} {ini : Bool} {ret : Option FieldType} {scr : Option (List Int32)} {ins : Instr} {L : ab_L} {S : List Value} {h : ab_H} {r : ab_F ⊕ (Option Value × ab_H)} (hs : ab_step f own ini ret scr ins len pc L S h = some r) : ab_step g own ini ret scr ins len pc L S h = some r := by
  cases ins with
  | invokevirtual i => exact ab_inv_le hfg hs
  | invokestatic i => exact ab_inv_le hfg hs
  | invokespecial i => exact ab_spc_le hfg hs
  | _ => exact hs
theorem ab_loop_le {f g : Nat → List Value → ab_H → Option (Option Value × ab_H)} (hfg : ab_leC f g) {code : Nat → Option (Instr × Nat)} {own : Nat} {ini : Bool} {ret : Option FieldType} {scr : Option (List Int32)} {x : Option Value × ab_H} : ∀ (n k : Nat) (F : ab_F), n ≤ k → ab_loop f code own ini ret scr n F = some x → ab_loop g code own ini ret scr k F = some x := by
  intro n
  induction n with
  | zero => intro k F _ h; cases h
  | succ n ih =>
    intro k F hk h
    obtain ⟨pc, L, S, hp⟩ := F
    obtain ⟨j, rfl⟩ : ∃ j, k = j + 1 := ⟨k - 1, by omega⟩
    unfold ab_loop at h ⊢
    cases hc : code pc with
    | none => rw [hc] at h; cases h
    | some q =>
      obtain ⟨ins, len⟩ := q
      rw [hc] at h
      simp only at h ⊢
      cases hst : ab_step f own ini ret scr ins len pc L S hp with
      | none => rw [hst] at h; cases h
      | some r =>
        rw [hst] at h
        rw [ab_step_le hfg hst]
        cases r with
        | inl st => exact ih j st (by omega) h
        | inr r => exact h
theorem ab_ex_le {sc : Option (List Int32)} : ∀ (n k : Nat), n ≤ k → ab_leC (ab_ex sc n) (ab_ex sc k) := by
  intro n
  induction n with
  | zero => intro k _ mi vs h x hx; cases hx
  | succ n ih =>
    intro k hk mi vs h x hx
    obtain ⟨j, rfl⟩ : ∃ j, k = j + 1 := ⟨k - 1, by omega⟩
    unfold ab_ex at hx ⊢
    split at hx
    · rename_i hc
      rw [if_pos hc]
      exact ab_loop_le (ih j (by omega)) n j _ (by omega) hx
    · cases hx
/-- a method, called so, comes to an end with Q -/
def Ex (mi : Nat) (vs : List Value) (h : ab_H) (Q : Option Value → ab_H → Prop) : Prop := ∃ (n : Nat) (r : Option Value) (h' : ab_H), ab_ex none n mi vs h = some (r, h') ∧ Q r h'
/-- from here a method comes to an end with Q -/
def Rn (mi : Nat) (F : ab_F) (Q : Option Value → ab_H → Prop) : Prop := ∃ (n : Nat) (r : Option Value) (h' : ab_H), ab_loop (ab_ex none n) (ab_at mi) (ab_own mi) (ab_ini mi) (ab_rt mi) none n F = some (r, h') ∧ Q r h'
/-- .. the next instruction being this one -/
def Go (x : Option (Instr × Nat)) (mi pc : Nat) (L : ab_L) (S : List Value) (h : ab_H) (Q : Option Value → ab_H → Prop) : Prop := match x with
  | some (ins, len) => ∃ n : Nat, match ab_step (ab_ex none n) (ab_own mi) (ab_ini mi) (ab_rt mi) none ins len pc L S h with
    | some (.inl F) => ∃ (r : Option Value) (h' : ab_H), ab_loop (ab_ex none n) (ab_at mi) (ab_own mi) (ab_ini mi) (ab_rt mi) none n F = some (r, h') ∧ Q r h'
    | some (.inr r) => Q r.1 r.2
    | none => False
  | none => False
theorem Rn_Go {mi pc : Nat} {L : ab_L} {S : List Value} {h : ab_H} {Q : Option Value → ab_H → Prop} : Rn mi (pc, L, S, h) Q ↔ Go (ab_at mi pc) mi pc L S h Q := by
  unfold Rn Go
  cases hc : ab_at mi pc with
  | none =>
    constructor
    · rintro ⟨n, r, h', h1, -⟩
      cases n with
      | zero => cases h1
      | succ n => unfold ab_loop at h1; rw [hc] at h1; cases h1
    · intro z; exact z.elim
  | some q =>
    obtain ⟨ins, len⟩ := q
    simp only
    constructor
    · rintro ⟨n, r, h', h1, hq⟩
      cases n with
      | zero => cases h1
      | succ n =>
        unfold ab_loop at h1
        rw [hc] at h1
        simp only at h1
        refine ⟨n + 1, ?_⟩
        cases hst : ab_step (ab_ex none (n + 1)) (ab_own mi) (ab_ini mi) (ab_rt mi) none ins len pc L S h with
        | none => rw [hst] at h1; cases h1
        | some x =>
          rw [hst] at h1
          cases x with
          | inl F =>
            simp only at h1 ⊢
            exact ⟨r, h', ab_loop_le (fun _ _ _ _ z => z) n (n + 1) F (by omega) h1, hq⟩
          | inr x =>
            simp only at h1 ⊢
            cases h1
            exact hq
    · rintro ⟨n, hn⟩
      cases hst : ab_step (ab_ex none n) (ab_own mi) (ab_ini mi) (ab_rt mi) none ins len pc L S h with
      | none => rw [hst] at hn; exact hn.elim
      | some x =>
        rw [hst] at hn
        have hst2 := ab_step_le (ab_ex_le n (n + 1) (by omega)) hst
        cases x with
        | inl F =>
          simp only at hn
          obtain ⟨r, h', h1, hq⟩ := hn
          refine ⟨n + 1, r, h', ?_, hq⟩
          unfold ab_loop
          rw [hc]
          simp only
          rw [hst2]
          exact ab_loop_le (ab_ex_le n (n + 1) (by omega)) n n F (Nat.le_refl _) h1
        | inr x =>
          simp only at hn
          refine ⟨n + 1, x.1, x.2, ?_, hn⟩
          unfold ab_loop
          rw [hc]
          simp only
          rw [hst2]
theorem Ex_Go {mi : Nat} {vs : List Value} {h : ab_H} {Q : Option Value → ab_H → Prop} (hm : mi < ab_M.length ∧ (ab_ent vs).length ≤ ab_mxl mi) : Ex mi vs h Q ↔ Go (ab_at mi 0) mi 0 (ab_entry (ab_mxl mi) vs) [] h Q := by
  rw [← Rn_Go]
  unfold Ex Rn
  constructor
  · rintro ⟨n, r, h', h1, hq⟩
    cases n with
    | zero => cases h1
    | succ n =>
      unfold ab_ex at h1
      rw [if_pos hm] at h1
      exact ⟨n, r, h', h1, hq⟩
  · rintro ⟨n, r, h', h1, hq⟩
    refine ⟨n + 1, r, h', ?_, hq⟩
    unfold ab_ex
    rw [if_pos hm]
    exact h1
theorem Go_next {mi pc pc' len : Nat} {ins : Instr} {L L' : ab_L} {S S' : List Value} {h h' : ab_H} {Q : Option Value → ab_H → Prop} (hst : ∀ call, ab_step call (ab_own mi) (ab_ini mi) (ab_rt mi) none ins len pc L S h = some (.inl (pc', L', S', h'))) : Go (some (ins, len)) mi pc L S h Q = Go (ab_at mi pc') mi pc' L' S' h' Q := by
  apply propext
  rw [← Rn_Go]
  unfold Go Rn
  simp only [hst]
theorem Go_stuck {mi pc len : Nat} {ins : Instr} {L : ab_L} {S : List Value} {h : ab_H} {Q : Option Value → ab_H → Prop} (hst : ∀ call, ab_step call (ab_own mi) (ab_ini mi) (ab_rt mi) none ins len pc L S h = none) : Go (some (ins, len)) mi pc L S h Q = False := by
  apply propext
  unfold Go
  simp only [hst]
  constructor
  · rintro ⟨n, hn⟩; exact hn
  · intro z; exact z.elim
theorem Go_end {mi pc len : Nat} {ins : Instr} {L : ab_L} {S : List Value} {h : ab_H} {r : Option Value × ab_H} {Q : Option Value → ab_H → Prop} (hst : ∀ call, ab_step call (ab_own mi) (ab_ini mi) (ab_rt mi) none ins len pc L S h = some (.inr r)) : Go (some (ins, len)) mi pc L S h Q = Q r.1 r.2 := by
  apply propext
  unfold Go
  simp only [hst]
  constructor
  · rintro ⟨n, hn⟩; exact hn
  · intro z; exact ⟨0, z⟩
