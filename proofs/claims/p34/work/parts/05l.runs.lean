/-! RUNS AND METHODS -/
theorem ab_go_mono {pc : Nat} {off : Int} {L : ab_L} {S : List Value} {h : ab_H} {F : ab_F} (hg : ab_go pc off L S h = some (.inl F)) : ab_nx h ≤ ab_nx F.2.2.2 ∧ ab_sl h ≤ ab_sl F.2.2.2 := by
  obtain ⟨-, rfl⟩ := ab_goto_sim hg
  exact ⟨Nat.le_refl _, Nat.le_refl _⟩
theorem ab_call_mono {call : Nat → List Value → ab_H → Option (Option Value × ab_H)} {mi pc : Nat} {vs rest : List Value} {L : ab_L} {h : ab_H} {F : ab_F} (hs : ab_call call mi vs pc L rest h = some (.inl F)) : ab_nx h ≤ ab_nx F.2.2.2 ∧ ab_sl h ≤ ab_sl F.2.2.2 := by
  unfold ab_call at hs
  split at hs
  · split at hs
    · rename_i rv h' hcl
      split at hs
      · rename_i hc
        cases hs
        rcases hc with z | z
        · exact ⟨Nat.le_of_eq z.1.symm, Nat.le_of_eq z.2.symm⟩
        · exact ⟨z.1, z.2.1⟩
      · cases hs
    · cases hs
  · cases hs
theorem ab_inv_mono {call : Nat → List Value → ab_H → Option (Option Value × ab_H)} {own i pc : Nat} {virt : Bool} {L : ab_L} {S : List Value} {h : ab_H} {F : ab_F} (hs : ab_inv call own i virt pc L S h = some (.inl F)) : ab_nx h ≤ ab_nx F.2.2.2 ∧ ab_sl h ≤ ab_sl F.2.2.2 := by
  unfold ab_inv at hs
  repeat' (first | (cases hs; done) | exact ab_call_mono hs | (cases hs; exact ⟨Nat.le_refl _, Nat.le_refl _⟩) | split at hs)
theorem ab_spc_mono {call : Nat → List Value → ab_H → Option (Option Value × ab_H)} {own i pc : Nat} {L : ab_L} {S : List Value} {h : ab_H} {F : ab_F} (hs : ab_spc call own i pc L S h = some (.inl F)) : ab_nx h ≤ ab_nx F.2.2.2 ∧ ab_sl h ≤ ab_sl F.2.2.2 := by
  unfold ab_spc at hs
  repeat' (first | (cases hs; done) | exact ab_call_mono hs | (cases hs; exact ⟨Nat.le_refl _, Nat.le_refl _⟩) | split at hs)
theorem ab_add_mono {h : ab_H} (ns : List (Nat × Nat × List (Option Nat))) : ab_nx h ≤ ab_nx (ab_add h ns) ∧ ab_sl h ≤ ab_sl (ab_add h ns) := by
  have e : ab_nx (ab_add h ns) = ab_nx h + ns.length := List.length_append
  rw [e, ab_sl_add]
  exact ⟨Nat.le_add_right _ _, Nat.le_add_right _ _⟩
set_option maxHeartbeats 4000000 in
theorem ab_step_mono {call : Nat → List Value → ab_H → Option (Option Value × ab_H)} {own len pc : Nat} {ini : Bool} {ret : Option FieldType} {scr : Option (List Int32)} {ins : Instr} {L : ab_L} {S : List Value} {h : ab_H} {F : ab_F} (hs : ab_step call own ini ret scr ins len pc L S h = some (.inl F)) : ab_nx h ≤ ab_nx F.2.2.2 ∧ ab_sl h ≤ ab_sl F.2.2.2 := by
  unfold ab_step at hs
  split at hs
  all_goals (repeat' (first | (cases hs; done) | exact ab_go_mono hs | exact ab_inv_mono hs | exact ab_spc_mono hs | (cases hs; exact ⟨Nat.le_refl _, Nat.le_refl _⟩) | (cases hs; exact ⟨Nat.le_of_eq (ab_setv_shape _ _ _).1.symm, Nat.le_of_eq (ab_setv_shape _ _ _).2.2.2.symm⟩) | (cases hs; exact ⟨Nat.le_of_eq (ab_setv_shape (h := h) _ _ (.ref _)).1.symm, Nat.le_of_eq (ab_setv_shape (h := h) _ _ (.ref _)).2.2.2.symm⟩) | (cases hs; exact ab_add_mono _) | unfold ab_newarr at hs | unfold ab_ret at hs | split at hs))
theorem ab_ret_same {ret : Option FieldType} {S : List Value} {h : ab_H} {x : Option Value × ab_H} (hs : ab_ret ret S h = some (.inr x)) : ∃ (v : Int32) (ty : FieldType), S = [.int v] ∧ ret = some ty ∧ narrow ty (.int v) = .int v ∧ x = (some (.int v), h) := by
  unfold ab_ret at hs
  split at hs
  · rename_i v
    split at hs
    · rename_i ty
      split at hs
      · rename_i hn
        cases hs
        exact ⟨v, ty, rfl, rfl, hn, rfl⟩
      · cases hs
    · cases hs
  · cases hs
theorem ab_call_ret {call : Nat → List Value → ab_H → Option (Option Value × ab_H)} {mi pc : Nat} {vs rest : List Value} {L : ab_L} {h : ab_H} {x : Option Value × ab_H} (hs : ab_call call mi vs pc L rest h = some (.inr x)) : False := by
  unfold ab_call at hs
  repeat' (first | (cases hs; done) | split at hs)
theorem ab_go_ret {pc : Nat} {off : Int} {L : ab_L} {S : List Value} {h : ab_H} {x : Option Value × ab_H} (hs : ab_go pc off L S h = some (.inr x)) : False := by
  unfold ab_go at hs
  repeat' (first | (cases hs; done) | split at hs)
theorem ab_inv_ret {call : Nat → List Value → ab_H → Option (Option Value × ab_H)} {own i pc : Nat} {virt : Bool} {L : ab_L} {S : List Value} {h : ab_H} {x : Option Value × ab_H} (hs : ab_inv call own i virt pc L S h = some (.inr x)) : False := by
  unfold ab_inv at hs
  repeat' (first | (cases hs; done) | exact ab_call_ret hs | split at hs)
theorem ab_spc_ret {call : Nat → List Value → ab_H → Option (Option Value × ab_H)} {own i pc : Nat} {L : ab_L} {S : List Value} {h : ab_H} {x : Option Value × ab_H} (hs : ab_spc call own i pc L S h = some (.inr x)) : False := by
  unfold ab_spc at hs
  repeat' (first | (cases hs; done) | exact ab_call_ret hs | split at hs)
/-- how a method ends -/
def ab_Ends (ret : Option FieldType) (ins : Instr) (S : List Value) (h : ab_H) (x : Option Value × ab_H) : Prop :=
  (∃ (v : Int32) (ty : FieldType), ins = .ireturn ∧ S = [.int v] ∧ ret = some ty ∧ narrow ty (.int v) = .int v ∧ x = (some (.int v), h)) ∨ (∃ v : Int64, ins = .lreturn ∧ S = [.long v] ∧ ret = some .long ∧ x = (some (.long v), h)) ∨ (ins = .return_ ∧ S = [] ∧ ret = none ∧ x = (none, h))
set_option maxHeartbeats 4000000 in
theorem ab_step_ret {call : Nat → List Value → ab_H → Option (Option Value × ab_H)} {own len pc : Nat} {ini : Bool} {ret : Option FieldType} {scr : Option (List Int32)} {ins : Instr} {L : ab_L} {S : List Value} {h : ab_H} {x : Option Value × ab_H} (hs : ab_step call own ini ret scr ins len pc L S h = some (.inr x)) : ab_Ends ret ins S h x := by
  cases ins with
  | ireturn =>
    have hs : ab_ret ret S h = some (.inr x) := hs
    obtain ⟨v, ty, e1, e2, e3, e4⟩ := ab_ret_same hs
    exact Or.inl ⟨v, ty, rfl, e1, e2, e3, e4⟩
  | lreturn =>
    unfold ab_step at hs
    dsimp only at hs
    split at hs
    · rename_i v
      split at hs
      · rename_i hr
        cases hs
        exact Or.inr (Or.inl ⟨v, rfl, rfl, hr, rfl⟩)
      · cases hs
    · cases hs
  | return_ =>
    unfold ab_step at hs
    dsimp only at hs
    split at hs
    · split at hs
      · rename_i hr
        cases hs
        exact Or.inr (Or.inr ⟨rfl, rfl, hr, rfl⟩)
      · cases hs
    · cases hs
  | _ =>
    exfalso
    unfold ab_step at hs
    dsimp only at hs
    repeat' (first | (cases hs; done) | exact ab_go_ret hs | exact ab_inv_ret hs | exact ab_spc_ret hs | unfold ab_newarr at hs | split at hs)
section ABL
variable {sc : Option (List Int32)} {p : Program} {l : Launch} {e : Env} {R : Room} {s : State} {m : MethodId} {args : Array Value} {below : List Frame} {meth : Method} {c : Code} {Q : State → Prop} {A : Nat → Prop} {D : va_G} {y : Nat → ClassId} {nL : Nat} {ad0 : Nat → Nat} {h0 : ab_H} {cc : ByteArray} {pc : Nat} {L : ab_L} {S : List Value} {h : ab_H}
/-- a run, but for its end -/
theorem ab_run_sound (hx : p.tables.exec = Jvm.exec) (hb : c.code = cc) (hml : c.maxLocals = nL) {call : Nat → List Value → ab_H → Option (Option Value × ab_H)} {code : Nat → Option (Instr × Nat)} {own fr lc : Nat} {ini : Bool} {ret : Option FieldType} {scr : Option (List Int32)} (hown : s.vm.findClass (ab_C own) = some m.cls) (hts : ∀ w ∈ ab_BIG, w.before args s = true) (hA : ∀ q, s.heap.size ≤ q → A q) (hE : ab_EF D y s) (hT : ab_ST sc ad0 A s s.heap) (hC : ab_CS sc l D y call) (hini : ini = true → meth.name = "<init>")
    (hsc : ∀ xs, scr = some xs → ∃ b, ad0 2000 = b ∧ va_X b xs.length (fun j => xs.getD j 0) s s.heap ∧ b < s.heap.size ∧ ¬ A b) (hcode : ∀ pc ins len, code pc = some (ins, len) → decode cc pc = .ok (ins, len) ∧ ab_lenok ins len = true ∧ ab_cok own fr lc ins = true) (hRf : fr ≤ R.frames) (hRl : lc ≤ R.locals) {x : Option Value × ab_H} (hR : ab_nx x.2 - ab_nx h0 ≤ R.cells ∧ ab_sl x.2 - ab_sl h0 ≤ R.slots)
    (hend : ∀ pc L S h ins len, code pc = some (ins, len) → ab_Ends ret ins S h x → ab_Sim p l e R s m args below meth c Q A D y nL ad0 h0 (pc, L, S, h)) : ∀ (n : Nat) (F : ab_F), ab_loop call code own ini ret scr n F = some x → ab_Sim p l e R s m args below meth c Q A D y nL ad0 h0 F ∧ ab_nx F.2.2.2 ≤ ab_nx x.2 ∧ ab_sl F.2.2.2 ≤ ab_sl x.2 := by
  intro n
  induction n with
  | zero => intro F hF; cases hF
  | succ n ih =>
    intro F hF
    obtain ⟨pc, L, S, h⟩ := F
    unfold ab_loop at hF
    split at hF
    · rename_i ins len hpc
      obtain ⟨g1, g2, g3⟩ := hcode pc ins len hpc
      split at hF
      · rename_i st hst
        obtain ⟨i1, i2, i3⟩ := ih st hF
        have hm := ab_step_mono hst
        have hm1 : ab_nx h ≤ ab_nx st.2.2.2 := hm.1
        have hm2 : ab_sl h ≤ ab_sl st.2.2.2 := hm.2
        refine ⟨ab_step_sound hx hb hml hown hts hA hE hT hC hini hsc g2 g3 hRf hRl g1 hst ⟨?_, ?_⟩ i1, Nat.le_trans hm1 i2, Nat.le_trans hm2 i3⟩
        · have := hR.1
          omega
        · have := hR.2
          omega
      · rename_i r hst
        cases hF
        have he := ab_step_ret hst
        refine ⟨hend pc L S h ins len hpc he, ?_⟩
        rcases he with ⟨v, ty, -, -, -, -, rfl⟩ | ⟨v, -, -, -, rfl⟩ | ⟨-, -, -, rfl⟩ <;> exact ⟨Nat.le_refl _, Nat.le_refl _⟩
      · cases hF
    · cases hF
theorem ab_end_sound (hx : p.tables.exec = Jvm.exec) (hb : c.code = cc) {ret : Option FieldType} (hr : meth.sig.returnType = ret) (hlocks : meth.locks = false) {ins : Instr} {len : Nat} {x : Option Value × ab_H} (hd : decode cc pc = .ok (ins, len)) (hlk : ab_lenok ins len = true) (he : ab_Ends ret ins S h x) : ab_Sim p l e R s m args below meth c (MQ below (ab_Q D y ad0 h0 s.heap.size x.1 x.2) args s (ab_nx x.2 - ab_nx h0) (ab_sl x.2 - ab_sl h0) (va_A (ab_ws y ad0 h0) s.heap.size)) (va_A (ab_ws y ad0 h0) s.heap.size) D y nL ad0 h0 (pc, L, S, h) := by
  intro ad H locs ls hP hD hS hw hl hlen hfix hn1 hn2
  rcases he with ⟨v, ty, rfl, rfl, rfl, hn, rfl⟩ | ⟨v, rfl, rfl, rfl, rfl⟩ | ⟨rfl, rfl, rfl, rfl⟩
  · have hl1 : len = 1 := by simpa [ab_lenok] using hlk
    subst hl1
    exact W.zret hx hb hr hn (fun t ht hW => ⟨⟨ad, hfix, rfl, by rw [ht]; exact hP, hD, hw⟩, hS.F ht⟩) hS.2.2 hd hlocks
  · have hl1 : len = 1 := by simpa [ab_lenok] using hlk
    subst hl1
    exact W.lret hx hb hr (fun t ht hW => ⟨⟨ad, hfix, rfl, by rw [ht]; exact hP, hD, hw⟩, hS.F ht⟩) hS.2.2 hd hlocks
  · have hl1 : len = 1 := by simpa [ab_lenok] using hlk
    subst hl1
    exact W.vret hx hb hr (fun t ht hW => ⟨⟨ad, hfix, rfl, by rw [ht]; exact hP, hD, hw⟩, hS.F ht⟩) hS.2.2 hd hlocks
end ABL
/-- the locals at a method's entry -/
def ab_ent : List Value → ab_L
  | [] => []
  | v :: vs => if v.category = 2 then some v :: none :: ab_ent vs else some v :: ab_ent vs
def ab_entry (n : Nat) (vs : List Value) : ab_L := ab_ent vs ++ List.replicate (n - (ab_ent vs).length) none
theorem ab_ent_mem (ad : Nat → Nat) : ∀ (vs : List Value) (i j : Nat) (v : Value), (ab_ent vs)[j]? = some (some v) → (i + j, ab_cv ad v) ∈ lv_args i (vs.map (ab_cv ad)) := by
  intro vs
  induction vs with
  | nil => intro i j v h; cases h
  | cons v0 vs ih =>
    intro i j v h
    unfold ab_ent at h
    rw [List.map_cons]
    unfold lv_args
    rw [ab_cv_cat]
    by_cases hc : v0.category = 2
    · rw [if_pos hc] at h ⊢
      match j, h with
      | 0, h => cases h; exact List.mem_cons_self
      | 1, h => cases h
      | j + 2, h =>
        have := ih (i + 2) j v h
        rw [show i + (j + 2) = i + 2 + j by omega]
        exact List.mem_cons_of_mem _ this
    · rw [if_neg hc] at h ⊢
      match j, h with
      | 0, h => cases h; exact List.mem_cons_self
      | j + 1, h =>
        have := ih (i + 1) j v h
        rw [show i + (j + 1) = i + 1 + j by omega]
        exact List.mem_cons_of_mem _ this
theorem ab_ent_len (ad : Nat → Nat) (vs : List Value) : (lg_sl (vs.map (ab_cv ad))).length = (ab_ent vs).length := by
  induction vs with
  | nil => rfl
  | cons v vs ih =>
    have ih' : (List.flatMap (fun v => if v.category = 2 then [Slot.val v, .second] else [.val v]) (vs.map (ab_cv ad))).length = (ab_ent vs).length := ih
    unfold lg_sl ab_ent
    rw [List.map_cons, List.flatMap_cons, List.length_append, ih', ab_cv_cat]
    by_cases hc : v.category = 2
    · rw [if_pos hc, if_pos hc]
      simp
      omega
    · rw [if_neg hc, if_neg hc]
      simp
      omega
theorem ab_entry_sub (ad : Nat → Nat) (n : Nat) (vs : List Value) : ∀ q ∈ ab_le ad (ab_entry n vs), q ∈ lv_args 0 (vs.map (ab_cv ad)) := by
  intro q hq
  obtain ⟨v, h1, h2⟩ := ab_le_mem.mp hq
  rw [List.getD_eq_getElem?_getD] at h1
  unfold ab_entry at h1
  have h3 : (ab_ent vs)[q.1]? = some (some v) := by
    rcases Nat.lt_or_ge q.1 (ab_ent vs).length with w | w
    · rw [List.getElem?_append_left w] at h1
      rw [List.getElem?_eq_getElem w] at h1 ⊢
      exact congrArg some h1
    · rw [List.getElem?_append_right w, List.getElem?_replicate] at h1
      split at h1 <;> cases h1
  have := ab_ent_mem ad vs 0 q.1 v h3
  rw [Nat.zero_add, ← h2] at this
  exact this
/-- a method, run: its name, by a number; what calls take of steps, and of depth, is bounded by n -/
def ab_ini (mi : Nat) : Bool := decide ((ab_nm mi).name = "<init>")
def ab_ex (sc : Option (List Int32)) : Nat → Nat → List Value → ab_H → Option (Option Value × ab_H)
  | 0, _, _, _ => none
  | n + 1, mi, vs, h => if mi < ab_M.length ∧ (ab_ent vs).length ≤ ab_mxl mi then ab_loop (ab_ex sc n) (ab_at mi) (ab_own mi) (ab_ini mi) (ab_rt mi) sc n (0, ab_entry (ab_mxl mi) vs, [], h) else none
