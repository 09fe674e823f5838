/-! ONE STEP, ALL INSTRUCTIONS -/
theorem ab_T_cls (ci : Nat) (hci : ci < 8) : ∀ k, k < ab_N ci → (ab_T ci k).1 = ab_C ci := by
  rcases (show ci = 0 ∨ ci = 1 ∨ ci = 2 ∨ ci = 3 ∨ ci = 4 ∨ ci = 5 ∨ ci = 6 ∨ ci = 7 by omega) with h | h | h | h | h | h | h | h <;> subst h <;> decide +kernel
section ABK
variable {sc : Option (List Int32)} {p : Program} {l : Launch} {e : Env} {R : Room} {s : State} {m : MethodId} {args : Array Value} {below : List Frame} {meth : Method} {c : Code} {Q : State → Prop} {A : Nat → Prop} {D : va_G} {y : Nat → ClassId} {nL : Nat} {ad0 : Nat → Nat} {h0 : ab_H} {cc : ByteArray} {pc : Nat} {L : ab_L} {S : List Value} {h : ab_H}
set_option maxHeartbeats 4000000 in
theorem ab_step_sound (hx : p.tables.exec = Jvm.exec) (hb : c.code = cc) (hml : c.maxLocals = nL) {call : Nat → List Value → ab_H → Option (Option Value × ab_H)} {own fr lc len : Nat} {ini : Bool} {ret : Option FieldType} {scr : Option (List Int32)} {ins : Instr} {F : ab_F} (hown : s.vm.findClass (ab_C own) = some m.cls) (hts : ∀ w ∈ ab_BIG, w.before args s = true) (hA : ∀ q, s.heap.size ≤ q → A q) (hE : ab_EF D y s) (hT : ab_ST sc ad0 A s s.heap) (hC : ab_CS sc l D y call) (hini : ini = true → meth.name = "<init>")
    (hsc : ∀ xs, scr = some xs → ∃ b, ad0 2000 = b ∧ va_X b xs.length (fun j => xs.getD j 0) s s.heap ∧ b < s.heap.size ∧ ¬ A b) (hlk : ab_lenok ins len = true) (hok : ab_cok own fr lc ins = true) (hRf : fr ≤ R.frames) (hRl : lc ≤ R.locals) (hd : decode cc pc = .ok (ins, len)) (hs : ab_step call own ini ret scr ins len pc L S h = some (.inl F)) (hRc : ab_nx F.2.2.2 - ab_nx h0 ≤ R.cells ∧ ab_sl F.2.2.2 - ab_sl h0 ≤ R.slots) (k1 : ab_Sim p l e R s m args below meth c Q A D y nL ad0 h0 F) : ab_Sim p l e R s m args below meth c Q A D y nL ad0 h0 (pc, L, S, h) := by
  unfold ab_step at hs
  cases ins with
  | iconst n =>
    dsimp only at hs
    have hl2 : len = 1 := by simpa [ab_lenok] using hlk
    subst hl2
    cases hs
    exact abs_iconst hx hb hd k1
  | bipush n =>
    dsimp only at hs
    have hl2 : len = 2 := by simpa [ab_lenok] using hlk
    subst hl2
    cases hs
    exact abs_bipush hx hb hd k1
  | sipush n =>
    dsimp only at hs
    have hl2 : len = 3 := by simpa [ab_lenok] using hlk
    subst hl2
    cases hs
    exact abs_sipush hx hb hd k1
  | lconst n =>
    dsimp only at hs
    have hl2 : len = 1 := by simpa [ab_lenok] using hlk
    subst hl2
    cases hs
    exact abs_lconst hx hb hd k1
  | ldc i =>
    dsimp only at hs
    have hl2 : len = 2 := by simpa [ab_lenok] using hlk
    subst hl2
    split at hs
    · rename_i v hv
      cases hs
      intro ad H locs ls hP hD hS hw hl hlen hfix hn1 hn2
      exact lv_ldc hx hb hown (hts _ (ab_kI_spec hv)) hd (k1 ad H locs ls hP hD hS hw hl hlen hfix hn1 hn2)
    · split at hs
      · rename_i k hv
        cases hs
        obtain ⟨ho4, hk12, hki⟩ := ab_kS_spec hv
        subst ho4
        intro ad H locs ls hP hD hS hw hl hlen hfix hn1 hn2
        have hR0 := hT.2.1 k hk12
        rw [hki, ← hfix.1 (1000 + k) (Or.inr (Nat.le_add_right _ _))] at hR0
        exact va_ldcS hx hb hown hR0 hd (k1 ad H locs ls hP hD hS hw hl hlen hfix hn1 hn2)
      · cases hs
  | ldc_w i =>
    dsimp only at hs
    have hl2 : len = 3 := by simpa [ab_lenok] using hlk
    subst hl2
    split at hs
    · rename_i v hv
      cases hs
      intro ad H locs ls hP hD hS hw hl hlen hfix hn1 hn2
      exact lv_ldcw hx hb hown (hts _ (ab_kI_spec hv)) hd (k1 ad H locs ls hP hD hS hw hl hlen hfix hn1 hn2)
    · cases hs
  | ldc2_w i =>
    dsimp only at hs
    have hl2 : len = 3 := by simpa [ab_lenok] using hlk
    subst hl2
    split at hs
    · rename_i v hv
      cases hs
      intro ad H locs ls hP hD hS hw hl hlen hfix hn1 hn2
      exact lv_ldc2 hx hb hown (hts _ (ab_kL_spec hv)) hd (k1 ad H locs ls hP hD hS hw hl hlen hfix hn1 hn2)
    · cases hs
  | iload_n j =>
    dsimp only at hs
    have hl2 : len = 1 := by simpa [ab_lenok] using hlk
    subst hl2
    split at hs
    · rename_i x hv
      cases hs
      exact abs_iload_n hx hb hv hd k1
    · cases hs
  | iload j =>
    dsimp only at hs
    have hl2 : len = 2 := by simpa [ab_lenok] using hlk
    subst hl2
    split at hs
    · rename_i x hv
      cases hs
      exact abs_iload hx hb hv hd k1
    · cases hs
  | lload_n j =>
    dsimp only at hs
    have hl2 : len = 1 := by simpa [ab_lenok] using hlk
    subst hl2
    split at hs
    · rename_i x hv
      cases hs
      exact abs_lload_n hx hb hv hd k1
    · cases hs
  | lload j =>
    dsimp only at hs
    have hl2 : len = 2 := by simpa [ab_lenok] using hlk
    subst hl2
    split at hs
    · rename_i x hv
      cases hs
      exact abs_lload hx hb hv hd k1
    · cases hs
  | aload j =>
    dsimp only at hs
    have hl2 : len = 2 := by simpa [ab_lenok] using hlk
    subst hl2
    split at hs
    · rename_i x hv
      cases hs
      exact abs_aload hx hb hv hd k1
    · cases hs
  | aload_n j =>
    dsimp only at hs
    have hl2 : len = 1 := by simpa [ab_lenok] using hlk
    subst hl2
    split at hs
    · rename_i x hv
      cases hs
      exact abs_aload_n hx hb hv hd k1
    · cases hs
  | istore_n j =>
    dsimp only at hs
    have hl2 : len = 1 := by simpa [ab_lenok] using hlk
    subst hl2
    split at hs
    · split at hs
      · rename_i hj
        cases hs
        exact abs_istore_n hx hb hj hd k1
      · cases hs
    · cases hs
  | istore j =>
    dsimp only at hs
    have hl2 : len = 2 := by simpa [ab_lenok] using hlk
    subst hl2
    split at hs
    · split at hs
      · rename_i hj
        cases hs
        exact abs_istore hx hb hj hd k1
      · cases hs
    · cases hs
  | astore j =>
    dsimp only at hs
    have hl2 : len = 2 := by simpa [ab_lenok] using hlk
    subst hl2
    split at hs
    · split at hs
      · rename_i hj
        cases hs
        exact abs_astore hx hb hj hd k1
      · cases hs
    · cases hs
  | lstore_n j =>
    dsimp only at hs
    have hl2 : len = 1 := by simpa [ab_lenok] using hlk
    subst hl2
    split at hs
    · split at hs
      · rename_i hj
        cases hs
        exact abs_lstore_n hx hb hj hd k1
      · cases hs
    · cases hs
  | lstore j =>
    dsimp only at hs
    have hl2 : len = 2 := by simpa [ab_lenok] using hlk
    subst hl2
    split at hs
    · split at hs
      · rename_i hj
        cases hs
        exact abs_lstore hx hb hj hd k1
      · cases hs
    · cases hs
  | astore_n j =>
    dsimp only at hs
    have hl2 : len = 1 := by simpa [ab_lenok] using hlk
    subst hl2
    split at hs
    · split at hs
      · rename_i hj
        cases hs
        exact abs_astore_n hx hb hj hd k1
      · cases hs
    · cases hs
  | iinc j n =>
    dsimp only at hs
    have hl2 : len = 3 := by simpa [ab_lenok] using hlk
    subst hl2
    split at hs
    · rename_i x hv
      split at hs
      · rename_i hj
        cases hs
        exact abs_iinc hx hb hj hv hd k1
      · cases hs
    · cases hs
  | iadd =>
    dsimp only at hs
    have hl2 : len = 1 := by simpa [ab_lenok] using hlk
    subst hl2
    split at hs
    · cases hs
      exact abs_iadd hx hb hd k1
    · cases hs
  | isub =>
    dsimp only at hs
    have hl2 : len = 1 := by simpa [ab_lenok] using hlk
    subst hl2
    split at hs
    · cases hs
      exact abs_isub hx hb hd k1
    · cases hs
  | imul =>
    dsimp only at hs
    have hl2 : len = 1 := by simpa [ab_lenok] using hlk
    subst hl2
    split at hs
    · cases hs
      exact abs_imul hx hb hd k1
    · cases hs
  | iand =>
    dsimp only at hs
    have hl2 : len = 1 := by simpa [ab_lenok] using hlk
    subst hl2
    split at hs
    · cases hs
      exact abs_iand hx hb hd k1
    · cases hs
  | ior =>
    dsimp only at hs
    have hl2 : len = 1 := by simpa [ab_lenok] using hlk
    subst hl2
    split at hs
    · cases hs
      exact abs_ior hx hb hd k1
    · cases hs
  | ixor =>
    dsimp only at hs
    have hl2 : len = 1 := by simpa [ab_lenok] using hlk
    subst hl2
    split at hs
    · cases hs
      exact abs_ixor hx hb hd k1
    · cases hs
  | ishl =>
    dsimp only at hs
    have hl2 : len = 1 := by simpa [ab_lenok] using hlk
    subst hl2
    split at hs
    · cases hs
      exact abs_ishl hx hb hd k1
    · cases hs
  | ishr =>
    dsimp only at hs
    have hl2 : len = 1 := by simpa [ab_lenok] using hlk
    subst hl2
    split at hs
    · cases hs
      exact abs_ishr hx hb hd k1
    · cases hs
  | iushr =>
    dsimp only at hs
    have hl2 : len = 1 := by simpa [ab_lenok] using hlk
    subst hl2
    split at hs
    · cases hs
      exact abs_iushr hx hb hd k1
    · cases hs
  | lshr =>
    dsimp only at hs
    have hl2 : len = 1 := by simpa [ab_lenok] using hlk
    subst hl2
    split at hs
    · cases hs
      exact abs_lshr hx hb hd k1
    · cases hs
  | ladd =>
    dsimp only at hs
    have hl2 : len = 1 := by simpa [ab_lenok] using hlk
    subst hl2
    split at hs
    · cases hs
      exact abs_ladd hx hb hd k1
    · cases hs
  | lsub =>
    dsimp only at hs
    have hl2 : len = 1 := by simpa [ab_lenok] using hlk
    subst hl2
    split at hs
    · cases hs
      exact abs_lsub hx hb hd k1
    · cases hs
  | lmul =>
    dsimp only at hs
    have hl2 : len = 1 := by simpa [ab_lenok] using hlk
    subst hl2
    split at hs
    · cases hs
      exact abs_lmul hx hb hd k1
    · cases hs
  | lneg =>
    dsimp only at hs
    have hl2 : len = 1 := by simpa [ab_lenok] using hlk
    subst hl2
    split at hs
    · cases hs
      exact abs_lneg hx hb hd k1
    · cases hs
  | lcmp =>
    dsimp only at hs
    have hl2 : len = 1 := by simpa [ab_lenok] using hlk
    subst hl2
    split at hs
    · cases hs
      exact abs_lcmp hx hb hd k1
    · cases hs
  | i2l =>
    dsimp only at hs
    have hl2 : len = 1 := by simpa [ab_lenok] using hlk
    subst hl2
    split at hs
    · cases hs
      exact abs_i2l hx hb hd k1
    · cases hs
  | l2i =>
    dsimp only at hs
    have hl2 : len = 1 := by simpa [ab_lenok] using hlk
    subst hl2
    split at hs
    · cases hs
      exact abs_l2i hx hb hd k1
    · cases hs
  | i2b =>
    dsimp only at hs
    have hl2 : len = 1 := by simpa [ab_lenok] using hlk
    subst hl2
    split at hs
    · cases hs
      exact abs_i2b hx hb hd k1
    · cases hs
  | i2s =>
    dsimp only at hs
    have hl2 : len = 1 := by simpa [ab_lenok] using hlk
    subst hl2
    split at hs
    · cases hs
      exact abs_i2s hx hb hd k1
    · cases hs
  | irem =>
    dsimp only at hs
    have hl2 : len = 1 := by simpa [ab_lenok] using hlk
    subst hl2
    split at hs
    · split at hs
      · cases hs
      · rename_i hne
        cases hs
        exact abs_irem hx hb hne hd k1
    · cases hs
  | idiv =>
    dsimp only at hs
    have hl2 : len = 1 := by simpa [ab_lenok] using hlk
    subst hl2
    split at hs
    · split at hs
      · cases hs
      · rename_i hne
        cases hs
        exact abs_idiv hx hb hne hd k1
    · cases hs
  | ldiv =>
    dsimp only at hs
    have hl2 : len = 1 := by simpa [ab_lenok] using hlk
    subst hl2
    split at hs
    · split at hs
      · cases hs
      · rename_i hne
        cases hs
        exact abs_ldiv hx hb hne hd k1
    · cases hs
  | dup =>
    dsimp only at hs
    have hl2 : len = 1 := by simpa [ab_lenok] using hlk
    subst hl2
    split at hs
    · split at hs
      · rename_i hcat
        cases hs
        exact abs_dup hx hb hcat hd k1
      · cases hs
    · cases hs
  | pop =>
    dsimp only at hs
    have hl2 : len = 1 := by simpa [ab_lenok] using hlk
    subst hl2
    split at hs
    · split at hs
      · rename_i hcat
        cases hs
        exact abs_pop hx hb hcat hd k1
      · cases hs
    · cases hs
  | pop2 =>
    dsimp only at hs
    have hl2 : len = 1 := by simpa [ab_lenok] using hlk
    subst hl2
    split at hs
    · split at hs
      · rename_i hcat
        cases hs
        exact abs_pop2 hx hb hcat hd k1
      · cases hs
    · cases hs
  | dup2 =>
    dsimp only at hs
    have hl2 : len = 1 := by simpa [ab_lenok] using hlk
    subst hl2
    split at hs
    · split at hs
      · rename_i hcat
        cases hs
        exact abs_dup2 hx hb hcat.1 hcat.2 hd k1
      · cases hs
    · cases hs
  | if_icmp o off =>
    dsimp only at hs
    have hl2 : len = 3 := by simpa [ab_lenok] using hlk
    subst hl2
    split at hs
    · split at hs
      · rename_i g1
        cases hs
        exact abs_icmp hx hb hd g1 k1
      · cases hs
    · cases hs
  | ifCond o off =>
    dsimp only at hs
    have hl2 : len = 3 := by simpa [ab_lenok] using hlk
    subst hl2
    split at hs
    · split at hs
      · rename_i g1
        cases hs
        exact abs_ifc hx hb hd g1 k1
      · cases hs
    · cases hs
  | goto off =>
    dsimp only at hs
    have hl2 : len = 3 := by simpa [ab_lenok] using hlk
    subst hl2
    exact abs_goto hx hb hd hs k1
  | tableswitch dflt lo hi offs =>
    dsimp only at hs
    split at hs
    · exact abs_tbl hx hb hd hs k1
    · cases hs
  | lookupswitch dflt ps =>
    dsimp only at hs
    split at hs
    · split at hs
      · rename_i hp
        exact abs_lks hx hb hd hp hs k1
      · cases hs
    · cases hs
  | getfield i =>
    dsimp only at hs
    have hl2 : len = 3 := by simpa [ab_lenok] using hlk
    subst hl2
    split at hs
    · rename_i ci k o S2 hf
      split at hs
      · rename_i hcc
        simp only [Bool.and_eq_true, decide_eq_true_eq] at hcc
        cases hs
        exact abs_getf hx hb hown hts hE hf hcc.1.1 hcc.1.2 hcc.2 hd k1
      · cases hs
    · cases hs
  | putfield i =>
    dsimp only at hs
    have hl2 : len = 3 := by simpa [ab_lenok] using hlk
    subst hl2
    split at hs
    · rename_i ci k v o S2 hf
      split at hs
      · rename_i hcc
        simp only [Bool.and_eq_true, Bool.or_eq_true, Bool.not_eq_true', decide_eq_true_eq] at hcc
        obtain ⟨⟨⟨⟨⟨⟨c1, c2⟩, c3⟩, c4⟩, c6⟩, c7⟩, c8⟩ := hcc
        cases hs
        exact abs_putf hx hb hown hts hini hE hf c1 c2 c3 c4 c6 c7 c8 (ab_T_cls ci c3 k c2) hd k1
      · cases hs
    · cases hs
  | iaload =>
    dsimp only at hs
    have hl2 : len = 1 := by simpa [ab_lenok] using hlk
    subst hl2
    split at hs
    · rename_i i o S2
      split at hs
      · rename_i ho
        subst ho
        split at hs
        · rename_i xs
          split at hs
          · rename_i hi
            cases hs
            obtain ⟨b, hb0, hX, hbl, hbA⟩ := hsc xs rfl
            intro ad H locs ls hP hD hS hw hl hlen hfix hn1 hn2
            have e20 : ad 2000 = b := (hfix.1 2000 (Or.inr (by omega))).trans hb0
            show W p l e R s m args below meth c H locs _ _ Q (F0 m pc ls (.int i :: .ref (ad 2000) :: S2.map (ab_cv ad)))
            rw [e20]
            exact va_sld hx hb hX hbl hbA hS (ab_in_vp hi) hd (k1 ad H locs ls hP hD hS hw hl hlen hfix hn1 hn2)
          · cases hs
        · cases hs
      · split at hs
        · rename_i hcc
          rw [Bool.and_eq_true] at hcc
          cases hs
          exact abs_iaload hx hb hE hcc.1 hcc.2 hd k1
        · cases hs
    · cases hs
  | baload =>
    dsimp only at hs
    have hl2 : len = 1 := by simpa [ab_lenok] using hlk
    subst hl2
    split at hs
    · split at hs
      · rename_i hcc
        rw [Bool.and_eq_true, Bool.or_eq_true] at hcc
        cases hs
        rcases hcc.1 with z | z
        · exact abs_baload_z hx hb hE z hcc.2 hd k1
        · exact abs_baload_b hx hb hE z hcc.2 hd k1
      · cases hs
    · cases hs
  | laload =>
    dsimp only at hs
    have hl2 : len = 1 := by simpa [ab_lenok] using hlk
    subst hl2
    split at hs
    · split at hs
      · rename_i hcc
        rw [Bool.and_eq_true] at hcc
        cases hs
        exact abs_laload hx hb hE hcc.1 hcc.2 hd k1
      · cases hs
    · cases hs
  | aaload =>
    dsimp only at hs
    have hl2 : len = 1 := by simpa [ab_lenok] using hlk
    subst hl2
    split at hs
    · split at hs
      · rename_i hcc
        rw [Bool.and_eq_true, Bool.or_eq_true] at hcc
        cases hs
        rcases hcc.1 with z | z
        · exact abs_aald14 hx hb hE z hcc.2 hd k1
        · exact abs_aald15 hx hb hE z hcc.2 hd k1
      · cases hs
    · cases hs
  | iastore =>
    dsimp only at hs
    have hl2 : len = 1 := by simpa [ab_lenok] using hlk
    subst hl2
    split at hs
    · split at hs
      · rename_i hcc
        rw [Bool.and_eq_true] at hcc
        cases hs
        exact abs_iastore hx hb hE hcc.1 hcc.2 hd k1
      · cases hs
    · cases hs
  | lastore =>
    dsimp only at hs
    have hl2 : len = 1 := by simpa [ab_lenok] using hlk
    subst hl2
    split at hs
    · split at hs
      · rename_i hcc
        rw [Bool.and_eq_true] at hcc
        cases hs
        exact abs_lastore hx hb hE hcc.1 hcc.2 hd k1
      · cases hs
    · cases hs
  | bastore =>
    dsimp only at hs
    have hl2 : len = 1 := by simpa [ab_lenok] using hlk
    subst hl2
    split at hs
    · split at hs
      · rename_i hcc
        rw [Bool.and_eq_true, Bool.or_eq_true] at hcc
        cases hs
        rcases hcc.1 with z | z
        · rw [if_pos (ab_refs z).2] at k1
          exact abs_bastore_z hx hb hE z hcc.2 hd k1
        · rw [if_neg (by rw [(ab_refs z).2]; decide)] at k1
          exact abs_bastore_b hx hb hE z hcc.2 hd k1
      · cases hs
    · cases hs
  | aastore =>
    dsimp only at hs
    have hl2 : len = 1 := by simpa [ab_lenok] using hlk
    subst hl2
    split at hs
    · split at hs
      · rename_i hcc
        simp only [Bool.and_eq_true, decide_eq_true_eq] at hcc
        cases hs
        exact abs_aast hx hb hE hcc.1.1.1 hcc.1.1.2 hcc.1.2 hcc.2 hd k1
      · cases hs
    · cases hs
  | arraylength =>
    dsimp only at hs
    have hl2 : len = 1 := by simpa [ab_lenok] using hlk
    subst hl2
    split at hs
    · rename_i o S2
      split at hs
      · rename_i ho
        subst ho
        split at hs
        · rename_i xs
          cases hs
          obtain ⟨b, hb0, hX, hbl, hbA⟩ := hsc xs rfl
          intro ad H locs ls hP hD hS hw hl hlen hfix hn1 hn2
          have e20 : ad 2000 = b := (hfix.1 2000 (Or.inr (by omega))).trans hb0
          show W p l e R s m args below meth c H locs _ _ Q (F0 m pc ls (.ref (ad 2000) :: S2.map (ab_cv ad)))
          rw [e20]
          exact va_slen hx hb hX hbl hbA hS hd (k1 ad H locs ls hP hD hS hw hl hlen hfix hn1 hn2)
        · cases hs
      · cases hs
    · cases hs
  | new i =>
    dsimp only at hs
    have hl2 : len = 3 := by simpa [ab_lenok] using hlk
    subst hl2
    split at hs
    · rename_i ci hf
      split at hs
      · rename_i hcc
        rw [Bool.and_eq_true] at hcc
        cases hs
        refine abs_newobj hx hb hown hts hA hE hf hcc.1 hcc.2.1 hcc.2.2.1 hcc.2.2.2 ?_ hd k1
        have e1 := hRc.1
        have e2 := hRc.2
        have g1 : ab_nx (ab_new h ci (ab_N ci) (List.replicate (ab_N ci) none)) = ab_nx h + 1 := List.length_append
        have g2 : ab_sl (ab_new h ci (ab_N ci) (List.replicate (ab_N ci) none)) = ab_sl h + ab_N ci := by
          show ab_sl (ab_add h _) = _
          rw [ab_sl_add]
          simp
        rw [← g1, ← g2]
        exact ⟨e1, e2⟩
      · cases hs
    · cases hs
  | newarray ty =>
    dsimp only at hs
    have hl2 : len = 2 := by simpa [ab_lenok] using hlk
    subst hl2
    split at hs
    · rename_i n S2
      unfold ab_newarr at hs
      split at hs
      · rename_i hcc
        rw [Bool.and_eq_true] at hcc
        have key : ∀ (kd : Nat), ab_nx (ab_new h kd n.toNatClampNeg []) - ab_nx h0 ≤ R.cells ∧ ab_sl (ab_new h kd n.toNatClampNeg []) - ab_sl h0 ≤ R.slots → ab_nx h + 1 - ab_nx h0 ≤ R.cells ∧ ab_sl h + n.toNatClampNeg - ab_sl h0 ≤ R.slots := by
          intro kd hz
          have g1 : ab_nx (ab_new h kd n.toNatClampNeg []) = ab_nx h + 1 := List.length_append
          have g2 : ab_sl (ab_new h kd n.toNatClampNeg []) = ab_sl h + n.toNatClampNeg := by
            show ab_sl (ab_add h _) = _
            rw [ab_sl_add]
            simp
          rw [← g1, ← g2]
          exact hz
        split at hs
        · cases hs
          exact abs_newarr hx hb hts hA hE (Or.inl ⟨rfl, rfl, rfl, rfl⟩) hcc.1 hcc.2.1 hcc.2.2.1 hcc.2.2.2.1 hcc.2.2.2.2 (key 10 hRc) hd k1
        · cases hs
          exact abs_newarr hx hb hts hA hE (Or.inr (Or.inl ⟨rfl, rfl, rfl, rfl⟩)) hcc.1 hcc.2.1 hcc.2.2.1 hcc.2.2.2.1 hcc.2.2.2.2 (key 11 hRc) hd k1
        · cases hs
          exact abs_newarr hx hb hts hA hE (Or.inr (Or.inr (Or.inl ⟨rfl, rfl, rfl, rfl⟩))) hcc.1 hcc.2.1 hcc.2.2.1 hcc.2.2.2.1 hcc.2.2.2.2 (key 12 hRc) hd k1
        · cases hs
          exact abs_newarr hx hb hts hA hE (Or.inr (Or.inr (Or.inr ⟨rfl, rfl, rfl, rfl⟩))) hcc.1 hcc.2.1 hcc.2.2.1 hcc.2.2.2.1 hcc.2.2.2.2 (key 13 hRc) hd k1
        · cases hs
      · cases hs
    · cases hs
  | anewarray i =>
    dsimp only at hs
    have hl2 : len = 3 := by simpa [ab_lenok] using hlk
    subst hl2
    split at hs
    · rename_i ci n S2 hf
      split at hs
      · rename_i hcc
        obtain ⟨hc3, h0n, h1k, h1000, hall⟩ := hcc
        rw [Bool.and_eq_true] at hall
        subst hc3
        cases hs
        refine abs_anew hx hb hown hts hA hE hf h0n h1k h1000 hall.1 hall.2 ?_ hd k1
        have g1 : ab_nx (ab_new h 15 n.toNatClampNeg (List.replicate n.toNatClampNeg none)) = ab_nx h + 1 := List.length_append
        have g2 : ab_sl (ab_new h 15 n.toNatClampNeg (List.replicate n.toNatClampNeg none)) = ab_sl h + n.toNatClampNeg := by
          show ab_sl (ab_add h _) = _
          rw [ab_sl_add]
          simp
        rw [← g1, ← g2]
        exact hRc
      · cases hs
    · cases hs
  | multianewarray i d =>
    dsimp only at hs
    have hl2 : len = 4 := by simpa [ab_lenok] using hlk
    subst hl2
    split at hs
    · rename_i k n S2
      split at hs
      · rename_i hcc
        obtain ⟨hd2, hwi, h0n, h0k, hn1k, hk1k, h1000, hall⟩ := hcc
        rw [Bool.and_eq_true] at hall
        subst hd2
        cases hs
        have hw1 : Cond.classLink (ab_C own) i "[[I" ∈ ab_BIG := by
          rcases hwi with ⟨rfl, rfl⟩ | ⟨rfl, rfl⟩
          · exact ab_mw3
          · exact ab_mw5
        refine abs_mna hx hb hown hts hA hE hw1 h0n h0k hn1k hk1k h1000 hall.1 hall.2 ?_ hd k1
        have g1 : ab_nx (ab_mna h n.toNatClampNeg k.toNatClampNeg) = ab_nx h + (1 + n.toNatClampNeg) := by
          show (h.1 ++ _).length = _
          rw [List.length_append]
          simp [ab_nx]
          omega
        have g2 : ab_sl (ab_mna h n.toNatClampNeg k.toNatClampNeg) = ab_sl h + (n.toNatClampNeg + n.toNatClampNeg * k.toNatClampNeg) := by
          show ab_sl (ab_add h _) = _
          rw [ab_sl_add]
          simp
        rw [← g1, ← g2]
        exact hRc
      · cases hs
    · cases hs
  | ireturn =>
    dsimp only at hs
    unfold ab_ret at hs
    split at hs
    · split at hs
      · split at hs
        · cases hs
        · cases hs
      · cases hs
    · cases hs
  | lreturn =>
    dsimp only at hs
    split at hs
    · split at hs
      · cases hs
      · cases hs
    · cases hs
  | return_ =>
    dsimp only at hs
    split at hs
    · split at hs
      · cases hs
      · cases hs
    · cases hs
  | invokevirtual i =>
    dsimp only at hs
    have hl2 : len = 3 := by simpa [ab_lenok] using hlk
    subst hl2
    exact abs_inv (virt := true) hx hb hml hown hts hA hE hT hC hok hRf hRl hd hs hRc k1
  | invokestatic i =>
    dsimp only at hs
    have hl2 : len = 3 := by simpa [ab_lenok] using hlk
    subst hl2
    exact abs_inv (virt := false) hx hb hml hown hts hA hE hT hC hok hRf hRl hd hs hRc k1
  | invokespecial i =>
    dsimp only at hs
    have hl2 : len = 3 := by simpa [ab_lenok] using hlk
    subst hl2
    exact abs_spc hx hb hml hown hts hA hE hT hC hok hRf hRl hd hs hRc k1
  | _ =>
    dsimp only at hs
    cases hs
end ABK
