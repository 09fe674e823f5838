/-! STRINGS: the JDK's own methods -/
abbrev jF : Nat → Prop := fun _ => False
theorem j_w0 : Cond.fieldLink RJ0 38 "java/lang/String" "COMPACT_STRINGS" "Z" ∈ ab_BIG := ab_has_mem (q := (3, 230)) (by decide +kernel)
theorem j_w1 : Cond.fieldLink RJ0 15 "java/lang/String" "coder" "B" ∈ ab_BIG := ab_has_mem (q := (4, 149)) (by decide +kernel)
theorem j_w2 : Cond.fieldLink RJ0 9 "java/lang/String" "value" "[B" ∈ ab_BIG := ab_has_mem (q := (4, 148)) (by decide +kernel)
theorem j_w3 : Cond.fieldLink RJ0 1053 "jdk/internal/util/Preconditions" "SIOOBE_FORMATTER" "Ljava/util/function/BiFunction;" ∈ ab_BIG := ab_has_mem (q := (4, 6)) (by decide +kernel)
theorem j_iS : Cond.initialized RJ0 ∈ ab_BIG := ab_has_mem (q := (1, 9)) (by decide +kernel)
theorem j_iL : Cond.initialized RJ1 ∈ ab_BIG := ab_has_mem (q := (1, 10)) (by decide +kernel)
theorem j_iP : Cond.initialized RJ3 ∈ ab_BIG := ab_has_mem (q := (1, 11)) (by decide +kernel)
theorem j_len1 : Cond.instanceMethod yJ0_length_8abf5 ∈ ab_BIG := ab_has_mem (q := (3, 223)) (by decide +kernel)
theorem j_len2 : Cond.selects RJ0 yJ0_length_8abf5 yJ0_length_8abf5 ∈ ab_BIG := ab_has_mem (q := (3, 224)) (by decide +kernel)
theorem j_len3 : Cond.code yJ0_length_8abf5 cJ0_length_8abf5 1 (some .int) ∈ ab_BIG := ab_has_mem (q := (3, 225)) (by decide +kernel)
theorem j_cod0 : Cond.methodLink RJ0 335 yJ0_coder_7d493 ∈ ab_BIG := ab_has_mem (q := (3, 226)) (by decide +kernel)
theorem j_cod1 : Cond.instanceMethod yJ0_coder_7d493 ∈ ab_BIG := ab_has_mem (q := (3, 227)) (by decide +kernel)
theorem j_cod2 : Cond.selects RJ0 yJ0_coder_7d493 yJ0_coder_7d493 ∈ ab_BIG := ab_has_mem (q := (3, 228)) (by decide +kernel)
theorem j_cod3 : Cond.code yJ0_coder_7d493 cJ0_coder_7d493 1 (some .byte) ∈ ab_BIG := ab_has_mem (q := (3, 229)) (by decide +kernel)
theorem j_chr1 : Cond.instanceMethod yJ0_charAt_5068e ∈ ab_BIG := ab_has_mem (q := (3, 233)) (by decide +kernel)
theorem j_chr2 : Cond.selects RJ0 yJ0_charAt_5068e yJ0_charAt_5068e ∈ ab_BIG := ab_has_mem (q := (3, 234)) (by decide +kernel)
theorem j_chr3 : Cond.code yJ0_charAt_5068e cJ0_charAt_5068e 2 (some .char) ∈ ab_BIG := ab_has_mem (q := (3, 235)) (by decide +kernel)
theorem j_lat0 : Cond.methodLink RJ0 492 yJ0_isLatin1_aae02 ∈ ab_BIG := ab_has_mem (q := (3, 236)) (by decide +kernel)
theorem j_lat1 : Cond.instanceMethod yJ0_isLatin1_aae02 ∈ ab_BIG := ab_has_mem (q := (3, 237)) (by decide +kernel)
theorem j_lat2 : Cond.selects RJ0 yJ0_isLatin1_aae02 yJ0_isLatin1_aae02 ∈ ab_BIG := ab_has_mem (q := (3, 238)) (by decide +kernel)
theorem j_lat3 : Cond.code yJ0_isLatin1_aae02 cJ0_isLatin1_aae02 1 (some .boolean) ∈ ab_BIG := ab_has_mem (q := (3, 239)) (by decide +kernel)
theorem j_sl0 : Cond.methodLink RJ0 495 yJ1_charAt_3b067 ∈ ab_BIG := ab_has_mem (q := (4, 0)) (by decide +kernel)
theorem j_sl1 : Cond.static yJ1_charAt_3b067 ∈ ab_BIG := ab_has_mem (q := (4, 1)) (by decide +kernel)
theorem j_sl3 : Cond.code yJ1_charAt_3b067 cJ1_charAt_3b067 2 (some .char) ∈ ab_BIG := ab_has_mem (q := (4, 2)) (by decide +kernel)
theorem j_ci0 : Cond.methodLink RJ1 9 yJ0_checkIndex_df160 ∈ ab_BIG := ab_has_mem (q := (4, 3)) (by decide +kernel)
theorem j_ci1 : Cond.static yJ0_checkIndex_df160 ∈ ab_BIG := ab_has_mem (q := (4, 4)) (by decide +kernel)
theorem j_ci3 : Cond.code yJ0_checkIndex_df160 cJ0_checkIndex_df160 2 none ∈ ab_BIG := ab_has_mem (q := (4, 5)) (by decide +kernel)
theorem j_pc0 : Cond.methodLink RJ0 1059 yJ3_checkIndex_8e157 ∈ ab_BIG := ab_has_mem (q := (4, 8)) (by decide +kernel)
theorem j_pc1 : Cond.static yJ3_checkIndex_8e157 ∈ ab_BIG := ab_has_mem (q := (4, 9)) (by decide +kernel)
theorem j_pc3 : Cond.code yJ3_checkIndex_8e157 cJ3_checkIndex_8e157 3 (some .int) ∈ ab_BIG := ab_has_mem (q := (4, 10)) (by decide +kernel)
def jd_w (y : MethodName) (b : ByteArray) (ml : Nat) (ret : Option FieldType) : List Cond := .code y b ml ret :: ab_BIG
theorem jd_good {y : MethodName} {b : ByteArray} {ml : Nat} {ret : Option FieldType} (h : Cond.code y b ml ret ∈ ab_BIG) : GoodIn ab_BIG (jd_w y b ml ret) := by
  intro w hw
  have hb : w ∈ ab_BIG := by
    rcases List.mem_cons.mp hw with rfl | hw
    · exact h
    · exact hw
  exact ⟨hb, ab_BIG_good w hb⟩
theorem jd_goodV {own : String} {i : Nat} {C : String} {y : MethodName} {b : ByteArray} {ml : Nat} {ret : Option FieldType} (h0 : Cond.methodLink own i y ∈ ab_BIG) (h1 : Cond.instanceMethod y ∈ ab_BIG) (h2 : Cond.selects C y y ∈ ab_BIG) (h4 : Cond.initialized C ∈ ab_BIG) (h : Cond.code y b ml ret ∈ ab_BIG) : GoodIn ab_BIG (wsV own i C y (jd_w y b ml ret)) := by
  intro w hw
  rcases List.mem_append.mp hw with h3 | h3
  · have hb : w ∈ ab_BIG := by
      simp only [List.mem_cons, List.not_mem_nil, or_false] at h3
      rcases h3 with rfl | rfl | rfl | rfl
      · exact h0
      · exact h1
      · exact h2
      · exact h4
    exact ⟨hb, ab_BIG_good w hb⟩
  · exact jd_good h w h3
theorem jd_goodS {own : String} {i : Nat} {y : MethodName} {b : ByteArray} {ml : Nat} {ret : Option FieldType} (h0 : Cond.methodLink own i y ∈ ab_BIG) (h1 : Cond.static y ∈ ab_BIG) (h4 : Cond.initialized y.cls ∈ ab_BIG) (h : Cond.code y b ml ret ∈ ab_BIG) : GoodIn ab_BIG (va_wsS own i y (jd_w y b ml ret)) := by
  intro w hw
  rcases List.mem_append.mp hw with h3 | h3
  · have hb : w ∈ ab_BIG := by
      simp only [List.mem_cons, List.not_mem_nil, or_false] at h3
      rcases h3 with rfl | rfl | rfl
      · exact h0
      · exact h1
      · exact h4
    exact ⟨hb, ab_BIG_good w hb⟩
  · exact jd_good h w h3
/-- the two statics -/
def jd_Z (U : State) (H : Heap) : Prop := va_Z "java/lang/String" "COMPACT_STRINGS" "Z" (.int 1) jF U H ∧ va_Zq "jdk/internal/util/Preconditions" "SIOOBE_FORMATTER" "Ljava/util/function/BiFunction;" jF U H
/-- a text at q, over the bytes at t -/
def jd_S (q t n : Nat) (f : Nat → Int32) (U : State) (H : Heap) : Prop := va_O "java/lang/String" q jF U H ∧ va_OF "java/lang/String" "coder" "B" (.int 0) q jF U H ∧ va_OF "java/lang/String" "value" "[B" (.ref t) q jF U H ∧ va_T .byte t n (fun j => .int (f j)) jF U H
theorem jd_Z.moved {u U : State} {H : Heap} (hvm : u.vm.Alike U.vm) (h : jd_Z u H) : jd_Z U H := ⟨h.1.moved hvm, h.2.moved hvm⟩
theorem jd_S.moved {q t n : Nat} {f : Nat → Int32} {u U : State} {H : Heap} (hvm : u.vm.Alike U.vm) (h : jd_S q t n f u H) : jd_S q t n f U H := ⟨h.1.moved hvm, h.2.1.moved hvm, h.2.2.1.moved hvm, h.2.2.2.moved hvm⟩
theorem jd_Z.kept {U : State} {H H1 : Heap} (hk : ∀ a : Nat, a < H.size → H1[a]? = H[a]?) (h : jd_Z U H) : jd_Z U H1 := ⟨h.1.kept (fun a h1 _ => hk a h1), h.2.kept (fun a h1 _ => hk a h1)⟩
theorem jd_S.kept {q t n : Nat} {f : Nat → Int32} {U : State} {H H1 : Heap} (hk : ∀ a : Nat, a < H.size → H1[a]? = H[a]?) (h : jd_S q t n f U H) : jd_S q t n f U H1 := ⟨h.1.kept (fun a h1 _ => hk a h1), h.2.1.kept (fun a h1 _ => hk a h1), h.2.2.1.kept (fun a h1 _ => hk a h1), h.2.2.2.kept (fun a h1 _ => hk a h1)⟩
theorem d_jc_0 : decode cJ0_coder_7d493 0 = .ok (.getstatic 38, 3) := by decide +kernel
theorem d_jc_3 : decode cJ0_coder_7d493 3 = .ok (.ifCond .eq 10, 3) := by decide +kernel
theorem d_jc_6 : decode cJ0_coder_7d493 6 = .ok (.aload_n 0, 1) := by decide +kernel
theorem d_jc_7 : decode cJ0_coder_7d493 7 = .ok (.getfield 15, 3) := by decide +kernel
theorem d_jc_10 : decode cJ0_coder_7d493 10 = .ok (.goto 4, 3) := by decide +kernel
theorem d_jc_14 : decode cJ0_coder_7d493 14 = .ok (.ireturn, 1) := by decide +kernel
theorem d_jl_0 : decode cJ0_isLatin1_aae02 0 = .ok (.getstatic 38, 3) := by decide +kernel
theorem d_jl_3 : decode cJ0_isLatin1_aae02 3 = .ok (.ifCond .eq 14, 3) := by decide +kernel
theorem d_jl_6 : decode cJ0_isLatin1_aae02 6 = .ok (.aload_n 0, 1) := by decide +kernel
theorem d_jl_7 : decode cJ0_isLatin1_aae02 7 = .ok (.getfield 15, 3) := by decide +kernel
theorem d_jl_10 : decode cJ0_isLatin1_aae02 10 = .ok (.ifCond .ne 7, 3) := by decide +kernel
theorem d_jl_13 : decode cJ0_isLatin1_aae02 13 = .ok (.iconst 1, 1) := by decide +kernel
theorem d_jl_14 : decode cJ0_isLatin1_aae02 14 = .ok (.goto 4, 3) := by decide +kernel
theorem d_jl_18 : decode cJ0_isLatin1_aae02 18 = .ok (.ireturn, 1) := by decide +kernel
theorem d_jn_0 : decode cJ0_length_8abf5 0 = .ok (.aload_n 0, 1) := by decide +kernel
theorem d_jn_1 : decode cJ0_length_8abf5 1 = .ok (.getfield 9, 3) := by decide +kernel
theorem d_jn_4 : decode cJ0_length_8abf5 4 = .ok (.arraylength, 1) := by decide +kernel
theorem d_jn_5 : decode cJ0_length_8abf5 5 = .ok (.aload_n 0, 1) := by decide +kernel
theorem d_jn_6 : decode cJ0_length_8abf5 6 = .ok (.invokevirtual 335, 3) := by decide +kernel
theorem d_jn_9 : decode cJ0_length_8abf5 9 = .ok (.ishr, 1) := by decide +kernel
theorem d_jn_10 : decode cJ0_length_8abf5 10 = .ok (.ireturn, 1) := by decide +kernel
set_option maxHeartbeats 4000000 in
theorem jd_coder (l : Launch) (q t n : Nat) (f : Nat → Int32) : Met l yJ0_coder_7d493 (jd_w yJ0_coder_7d493 cJ0_coder_7d493 1 (some .byte)) ({ frames := 0, cells := 0, slots := 0, locals := 0 }) (va_Pc [.ref q] (fun U => jd_Z U U.heap ∧ jd_S q t n f U U.heap)) (va_Qi (fun (r : Int32) (_ : Unit) => r = 0) (fun _ _ => True) jF) 0 0 jF := by
  refine Met.ofW (cc := cJ0_coder_7d493) (maxL := 1) (ret := some .byte) (by decide) rfl ?_
  intro p e s m args below meth c s₁ B hml hv
  obtain ⟨rfl, hZ, hO⟩ := hv
  have hx := B.exec
  have hb := B.bytes
  have hr := B.returns
  have hts0 := atoms_spec (ws := jd_w yJ0_coder_7d493 cJ0_coder_7d493 1 (some .byte)) B.pre
  have hts : ∀ w ∈ ab_BIG, w.before _ s = true := fun w hw => hts0 w (List.mem_cons_of_mem _ hw)
  have hown : s.vm.findClass RJ0 = some m.cls := findClass_of_methodNamed B.named
  have hlocks := B.notSynchronized
  have hS : va_S jF s.heap s.heap [] := va_S.rf
  have hl := lv_entry ([.ref q]) (n := 1) (Nat.le_of_ble_eq_true rfl)
  rw [lg_entry_eq]
  generalize (lg_sl ([.ref q]) ++ List.replicate (1 - (lg_sl ([.ref q])).length) Slot.unset).toArray = ls at hl ⊢
  have hl : lv_has ls 1 [(0, .ref q)] := hl
  refine va_gets hx hb hZ.1 hS hown (hts _ j_w0) (fun _ h => h) d_jc_0 ?_
  refine lv_if_eq hx hb d_jc_3 (tgt := 13) rfl (fun z => absurd z (by decide)) (fun _ => ?_)
  refine lv_aload_n hx hb d_jc_6 rfl (lv_at hl 0 rfl) ?_
  refine vk_getf hx hb hO.2.1 hS hown (hts _ j_w1) (fun _ h => h) d_jc_7 ?_
  refine lv_goto hx hb d_jc_10 (tgt := 14) rfl ?_
  exact W.zret (v := 0) hx hb hr (by decide) (fun t ht hW => ⟨⟨0, (), rfl, rfl, trivial⟩, hS.F ht⟩) hS.2.2 d_jc_14
set_option maxHeartbeats 4000000 in
theorem jd_isLatin1 (l : Launch) (q t n : Nat) (f : Nat → Int32) : Met l yJ0_isLatin1_aae02 (jd_w yJ0_isLatin1_aae02 cJ0_isLatin1_aae02 1 (some .boolean)) ({ frames := 0, cells := 0, slots := 0, locals := 0 }) (va_Pc [.ref q] (fun U => jd_Z U U.heap ∧ jd_S q t n f U U.heap)) (va_Qi (fun (r : Int32) (_ : Unit) => r = 1) (fun _ _ => True) jF) 0 0 jF := by
  refine Met.ofW (cc := cJ0_isLatin1_aae02) (maxL := 1) (ret := some .boolean) (by decide) rfl ?_
  intro p e s m args below meth c s₁ B hml hv
  obtain ⟨rfl, hZ, hO⟩ := hv
  have hx := B.exec
  have hb := B.bytes
  have hr := B.returns
  have hts0 := atoms_spec (ws := jd_w yJ0_isLatin1_aae02 cJ0_isLatin1_aae02 1 (some .boolean)) B.pre
  have hts : ∀ w ∈ ab_BIG, w.before _ s = true := fun w hw => hts0 w (List.mem_cons_of_mem _ hw)
  have hown : s.vm.findClass RJ0 = some m.cls := findClass_of_methodNamed B.named
  have hlocks := B.notSynchronized
  have hS : va_S jF s.heap s.heap [] := va_S.rf
  have hl := lv_entry ([.ref q]) (n := 1) (Nat.le_of_ble_eq_true rfl)
  rw [lg_entry_eq]
  generalize (lg_sl ([.ref q]) ++ List.replicate (1 - (lg_sl ([.ref q])).length) Slot.unset).toArray = ls at hl ⊢
  have hl : lv_has ls 1 [(0, .ref q)] := hl
  refine va_gets hx hb hZ.1 hS hown (hts _ j_w0) (fun _ h => h) d_jl_0 ?_
  refine lv_if_eq hx hb d_jl_3 (tgt := 17) rfl (fun z => absurd z (by decide)) (fun _ => ?_)
  refine lv_aload_n hx hb d_jl_6 rfl (lv_at hl 0 rfl) ?_
  refine vk_getf hx hb hO.2.1 hS hown (hts _ j_w1) (fun _ h => h) d_jl_7 ?_
  refine lv_if_ne hx hb d_jl_10 (tgt := 17) rfl (fun z => absurd rfl z) (fun _ => ?_)
  refine lv_iconst (v := 1) hx hb d_jl_13 (by decide) ?_
  refine lv_goto hx hb d_jl_14 (tgt := 18) rfl ?_
  exact W.zret (v := 1) hx hb hr (by decide) (fun t ht hW => ⟨⟨1, (), rfl, rfl, trivial⟩, hS.F ht⟩) hS.2.2 d_jl_18
set_option maxHeartbeats 4000000 in
theorem jd_length (l : Launch) (q t n : Nat) (f : Nat → Int32) : Met l yJ0_length_8abf5 (jd_w yJ0_length_8abf5 cJ0_length_8abf5 1 (some .int)) ({ frames := 1, cells := 0, slots := 0, locals := 20 }) (va_Pc [.ref q] (fun U => jd_Z U U.heap ∧ jd_S q t n f U U.heap)) (va_Qi (fun (r : Int32) (_ : Unit) => r = Int32.ofNat n) (fun _ _ => True) jF) 0 0 jF := by
  refine Met.ofW (cc := cJ0_length_8abf5) (maxL := 1) (ret := some .int) (by decide) rfl ?_
  intro p e s m args below meth c s₁ B hml hv
  obtain ⟨rfl, hZ, hO⟩ := hv
  have hx := B.exec
  have hb := B.bytes
  have hr := B.returns
  have hts0 := atoms_spec (ws := jd_w yJ0_length_8abf5 cJ0_length_8abf5 1 (some .int)) B.pre
  have hts : ∀ w ∈ ab_BIG, w.before _ s = true := fun w hw => hts0 w (List.mem_cons_of_mem _ hw)
  have hown : s.vm.findClass RJ0 = some m.cls := findClass_of_methodNamed B.named
  have hlocks := B.notSynchronized
  have hS : va_S jF s.heap s.heap [] := va_S.rf
  have hl := lv_entry ([.ref q]) (n := 1) (Nat.le_of_ble_eq_true rfl)
  rw [lg_entry_eq]
  generalize (lg_sl ([.ref q]) ++ List.replicate (1 - (lg_sl ([.ref q])).length) Slot.unset).toArray = ls at hl ⊢
  have hl : lv_has ls 1 [(0, .ref q)] := hl
  refine lv_aload_n hx hb d_jn_0 rfl (lv_at hl 0 rfl) ?_
  refine vk_getf hx hb hO.2.2.1 hS hown (hts _ j_w2) (fun _ h => h) d_jn_1 ?_
  refine va_tlen hx hb hO.2.2.2 hS rfl d_jn_4 ?_
  refine lv_aload_n hx hb d_jn_5 rfl (lv_at hl 0 rfl) ?_
  obtain ⟨cell, o1, o2, o3, o4⟩ := hO.1
  refine va_calli (va_runV (As := []) (rest := [.int (Int32.ofNat n)]) ⟨hx, hb, hml, hown, hts⟩ (jd_coder l q t n f) (cwV 0 hts (jd_goodV j_cod0 j_cod1 j_cod2 j_iS j_cod3) rfl rfl rfl ⟨rfl, by decide +kernel⟩ ⟨Nat.le_of_ble_eq_true rfl, Nat.le_of_ble_eq_true rfl⟩) ⟨fun a U g mk q => by obtain ⟨q0, q1, q2⟩ := q; exact ⟨q0, q1.moved (u := U) (U := U.calling g mk a) (Vm.Alike.refl U.vm), q2.moved (u := U) (U := U.calling g mk a) (Vm.Alike.refl U.vm)⟩, ⟨cell, o1, o2, o3⟩, fun U hU hW => ⟨rfl, by rw [hU]; exact hZ.moved hW.alike, by rw [hU]; exact hO.moved hW.alike⟩⟩ rfl rfl hl.1 rfl (lv_room (Nat.le_of_ble_eq_true rfl)) d_jn_6 ⟨(Nat.zero_le _), (Nat.zero_le _)⟩) hS (fun q _ h => h) (fun _ h => h) (fun r u t H1 locs1 ht hvm hw _ hz1 hk1 hS1 => ?_)
  subst hw
  refine lv_ishr hx hb d_jn_9 ?_
  exact W.iret hx hb hr (fun t ht hW => ⟨⟨_, (), rfl, by
    have e : ((0 : Int32) &&& 31) = 0 := by decide
    rw [e]
    exact Int32.shiftRight_zero, trivial⟩, hS1.F ht⟩) hS1.2.2 d_jn_10
