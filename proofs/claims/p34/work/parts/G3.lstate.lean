/-! THE CLAIM OUT OF ONE WALK OF THE LAW'S BODY. Your part is whole_start (and what it stands on); all else here is the same for every law, but numbers. -/
def R_law : String := "ValueNumbererLaw"
def lw_P (b : Addr) (xs : List Int32) (args : Array Value) (s : State) : Prop := args = #[.ref b] ∧ s.IntsAt b xs ∧ xs.length ≤ 260 ∧ (Jvm.Cond.and given_1 narrow_1).before args s = true
def lw_Q (_ : Array Value) (s : State) (o : Outcome) (t : State) : Prop := o = .returned (some (.int 1)) ∧ Framed s o t [] 600000 7302250
def lw_Z (below : List Frame) (a : Array Value) (s : State) : State → Prop := fun t => ∃ o, t.status = .running ∧ Ended t below o ∧ lw_Q a s o t
/-- the law's own end, with 1 on the stack, nothing written that was there before, its room as the claim has it -/
theorem lw_ret {p : Program} {l : Launch} {e : Env} {s : State} {m : MethodId} {below : List Frame} {meth : Method} {c : Code} {b : Nat} (hx : p.tables.exec = Jvm.exec) (hb : c.code = code) (hr : meth.sig.returnType = ret) (hlocks : meth.locks = false) {pc : Nat} {H : Heap} {ls : Array Slot} (hdg : decode code pc = .ok (.ireturn, 1)) : W p l e room_1 s m #[Value.ref b] below meth c H [] 600000 7302250 (lw_Z below #[Value.ref b] s) (F0 m pc ls [.int 1]) := by
  intro T hT X
  obtain ⟨fs, hret, hrun, hended, hW, hframe⟩ := X.leave (v := some (.int 1)) (hlocks := hlocks) (fun h => by rw [hr] at h; cases h)
  have hmeth' : T.vm.method? m = some meth := X.method'
  refine ⟨T.setFrames fs, ?_, .returned (some (.int 1)), hrun, hended, rfl, ⟨_, rfl⟩, hW, hframe⟩
  jvm_step X.here [X.here.top, hx, hb, hdg, hmeth', hr, ret, narrow_b1]
  (try refine ⟨rfl, ?_⟩); (try refine ⟨rfl, ?_⟩)
  first | (intro acts; rw [hret _ acts rfl rfl rfl]) | rw [hret _ _ rfl rfl rfl]
  exact Steps.refl _
/-- what holds at the law's entry: the machine, the code, the tables' words (any of lw_tbl by 'hts w (by decide +kernel)'), the script of L ints xs at the cell b, what the Statement gives of the start (any of its parts by flat_of_before) -/
def lw_At (p : Program) (s : State) (m : MethodId) (meth : Method) (c : Code) (b L : Nat) (xs : Nat → Int32) : Prop :=
  p.tables.exec = Jvm.exec ∧ c.code = code ∧ meth.sig.returnType = ret ∧ c.maxLocals = 24 ∧ s.vm.findClass R_law = some m.cls ∧ (∀ w ∈ lw_tbl, w.before #[Value.ref b] s = true) ∧ va_X b L xs s s.heap ∧ b < s.heap.size ∧ meth.locks = false ∧ (Jvm.Cond.and given_1 narrow_1).before #[Value.ref b] s = true
theorem lw_inst : ∀ k, k < 8 → Cond.instantiable (ab_C k) (ab_N k) ∈ lw_tbl := by decide +kernel
section LST
variable {s : State} {args : Array Value}
theorem lw_Ks (hts : ∀ w ∈ lw_tbl, w.before args s = true) : ∃ (dC : Nat → ClassId) (dI : Nat → Nat → Nat), ∀ (k : Nat) (q : vw_C), vwCl[k]? = some q → u_Kn s q.1 q.2.1 q.2.2 (dC k) (dI k) := by
  have h : ∀ k, ∃ z : ClassId × (Nat → Nat), k < 8 → u_Kn s (ab_C k) (ab_T k) (ab_N k) z.1 z.2 := by
    intro k
    by_cases hk : k < 8
    · obtain ⟨c, i, h⟩ := u_known (C := ab_C k) (T := ab_T k) (N := ab_N k) (n := ab_N k) hts (fun w hw => ab_BIG_in w (ab_cls_in k hk w hw)) (hts _ (lw_inst k hk))
      exact ⟨(c, i), fun _ => h⟩
    · exact ⟨((0 : Nat), fun _ => 0), fun h => absurd h hk⟩
  refine ⟨fun k => (Classical.choose (h k)).1, fun k => (Classical.choose (h k)).2, ?_⟩
  intro k q hq
  match k, hq with
  | 0, hq => cases hq; exact Classical.choose_spec (h 0) (by decide)
  | 1, hq => cases hq; exact Classical.choose_spec (h 1) (by decide)
  | 2, hq => cases hq; exact Classical.choose_spec (h 2) (by decide)
  | 3, hq => cases hq; exact Classical.choose_spec (h 3) (by decide)
  | 4, hq => cases hq; exact Classical.choose_spec (h 4) (by decide)
  | 5, hq => cases hq; exact Classical.choose_spec (h 5) (by decide)
  | 6, hq => cases hq; exact Classical.choose_spec (h 6) (by decide)
  | 7, hq => cases hq; exact Classical.choose_spec (h 7) (by decide)
  | k + 8, hq => simp [vwCl] at hq
theorem lw_ai (h : (Cond.arrayClass .int).before args s = true) : ∃ c, ArrOfT s c .int ∧ va_RA s c .int := by
  obtain ⟨c, k, comp, f1, f2, f3⟩ := Cond.arrayClass_spec (args := args) (first := s) (o := none) (s := s) (idx := []) h
  exact ⟨c, fun n z => ⟨(fun k h => by cases h), k, f2, comp, f3⟩, f1⟩
theorem lw_al (h : (Cond.arrayClass .long).before args s = true) : ∃ c, ArrOfT s c .long ∧ va_RA s c .long := by
  obtain ⟨c, k, comp, f1, f2, f3⟩ := Cond.arrayClass_spec (args := args) (first := s) (o := none) (s := s) (idx := []) h
  exact ⟨c, fun n z => ⟨(fun k h => by cases h), k, f2, comp, f3⟩, f1⟩
theorem lw_az (h : (Cond.arrayClass .boolean).before args s = true) : ∃ c, ArrOfT s c .boolean ∧ va_RA s c .boolean := by
  obtain ⟨c, k, comp, f1, f2, f3⟩ := Cond.arrayClass_spec (args := args) (first := s) (o := none) (s := s) (idx := []) h
  exact ⟨c, fun n z => ⟨(fun k h => by cases h), k, f2, comp, f3⟩, f1⟩
theorem lw_ab (h : (Cond.arrayClass .byte).before args s = true) : ∃ c, ArrOfT s c .byte ∧ va_RA s c .byte := by
  obtain ⟨c, k, comp, f1, f2, f3⟩ := Cond.arrayClass_spec (args := args) (first := s) (o := none) (s := s) (idx := []) h
  exact ⟨c, fun n z => ⟨(fun k h => by cases h), k, f2, comp, f3⟩, f1⟩
theorem lw_aa (h : ab_AOA s) : ∃ c, ArrOfT s c (.array .int) ∧ va_RA s c (.array .int) := by
  obtain ⟨comp, c, k, h1, h2, h3, h4, h5⟩ := ab_AOA.spec h
  exact ⟨c, fun n z => ⟨(fun k h => by cases h), k, h3, comp, h4⟩, h5⟩
theorem lw_ao (h : va_AO RX3 s) : ∃ c, ArrOfT s c (.object RX3) ∧ va_RA s c (.object RX3) := by
  obtain ⟨comp, c, k, h1, h2, h3, h4, h5⟩ := Cond.arrayOver_spec (args := #[]) (first := s) (o := none) (s := s) (idx := []) h
  exact ⟨c, fun n z => ⟨(fun k h => by cases h), k, h3, comp, h4⟩, k, comp, h3, h4, h1, h5⟩
theorem lw_NWs : ab_NW.all (fun w => w.onTables && decide (w ∈ lw_tbl)) = true := by decide +kernel
theorem lw_EFx (hts : ∀ w ∈ lw_tbl, w.before args s = true) : ∃ (D : va_G) (y : Nat → ClassId), ab_EF D y s := by
  obtain ⟨dC, dI, hK⟩ := lw_Ks hts
  have ha : ab_AOA s := hts (.arrayOver (.array .int)) (by decide +kernel)
  have ho : va_AO RX3 s := va_AO.of (hts (.arrayOver (.object RX3)) (by decide +kernel))
  obtain ⟨c0, q0⟩ := lw_ai (hts (.arrayClass .int) (by decide +kernel))
  obtain ⟨c1, q1⟩ := lw_al (hts (.arrayClass .long) (by decide +kernel))
  obtain ⟨c2, q2⟩ := lw_az (hts (.arrayClass .boolean) (by decide +kernel))
  obtain ⟨c3, q3⟩ := lw_ab (hts (.arrayClass .byte) (by decide +kernel))
  obtain ⟨c4, q4⟩ := lw_aa ha
  obtain ⟨c5, q5⟩ := lw_ao ho
  refine ⟨(dC, dI), fun k => if k = 10 then c0 else if k = 11 then c1 else if k = 12 then c2 else if k = 13 then c3 else if k = 14 then c4 else c5, ⟨hK, fun k q hq => ?_⟩, fun w hw => ?_, ho, ha⟩
  · match k, hq with
    | 0, hq => cases hq; exact q0
    | 1, hq => cases hq; exact q1
    | 2, hq => cases hq; exact q2
    | 3, hq => cases hq; exact q3
    | 4, hq => cases hq; exact q4
    | 5, hq => cases hq; exact q5
    | k + 6, hq => simp [ab_tys] at hq
  · have h := List.all_eq_true.mp lw_NWs w hw
    rw [Bool.and_eq_true, decide_eq_true_eq] at h
    exact va_Nw.of h.1 (hts w h.2)
def lw_tm (i : Nat) : Term := .string RX4 (ab_kIx.getD i 0)
def lw_tv (i : Nat) : Term := .field (lw_tm i) "java/lang/String" "value" "[B"
def lw_gn : List Cond := flatC (.and given_1 narrow_1)
theorem lw_t1 : ∀ i, i < 12 → Cond.exactly (lw_tm i) "java/lang/String" ∈ lw_gn := by decide +kernel
theorem lw_t2 : ∀ i, i < 12 → Cond.eq (.field (lw_tm i) "java/lang/String" "coder" "B") (.int 0) ∈ lw_gn := by decide +kernel
theorem lw_t3 : ∀ i, i < 12 → Cond.arrayOf (lw_tv i) .byte ∈ lw_gn := by decide +kernel
theorem lw_t4 : ∀ i, i < 12 → Cond.eq (.length (lw_tv i)) (.int (Int32.ofNat (ab_sL.getD i 0))) ∈ lw_gn := by decide +kernel
theorem lw_t5 : ∀ i, i < 12 → ∀ j, j < ab_sL.getD i 0 → Cond.eq (.elem (lw_tv i) (.int (Int32.ofNat j))) (.int ((ab_sB.getD i []).getD j 0)) ∈ lw_gn := by decide +kernel
theorem lw_t6 : ∀ i, i < 12 → ∀ j, j < 12 → i ≠ j → Cond.not (Cond.eq (lw_tm i) (lw_tm j)) ∈ lw_gn ∨ Cond.not (Cond.eq (lw_tm j) (lw_tm i)) ∈ lw_gn := by decide +kernel
theorem lw_t7 : ∀ i, i < 12 → Cond.stringRef RX4 (ab_kIx.getD i 0) (ab_sT i) ∈ lw_tbl := by decide +kernel
theorem lw_t8 : Cond.eq (.static "java/lang/String" "COMPACT_STRINGS" "Z") (.int 1) ∈ lw_gn ∧ Cond.isRef (.static "jdk/internal/util/Preconditions" "SIOOBE_FORMATTER" "Ljava/util/function/BiFunction;") ∈ lw_gn := by decide +kernel
theorem lw_t9 : ∀ i, i < 12 → ab_sL.getD i 0 < 2 ^ 31 := by decide
theorem lw_vkS {N : Nat} {len : List Nat} {byt : List (List Int32)} {adK adK' adV : Nat → Nat} {A : Nat → Prop} {U : State} {H : Heap} (he : ∀ i, i < N → adK' i = adK i) (h : vk_S N len byt adK adV A U H) : vk_S N len byt adK' adV A U H :=
  ⟨fun i hi => by rw [he i hi]; exact h.1 i hi, fun i j hi hj e => h.2 i j hi hj (by rw [← he i hi, ← he j hj]; exact e)⟩
theorem lw_STx (b : Nat) (xs : List Int32) (hX : va_X b xs.length (fun j => xs.getD j 0) s s.heap) (hbl : b < s.heap.size) (hts : ∀ w ∈ lw_tbl, w.before args s = true) (hgv : (Jvm.Cond.and given_1 narrow_1).before args s = true) : ∃ ad0 : Nat → Nat, ad0 2000 = b ∧ ab_ST (some xs) ad0 (fun q : Nat => s.heap.size ≤ q) s s.heap := by
  have hg : ∀ c ∈ lw_gn, c.before args s = true := flat_of_before _ hgv
  have hA : ∀ a : Nat, a < s.heap.size → ¬ (fun q : Nat => s.heap.size ≤ q) a := fun a h => Nat.not_le.mpr h
  obtain ⟨adK, adV, h1, h2⟩ := vk_Sof (args := args) (s := s) (N := 12) (tm := lw_tm) (len := ab_sL) (byt := ab_sB) (A := fun q : Nat => s.heap.size ≤ q) lw_t9 (fun i hi => hg _ (lw_t1 i hi)) (fun i hi => hg _ (lw_t2 i hi)) (fun i hi => hg _ (lw_t3 i hi)) (fun i hi => hg _ (lw_t4 i hi)) (fun i hi j hj => hg _ (lw_t5 i hi j hj)) (fun i j hi hj hij => (lw_t6 i hi j hj hij).imp (hg _) (hg _)) hA
  have he : ∀ i, i < 12 → (fun o : Nat => if o = 2000 then b else adK (o - 1000)) (1000 + i) = adK i := fun i hi => by
    show (if 1000 + i = 2000 then b else adK (1000 + i - 1000)) = adK i
    rw [if_neg (by omega), show 1000 + i - 1000 = i by omega]
  refine ⟨fun o => if o = 2000 then b else adK (o - 1000), rfl, ⟨adV, lw_vkS he h1⟩, fun i hi => ?_, ?_, ?_, fun xs' hx => by cases hx; exact ⟨b, rfl, hX, hbl, Nat.not_le.mpr hbl⟩⟩
  · rw [he i hi]
    exact vk_R.of (hts _ (lw_t7 i hi)) (h2 i hi)
  · exact va_Zof (hts (.laysStatic "java/lang/String" "COMPACT_STRINGS" "Z") (by decide +kernel)) (hts (.initialized "java/lang/String") (by decide +kernel)) (va_eqt (hg _ lw_t8.1)) hA
  · exact va_Zqof (hts (.laysStatic "jdk/internal/util/Preconditions" "SIOOBE_FORMATTER" "Ljava/util/function/BiFunction;") (by decide +kernel)) (hts (.initialized "jdk/internal/util/Preconditions") (by decide +kernel)) (hg _ lw_t8.2) hA
end LST
