/-! SOUNDNESS of a step of the abstract machine: what it does, the machine does. -/
def ab_lenok : Instr → Nat → Bool
  | .tableswitch _ _ _ _, _ => true
  | .lookupswitch _ _, _ => true
  | .bipush _, n => n == 2
  | .iload _, n => n == 2
  | .lload _, n => n == 2
  | .istore _, n => n == 2
  | .aload _, n => n == 2
  | .astore _, n => n == 2
  | .lstore _, n => n == 2
  | .ldc _, n => n == 2
  | .newarray _, n => n == 2
  | .sipush _, n => n == 3
  | .ldc_w _, n => n == 3
  | .ldc2_w _, n => n == 3
  | .iinc _ _, n => n == 3
  | .if_icmp _ _, n => n == 3
  | .ifCond _ _, n => n == 3
  | .goto _, n => n == 3
  | .getfield _, n => n == 3
  | .putfield _, n => n == 3
  | .invokevirtual _, n => n == 3
  | .invokestatic _, n => n == 3
  | .invokespecial _, n => n == 3
  | .new _, n => n == 3
  | .anewarray _, n => n == 3
  | .multianewarray _ _, n => n == 4
  | _, n => n == 1
def ab_AOA (U : State) : Prop := (Cond.arrayOver (.array .int)).before #[] U = true
def ab_EF (D : va_G) (y : Nat → ClassId) (U : State) : Prop := va_K D vwCl (ab_tys y) U ∧ (∀ w ∈ ab_NW, va_Nw w U) ∧ va_AO RX3 U ∧ ab_AOA U
def ab_fx (ad ad0 : Nat → Nat) (h0 h : ab_H) : Prop := (∀ o, o < ab_nx h0 ∨ 1000 ≤ o → ad o = ad0 o) ∧ (ab_nx h = ab_nx h0 → ad = ad0)
def ab_Sim (p : Program) (l : Launch) (e : Env) (R : Room) (s : State) (m : MethodId) (args : Array Value) (below : List Frame) (meth : Method) (c : Code) (Q : State → Prop) (A : Nat → Prop) (D : va_G) (y : Nat → ClassId) (nL : Nat) (ad0 : Nat → Nat) (h0 : ab_H) (F : ab_F) : Prop :=
  ∀ (ad : Nat → Nat) (H : Heap) (locs : List Loc) (ls : Array Slot), va_P D vwCl (ab_ws y ad F.2.2.2) H → va_D A (ab_ws y ad F.2.2.2) → va_S A s.heap H locs → ab_wf F.2.2.2 → lv_has ls nL (ab_le ad F.2.1) → F.2.1.length = nL → ab_fx ad ad0 h0 F.2.2.2 → ab_nx h0 ≤ ab_nx F.2.2.2 → ab_sl h0 ≤ ab_sl F.2.2.2 →
    W p l e R s m args below meth c H locs (ab_nx F.2.2.2 - ab_nx h0) (ab_sl F.2.2.2 - ab_sl h0) Q (F0 m F.1 ls (F.2.2.1.map (ab_cv ad)))
section ABS
variable {p : Program} {l : Launch} {e : Env} {R : Room} {s : State} {m : MethodId} {args : Array Value} {below : List Frame} {meth : Method} {c : Code} {Q : State → Prop} {A : Nat → Prop} {D : va_G} {y : Nat → ClassId} {nL : Nat} {ad0 : Nat → Nat} {h0 : ab_H} {cc : ByteArray} {pc : Nat} {L : ab_L} {S : List Value} {h : ab_H}
theorem ab_loc {ad : Nat → Nat} {ls : Array Slot} {i : Nat} {v : Value} (hl : lv_has ls nL (ab_le ad L)) (hv : L.getD i none = some v) : ls[i]? = some (.val (ab_cv ad v)) := hl.2.2 (i, ab_cv ad v) (ab_le_mem.mpr ⟨v, hv, rfl⟩)
theorem ab_in_vp {i : Int32} {n : Nat} (h : ab_in i n = true) : vp_in i n := by
  unfold ab_in at h
  rw [Bool.and_eq_true, decide_eq_true_eq, decide_eq_true_eq] at h
  intro z
  rcases z with z | z
  · exact absurd z (Int32.not_lt.mpr h.1)
  · omega
theorem ab_refs {o kd : Nat} (hr : ab_ref h o kd = true) : o < ab_nx h ∧ ab_kd h o = kd := by
  unfold ab_ref at hr
  rw [Bool.and_eq_true, decide_eq_true_eq, decide_eq_true_eq] at hr
  exact hr
theorem ab_tgt {off : Int} (h : 0 ≤ (pc : Int) + off) : (pc : Int) + off = ((((pc : Int) + off).toNat : Nat) : Int) := (Int.toNat_of_nonneg h).symm
theorem ab_goto_sim {off : Int} {F : ab_F} (hg : ab_go pc off L S h = some (.inl F)) : 0 ≤ (pc : Int) + off ∧ F = (((pc : Int) + off).toNat, L, S, h) := by
  unfold ab_go at hg
  split at hg
  · rename_i h0
    cases hg
    exact ⟨h0, rfl⟩
  · cases hg

theorem abs_iconst (hx : p.tables.exec = Jvm.exec) (hb : c.code = cc) {n : Int} (hd : decode cc pc = .ok (.iconst n, 1)) (k : ab_Sim p l e R s m args below meth c Q A D y nL ad0 h0 (pc + 1, L, .int (Int32.ofInt n) :: S, h)) : ab_Sim p l e R s m args below meth c Q A D y nL ad0 h0 (pc, L, S, h) := by
  intro ad H locs ls hP hD hS hw hl hlen hfix hn1 hn2
  exact lv_iconst hx hb hd rfl (k ad H locs ls hP hD hS hw hl hlen hfix hn1 hn2)

theorem abs_bipush (hx : p.tables.exec = Jvm.exec) (hb : c.code = cc) {n : Int} (hd : decode cc pc = .ok (.bipush n, 2)) (k : ab_Sim p l e R s m args below meth c Q A D y nL ad0 h0 (pc + 2, L, .int (Int8.ofInt n).toInt32 :: S, h)) : ab_Sim p l e R s m args below meth c Q A D y nL ad0 h0 (pc, L, S, h) := by
  intro ad H locs ls hP hD hS hw hl hlen hfix hn1 hn2
  exact lv_bipush hx hb hd rfl (k ad H locs ls hP hD hS hw hl hlen hfix hn1 hn2)

theorem abs_sipush (hx : p.tables.exec = Jvm.exec) (hb : c.code = cc) {n : Int} (hd : decode cc pc = .ok (.sipush n, 3)) (k : ab_Sim p l e R s m args below meth c Q A D y nL ad0 h0 (pc + 3, L, .int (Int16.ofInt n).toInt32 :: S, h)) : ab_Sim p l e R s m args below meth c Q A D y nL ad0 h0 (pc, L, S, h) := by
  intro ad H locs ls hP hD hS hw hl hlen hfix hn1 hn2
  exact lv_sipush hx hb hd rfl (k ad H locs ls hP hD hS hw hl hlen hfix hn1 hn2)

theorem abs_lconst (hx : p.tables.exec = Jvm.exec) (hb : c.code = cc) {n : Fin 2} (hd : decode cc pc = .ok (.lconst n, 1)) (k : ab_Sim p l e R s m args below meth c Q A D y nL ad0 h0 (pc + 1, L, .long (Int64.ofNat n) :: S, h)) : ab_Sim p l e R s m args below meth c Q A D y nL ad0 h0 (pc, L, S, h) := by
  intro ad H locs ls hP hD hS hw hl hlen hfix hn1 hn2
  exact lv_lconst hx hb hd rfl (k ad H locs ls hP hD hS hw hl hlen hfix hn1 hn2)

theorem abs_iload_n (hx : p.tables.exec = Jvm.exec) (hb : c.code = cc) {j : Fin 4} {x : Int32} (hv : L.getD j.val none = some (.int x)) (hd : decode cc pc = .ok (.iload_n j, 1)) (k : ab_Sim p l e R s m args below meth c Q A D y nL ad0 h0 (pc + 1, L, .int x :: S, h)) : ab_Sim p l e R s m args below meth c Q A D y nL ad0 h0 (pc, L, S, h) := by
  intro ad H locs ls hP hD hS hw hl hlen hfix hn1 hn2
  exact lv_iload_n hx hb hd rfl (ab_loc hl hv) (k ad H locs ls hP hD hS hw hl hlen hfix hn1 hn2)

theorem abs_iload (hx : p.tables.exec = Jvm.exec) (hb : c.code = cc) {j : Nat} {x : Int32} (hv : L.getD j none = some (.int x)) (hd : decode cc pc = .ok (.iload j, 2)) (k : ab_Sim p l e R s m args below meth c Q A D y nL ad0 h0 (pc + 2, L, .int x :: S, h)) : ab_Sim p l e R s m args below meth c Q A D y nL ad0 h0 (pc, L, S, h) := by
  intro ad H locs ls hP hD hS hw hl hlen hfix hn1 hn2
  exact lv_iload hx hb hd (ab_loc hl hv) (k ad H locs ls hP hD hS hw hl hlen hfix hn1 hn2)

theorem abs_lload_n (hx : p.tables.exec = Jvm.exec) (hb : c.code = cc) {j : Fin 4} {x : Int64} (hv : L.getD j.val none = some (.long x)) (hd : decode cc pc = .ok (.lload_n j, 1)) (k : ab_Sim p l e R s m args below meth c Q A D y nL ad0 h0 (pc + 1, L, .long x :: S, h)) : ab_Sim p l e R s m args below meth c Q A D y nL ad0 h0 (pc, L, S, h) := by
  intro ad H locs ls hP hD hS hw hl hlen hfix hn1 hn2
  exact lv_lload_n hx hb hd rfl (ab_loc hl hv) (k ad H locs ls hP hD hS hw hl hlen hfix hn1 hn2)

theorem abs_lload (hx : p.tables.exec = Jvm.exec) (hb : c.code = cc) {j : Nat} {x : Int64} (hv : L.getD j none = some (.long x)) (hd : decode cc pc = .ok (.lload j, 2)) (k : ab_Sim p l e R s m args below meth c Q A D y nL ad0 h0 (pc + 2, L, .long x :: S, h)) : ab_Sim p l e R s m args below meth c Q A D y nL ad0 h0 (pc, L, S, h) := by
  intro ad H locs ls hP hD hS hw hl hlen hfix hn1 hn2
  exact lv_lload hx hb hd (ab_loc hl hv) (k ad H locs ls hP hD hS hw hl hlen hfix hn1 hn2)

theorem abs_aload_n (hx : p.tables.exec = Jvm.exec) (hb : c.code = cc) {j : Fin 4} {x : Nat} (hv : L.getD j.val none = some (.ref x)) (hd : decode cc pc = .ok (.aload_n j, 1)) (k : ab_Sim p l e R s m args below meth c Q A D y nL ad0 h0 (pc + 1, L, .ref x :: S, h)) : ab_Sim p l e R s m args below meth c Q A D y nL ad0 h0 (pc, L, S, h) := by
  intro ad H locs ls hP hD hS hw hl hlen hfix hn1 hn2
  exact lv_aload_n hx hb hd rfl (ab_loc hl hv) (k ad H locs ls hP hD hS hw hl hlen hfix hn1 hn2)

theorem abs_istore_n (hx : p.tables.exec = Jvm.exec) (hb : c.code = cc) {j : Fin 4} {x : Int32} (hj : j.val < L.length) (hd : decode cc pc = .ok (.istore_n j, 1)) (k : ab_Sim p l e R s m args below meth c Q A D y nL ad0 h0 (pc + 1, ab_put j.val (.int x) L, S, h)) : ab_Sim p l e R s m args below meth c Q A D y nL ad0 h0 (pc, L, .int x :: S, h) := by
  intro ad H locs ls hP hD hS hw hl hlen hfix hn1 hn2
  have hl2 := fun (ls2 : Array Slot) (h2 : lv_has ls2 nL _) => ab_has_weak h2 (ab_put1 (ad := ad) (i := j.val) (v := .int x) (L := L) (by omega) rfl)
  refine lv_istore_n hx hb hd rfl hl (by rw [← hlen]; exact hj) rfl (fun ls2 h2 => ?_)
  exact k ad H locs ls2 hP hD hS hw (hl2 ls2 h2) ((ab_put_len _ _ _).trans hlen) hfix hn1 hn2

theorem abs_istore (hx : p.tables.exec = Jvm.exec) (hb : c.code = cc) {j : Nat} {x : Int32} (hj : j < L.length) (hd : decode cc pc = .ok (.istore j, 2)) (k : ab_Sim p l e R s m args below meth c Q A D y nL ad0 h0 (pc + 2, ab_put j (.int x) L, S, h)) : ab_Sim p l e R s m args below meth c Q A D y nL ad0 h0 (pc, L, .int x :: S, h) := by
  intro ad H locs ls hP hD hS hw hl hlen hfix hn1 hn2
  have hl2 := fun (ls2 : Array Slot) (h2 : lv_has ls2 nL _) => ab_has_weak h2 (ab_put1 (ad := ad) (i := j) (v := .int x) (L := L) (by omega) rfl)
  refine lv_istore hx hb hd  hl (by rw [← hlen]; exact hj) rfl (fun ls2 h2 => ?_)
  exact k ad H locs ls2 hP hD hS hw (hl2 ls2 h2) ((ab_put_len _ _ _).trans hlen) hfix hn1 hn2

theorem abs_lstore_n (hx : p.tables.exec = Jvm.exec) (hb : c.code = cc) {j : Fin 4} {x : Int64} (hj : j.val + 1 < L.length) (hd : decode cc pc = .ok (.lstore_n j, 1)) (k : ab_Sim p l e R s m args below meth c Q A D y nL ad0 h0 (pc + 1, ab_put j.val (.long x) L, S, h)) : ab_Sim p l e R s m args below meth c Q A D y nL ad0 h0 (pc, L, .long x :: S, h) := by
  intro ad H locs ls hP hD hS hw hl hlen hfix hn1 hn2
  have hl2 := fun (ls2 : Array Slot) (h2 : lv_has ls2 nL _) => ab_has_weak h2 (ab_put2 (ad := ad) (i := j.val) (v := .long x) (L := L) (by omega) rfl)
  refine lv_lstore_n hx hb hd rfl hl (by rw [← hlen]; exact hj) rfl (fun ls2 h2 => ?_)
  exact k ad H locs ls2 hP hD hS hw (hl2 ls2 h2) ((ab_put_len _ _ _).trans hlen) hfix hn1 hn2

theorem abs_lstore (hx : p.tables.exec = Jvm.exec) (hb : c.code = cc) {j : Nat} {x : Int64} (hj : j + 1 < L.length) (hd : decode cc pc = .ok (.lstore j, 2)) (k : ab_Sim p l e R s m args below meth c Q A D y nL ad0 h0 (pc + 2, ab_put j (.long x) L, S, h)) : ab_Sim p l e R s m args below meth c Q A D y nL ad0 h0 (pc, L, .long x :: S, h) := by
  intro ad H locs ls hP hD hS hw hl hlen hfix hn1 hn2
  have hl2 := fun (ls2 : Array Slot) (h2 : lv_has ls2 nL _) => ab_has_weak h2 (ab_put2 (ad := ad) (i := j) (v := .long x) (L := L) (by omega) rfl)
  refine lv_lstore hx hb hd  hl (by rw [← hlen]; exact hj) rfl (fun ls2 h2 => ?_)
  exact k ad H locs ls2 hP hD hS hw (hl2 ls2 h2) ((ab_put_len _ _ _).trans hlen) hfix hn1 hn2

theorem abs_astore_n (hx : p.tables.exec = Jvm.exec) (hb : c.code = cc) {j : Fin 4} {x : Nat} (hj : j.val < L.length) (hd : decode cc pc = .ok (.astore_n j, 1)) (k : ab_Sim p l e R s m args below meth c Q A D y nL ad0 h0 (pc + 1, ab_put j.val (.ref x) L, S, h)) : ab_Sim p l e R s m args below meth c Q A D y nL ad0 h0 (pc, L, .ref x :: S, h) := by
  intro ad H locs ls hP hD hS hw hl hlen hfix hn1 hn2
  have hl2 := fun (ls2 : Array Slot) (h2 : lv_has ls2 nL _) => ab_has_weak h2 (ab_put1 (ad := ad) (i := j.val) (v := .ref x) (L := L) (by omega) rfl)
  refine lv_astore_n hx hb hd rfl hl (by rw [← hlen]; exact hj) rfl (fun ls2 h2 => ?_)
  exact k ad H locs ls2 hP hD hS hw (hl2 ls2 h2) ((ab_put_len _ _ _).trans hlen) hfix hn1 hn2

theorem abs_aload (hx : p.tables.exec = Jvm.exec) (hb : c.code = cc) {j : Nat} {x : Nat} (hv : L.getD j none = some (.ref x)) (hd : decode cc pc = .ok (.aload j, 2)) (k : ab_Sim p l e R s m args below meth c Q A D y nL ad0 h0 (pc + 2, L, .ref x :: S, h)) : ab_Sim p l e R s m args below meth c Q A D y nL ad0 h0 (pc, L, S, h) := by
  intro ad H locs ls hP hD hS hw hl hlen hfix hn1 hn2
  exact lv_aload hx hb hd (ab_loc hl hv) (k ad H locs ls hP hD hS hw hl hlen hfix hn1 hn2)

theorem abs_astore (hx : p.tables.exec = Jvm.exec) (hb : c.code = cc) {j : Nat} {x : Nat} (hj : j < L.length) (hd : decode cc pc = .ok (.astore j, 2)) (k : ab_Sim p l e R s m args below meth c Q A D y nL ad0 h0 (pc + 2, ab_put j (.ref x) L, S, h)) : ab_Sim p l e R s m args below meth c Q A D y nL ad0 h0 (pc, L, .ref x :: S, h) := by
  intro ad H locs ls hP hD hS hw hl hlen hfix hn1 hn2
  have hl2 := fun (ls2 : Array Slot) (h2 : lv_has ls2 nL _) => ab_has_weak h2 (ab_put1 (ad := ad) (i := j) (v := .ref x) (L := L) (by omega) rfl)
  refine lv_astore hx hb hd  hl (by rw [← hlen]; exact hj) rfl (fun ls2 h2 => ?_)
  exact k ad H locs ls2 hP hD hS hw (hl2 ls2 h2) ((ab_put_len _ _ _).trans hlen) hfix hn1 hn2

theorem abs_idiv (hx : p.tables.exec = Jvm.exec) (hb : c.code = cc) {x z : Int32} (hne : ¬ z = 0) (hd : decode cc pc = .ok (.idiv, 1)) (k : ab_Sim p l e R s m args below meth c Q A D y nL ad0 h0 (pc + 1, L, .int (x / z) :: S, h)) : ab_Sim p l e R s m args below meth c Q A D y nL ad0 h0 (pc, L, .int z :: .int x :: S, h) := by
  intro ad H locs ls hP hD hS hw hl hlen hfix hn1 hn2
  exact lv_idiv hx hb hd hne (k ad H locs ls hP hD hS hw hl hlen hfix hn1 hn2)

theorem abs_lshr (hx : p.tables.exec = Jvm.exec) (hb : c.code = cc) {x : Int64} {z : Int32} (hd : decode cc pc = .ok (.lshr, 1)) (k : ab_Sim p l e R s m args below meth c Q A D y nL ad0 h0 (pc + 1, L, .long (x >>> (z.toInt64 &&& 63)) :: S, h)) : ab_Sim p l e R s m args below meth c Q A D y nL ad0 h0 (pc, L, .int z :: .long x :: S, h) := by
  intro ad H locs ls hP hD hS hw hl hlen hfix hn1 hn2
  exact lv_lshr hx hb hd rfl (k ad H locs ls hP hD hS hw hl hlen hfix hn1 hn2)

theorem abs_iinc (hx : p.tables.exec = Jvm.exec) (hb : c.code = cc) {j : Nat} {n : Int} {x : Int32} (hj : j < L.length) (hv : L.getD j none = some (.int x)) (hd : decode cc pc = .ok (.iinc j n, 3)) (k : ab_Sim p l e R s m args below meth c Q A D y nL ad0 h0 (pc + 3, ab_put j (.int (x + Int32.ofInt n)) L, S, h)) : ab_Sim p l e R s m args below meth c Q A D y nL ad0 h0 (pc, L, S, h) := by
  intro ad H locs ls hP hD hS hw hl hlen hfix hn1 hn2
  have hl2 := fun (ls2 : Array Slot) (h2 : lv_has ls2 nL _) => ab_has_weak h2 (ab_put1 (ad := ad) (i := j) (v := .int (x + Int32.ofInt n)) (L := L) hj rfl)
  obtain ⟨i0, hi0⟩ := List.getElem?_of_mem (ab_le_mem (ad := ad) (L := L) (q := (j, .int x)) |>.mpr ⟨.int x, hv, rfl⟩)
  refine lv_iinc (k := i0) hx hb hd hl hi0 rfl (by rw [← hlen]; exact hj) rfl (fun ls2 h2 => ?_)
  exact k ad H locs ls2 hP hD hS hw (hl2 ls2 h2) ((ab_put_len _ _ _).trans hlen) hfix hn1 hn2

theorem abs_iadd (hx : p.tables.exec = Jvm.exec) (hb : c.code = cc) {x z : Int32} (hd : decode cc pc = .ok (.iadd, 1)) (k : ab_Sim p l e R s m args below meth c Q A D y nL ad0 h0 (pc + 1, L, .int (x + z) :: S, h)) : ab_Sim p l e R s m args below meth c Q A D y nL ad0 h0 (pc, L, .int z :: .int x :: S, h) := by
  intro ad H locs ls hP hD hS hw hl hlen hfix hn1 hn2
  exact lv_iadd hx hb hd (k ad H locs ls hP hD hS hw hl hlen hfix hn1 hn2)

theorem abs_isub (hx : p.tables.exec = Jvm.exec) (hb : c.code = cc) {x z : Int32} (hd : decode cc pc = .ok (.isub, 1)) (k : ab_Sim p l e R s m args below meth c Q A D y nL ad0 h0 (pc + 1, L, .int (x - z) :: S, h)) : ab_Sim p l e R s m args below meth c Q A D y nL ad0 h0 (pc, L, .int z :: .int x :: S, h) := by
  intro ad H locs ls hP hD hS hw hl hlen hfix hn1 hn2
  exact lv_isub hx hb hd (k ad H locs ls hP hD hS hw hl hlen hfix hn1 hn2)

theorem abs_imul (hx : p.tables.exec = Jvm.exec) (hb : c.code = cc) {x z : Int32} (hd : decode cc pc = .ok (.imul, 1)) (k : ab_Sim p l e R s m args below meth c Q A D y nL ad0 h0 (pc + 1, L, .int (x * z) :: S, h)) : ab_Sim p l e R s m args below meth c Q A D y nL ad0 h0 (pc, L, .int z :: .int x :: S, h) := by
  intro ad H locs ls hP hD hS hw hl hlen hfix hn1 hn2
  exact lv_imul hx hb hd (k ad H locs ls hP hD hS hw hl hlen hfix hn1 hn2)

theorem abs_iand (hx : p.tables.exec = Jvm.exec) (hb : c.code = cc) {x z : Int32} (hd : decode cc pc = .ok (.iand, 1)) (k : ab_Sim p l e R s m args below meth c Q A D y nL ad0 h0 (pc + 1, L, .int (x &&& z) :: S, h)) : ab_Sim p l e R s m args below meth c Q A D y nL ad0 h0 (pc, L, .int z :: .int x :: S, h) := by
  intro ad H locs ls hP hD hS hw hl hlen hfix hn1 hn2
  exact lv_iand hx hb hd (k ad H locs ls hP hD hS hw hl hlen hfix hn1 hn2)

theorem abs_ior (hx : p.tables.exec = Jvm.exec) (hb : c.code = cc) {x z : Int32} (hd : decode cc pc = .ok (.ior, 1)) (k : ab_Sim p l e R s m args below meth c Q A D y nL ad0 h0 (pc + 1, L, .int (x ||| z) :: S, h)) : ab_Sim p l e R s m args below meth c Q A D y nL ad0 h0 (pc, L, .int z :: .int x :: S, h) := by
  intro ad H locs ls hP hD hS hw hl hlen hfix hn1 hn2
  exact lv_ior hx hb hd (k ad H locs ls hP hD hS hw hl hlen hfix hn1 hn2)

theorem abs_ixor (hx : p.tables.exec = Jvm.exec) (hb : c.code = cc) {x z : Int32} (hd : decode cc pc = .ok (.ixor, 1)) (k : ab_Sim p l e R s m args below meth c Q A D y nL ad0 h0 (pc + 1, L, .int (x ^^^ z) :: S, h)) : ab_Sim p l e R s m args below meth c Q A D y nL ad0 h0 (pc, L, .int z :: .int x :: S, h) := by
  intro ad H locs ls hP hD hS hw hl hlen hfix hn1 hn2
  exact lv_ixor hx hb hd (k ad H locs ls hP hD hS hw hl hlen hfix hn1 hn2)

theorem abs_ishl (hx : p.tables.exec = Jvm.exec) (hb : c.code = cc) {x z : Int32} (hd : decode cc pc = .ok (.ishl, 1)) (k : ab_Sim p l e R s m args below meth c Q A D y nL ad0 h0 (pc + 1, L, .int (x <<< (z &&& 31)) :: S, h)) : ab_Sim p l e R s m args below meth c Q A D y nL ad0 h0 (pc, L, .int z :: .int x :: S, h) := by
  intro ad H locs ls hP hD hS hw hl hlen hfix hn1 hn2
  exact lv_ishl hx hb hd (k ad H locs ls hP hD hS hw hl hlen hfix hn1 hn2)

theorem abs_ishr (hx : p.tables.exec = Jvm.exec) (hb : c.code = cc) {x z : Int32} (hd : decode cc pc = .ok (.ishr, 1)) (k : ab_Sim p l e R s m args below meth c Q A D y nL ad0 h0 (pc + 1, L, .int (x >>> (z &&& 31)) :: S, h)) : ab_Sim p l e R s m args below meth c Q A D y nL ad0 h0 (pc, L, .int z :: .int x :: S, h) := by
  intro ad H locs ls hP hD hS hw hl hlen hfix hn1 hn2
  exact lv_ishr hx hb hd (k ad H locs ls hP hD hS hw hl hlen hfix hn1 hn2)

theorem abs_iushr (hx : p.tables.exec = Jvm.exec) (hb : c.code = cc) {x z : Int32} (hd : decode cc pc = .ok (.iushr, 1)) (k : ab_Sim p l e R s m args below meth c Q A D y nL ad0 h0 (pc + 1, L, .int (x.toUInt32 >>> (z.toUInt32 &&& Int32.toUInt32 31)).toInt32 :: S, h)) : ab_Sim p l e R s m args below meth c Q A D y nL ad0 h0 (pc, L, .int z :: .int x :: S, h) := by
  intro ad H locs ls hP hD hS hw hl hlen hfix hn1 hn2
  exact lv_iushr hx hb hd rfl (k ad H locs ls hP hD hS hw hl hlen hfix hn1 hn2)

theorem abs_irem (hx : p.tables.exec = Jvm.exec) (hb : c.code = cc) {x z : Int32} (hne : ¬ z = 0) (hd : decode cc pc = .ok (.irem, 1)) (k : ab_Sim p l e R s m args below meth c Q A D y nL ad0 h0 (pc + 1, L, .int (x - x / z * z) :: S, h)) : ab_Sim p l e R s m args below meth c Q A D y nL ad0 h0 (pc, L, .int z :: .int x :: S, h) := by
  intro ad H locs ls hP hD hS hw hl hlen hfix hn1 hn2
  exact lv_irem hx hb hd hne (k ad H locs ls hP hD hS hw hl hlen hfix hn1 hn2)

theorem abs_ladd (hx : p.tables.exec = Jvm.exec) (hb : c.code = cc) {x z : Int64} (hd : decode cc pc = .ok (.ladd, 1)) (k : ab_Sim p l e R s m args below meth c Q A D y nL ad0 h0 (pc + 1, L, .long (x + z) :: S, h)) : ab_Sim p l e R s m args below meth c Q A D y nL ad0 h0 (pc, L, .long z :: .long x :: S, h) := by
  intro ad H locs ls hP hD hS hw hl hlen hfix hn1 hn2
  exact lv_ladd hx hb hd (k ad H locs ls hP hD hS hw hl hlen hfix hn1 hn2)

theorem abs_lsub (hx : p.tables.exec = Jvm.exec) (hb : c.code = cc) {x z : Int64} (hd : decode cc pc = .ok (.lsub, 1)) (k : ab_Sim p l e R s m args below meth c Q A D y nL ad0 h0 (pc + 1, L, .long (x - z) :: S, h)) : ab_Sim p l e R s m args below meth c Q A D y nL ad0 h0 (pc, L, .long z :: .long x :: S, h) := by
  intro ad H locs ls hP hD hS hw hl hlen hfix hn1 hn2
  exact lv_lsub hx hb hd (k ad H locs ls hP hD hS hw hl hlen hfix hn1 hn2)

theorem abs_lmul (hx : p.tables.exec = Jvm.exec) (hb : c.code = cc) {x z : Int64} (hd : decode cc pc = .ok (.lmul, 1)) (k : ab_Sim p l e R s m args below meth c Q A D y nL ad0 h0 (pc + 1, L, .long (x * z) :: S, h)) : ab_Sim p l e R s m args below meth c Q A D y nL ad0 h0 (pc, L, .long z :: .long x :: S, h) := by
  intro ad H locs ls hP hD hS hw hl hlen hfix hn1 hn2
  exact lv_lmul hx hb hd (k ad H locs ls hP hD hS hw hl hlen hfix hn1 hn2)

theorem abs_ldiv (hx : p.tables.exec = Jvm.exec) (hb : c.code = cc) {x z : Int64} (hne : ¬ z = 0) (hd : decode cc pc = .ok (.ldiv, 1)) (k : ab_Sim p l e R s m args below meth c Q A D y nL ad0 h0 (pc + 1, L, .long (x / z) :: S, h)) : ab_Sim p l e R s m args below meth c Q A D y nL ad0 h0 (pc, L, .long z :: .long x :: S, h) := by
  intro ad H locs ls hP hD hS hw hl hlen hfix hn1 hn2
  exact lv_ldiv hx hb hd hne (k ad H locs ls hP hD hS hw hl hlen hfix hn1 hn2)

theorem abs_lneg (hx : p.tables.exec = Jvm.exec) (hb : c.code = cc) {x : Int64} (hd : decode cc pc = .ok (.lneg, 1)) (k : ab_Sim p l e R s m args below meth c Q A D y nL ad0 h0 (pc + 1, L, .long (-x) :: S, h)) : ab_Sim p l e R s m args below meth c Q A D y nL ad0 h0 (pc, L, .long x :: S, h) := by
  intro ad H locs ls hP hD hS hw hl hlen hfix hn1 hn2
  exact lv_lneg hx hb hd (k ad H locs ls hP hD hS hw hl hlen hfix hn1 hn2)

theorem abs_lcmp (hx : p.tables.exec = Jvm.exec) (hb : c.code = cc) {x z : Int64} (hd : decode cc pc = .ok (.lcmp, 1)) (k : ab_Sim p l e R s m args below meth c Q A D y nL ad0 h0 (pc + 1, L, .int (lg_cmp x z) :: S, h)) : ab_Sim p l e R s m args below meth c Q A D y nL ad0 h0 (pc, L, .long z :: .long x :: S, h) := by
  intro ad H locs ls hP hD hS hw hl hlen hfix hn1 hn2
  exact W.lcmp hx hb hd (k ad H locs ls hP hD hS hw hl hlen hfix hn1 hn2)

theorem abs_i2l (hx : p.tables.exec = Jvm.exec) (hb : c.code = cc) {x : Int32} (hd : decode cc pc = .ok (.i2l, 1)) (k : ab_Sim p l e R s m args below meth c Q A D y nL ad0 h0 (pc + 1, L, .long (x.toInt64) :: S, h)) : ab_Sim p l e R s m args below meth c Q A D y nL ad0 h0 (pc, L, .int x :: S, h) := by
  intro ad H locs ls hP hD hS hw hl hlen hfix hn1 hn2
  exact lv_i2l hx hb hd rfl (k ad H locs ls hP hD hS hw hl hlen hfix hn1 hn2)

theorem abs_l2i (hx : p.tables.exec = Jvm.exec) (hb : c.code = cc) {x : Int64} (hd : decode cc pc = .ok (.l2i, 1)) (k : ab_Sim p l e R s m args below meth c Q A D y nL ad0 h0 (pc + 1, L, .int (x.toInt32) :: S, h)) : ab_Sim p l e R s m args below meth c Q A D y nL ad0 h0 (pc, L, .long x :: S, h) := by
  intro ad H locs ls hP hD hS hw hl hlen hfix hn1 hn2
  exact lv_l2i hx hb hd rfl (k ad H locs ls hP hD hS hw hl hlen hfix hn1 hn2)

theorem abs_i2b (hx : p.tables.exec = Jvm.exec) (hb : c.code = cc) {x : Int32} (hd : decode cc pc = .ok (.i2b, 1)) (k : ab_Sim p l e R s m args below meth c Q A D y nL ad0 h0 (pc + 1, L, .int (x.toInt8.toInt32) :: S, h)) : ab_Sim p l e R s m args below meth c Q A D y nL ad0 h0 (pc, L, .int x :: S, h) := by
  intro ad H locs ls hP hD hS hw hl hlen hfix hn1 hn2
  exact lv_i2b hx hb hd rfl (k ad H locs ls hP hD hS hw hl hlen hfix hn1 hn2)

theorem abs_i2s (hx : p.tables.exec = Jvm.exec) (hb : c.code = cc) {x : Int32} (hd : decode cc pc = .ok (.i2s, 1)) (k : ab_Sim p l e R s m args below meth c Q A D y nL ad0 h0 (pc + 1, L, .int (x.toInt16.toInt32) :: S, h)) : ab_Sim p l e R s m args below meth c Q A D y nL ad0 h0 (pc, L, .int x :: S, h) := by
  intro ad H locs ls hP hD hS hw hl hlen hfix hn1 hn2
  exact lv_i2s hx hb hd rfl (k ad H locs ls hP hD hS hw hl hlen hfix hn1 hn2)

theorem abs_dup (hx : p.tables.exec = Jvm.exec) (hb : c.code = cc) {v : Value} (hc : v.category = 1) (hd : decode cc pc = .ok (.dup, 1)) (k : ab_Sim p l e R s m args below meth c Q A D y nL ad0 h0 (pc + 1, L, v :: v :: S, h)) : ab_Sim p l e R s m args below meth c Q A D y nL ad0 h0 (pc, L, v :: S, h) := by
  intro ad H locs ls hP hD hS hw hl hlen hfix hn1 hn2
  exact lv_dup hx hb hd ((ab_cv_cat ad v).trans hc) (k ad H locs ls hP hD hS hw hl hlen hfix hn1 hn2)

theorem abs_dup2 (hx : p.tables.exec = Jvm.exec) (hb : c.code = cc) {v w : Value} (hc : v.category = 1) (hc2 : w.category = 1) (hd : decode cc pc = .ok (.dup2, 1)) (k : ab_Sim p l e R s m args below meth c Q A D y nL ad0 h0 (pc + 1, L, v :: w :: v :: w :: S, h)) : ab_Sim p l e R s m args below meth c Q A D y nL ad0 h0 (pc, L, v :: w :: S, h) := by
  intro ad H locs ls hP hD hS hw hl hlen hfix hn1 hn2
  exact lv_dup2_11 hx hb hd ((ab_cv_cat ad v).trans hc) ((ab_cv_cat ad w).trans hc2) (k ad H locs ls hP hD hS hw hl hlen hfix hn1 hn2)

theorem abs_pop (hx : p.tables.exec = Jvm.exec) (hb : c.code = cc) {v : Value} (hc : v.category = 1) (hd : decode cc pc = .ok (.pop, 1)) (k : ab_Sim p l e R s m args below meth c Q A D y nL ad0 h0 (pc + 1, L, S, h)) : ab_Sim p l e R s m args below meth c Q A D y nL ad0 h0 (pc, L, v :: S, h) := by
  intro ad H locs ls hP hD hS hw hl hlen hfix hn1 hn2
  exact lv_pop hx hb hd ((ab_cv_cat ad v).trans hc) (k ad H locs ls hP hD hS hw hl hlen hfix hn1 hn2)

theorem abs_pop2 (hx : p.tables.exec = Jvm.exec) (hb : c.code = cc) {v : Value} (hc : v.category = 2) (hd : decode cc pc = .ok (.pop2, 1)) (k : ab_Sim p l e R s m args below meth c Q A D y nL ad0 h0 (pc + 1, L, S, h)) : ab_Sim p l e R s m args below meth c Q A D y nL ad0 h0 (pc, L, v :: S, h) := by
  intro ad H locs ls hP hD hS hw hl hlen hfix hn1 hn2
  exact lv_pop2_2 hx hb hd ((ab_cv_cat ad v).trans hc) (k ad H locs ls hP hD hS hw hl hlen hfix hn1 hn2)

theorem abs_icmp (hx : p.tables.exec = Jvm.exec) (hb : c.code = cc) {x z : Int32} {o : Jvm.ClassFile.Cond} {off : Int} (hd : decode cc pc = .ok (.if_icmp o off, 3)) (g1 : 0 ≤ (pc : Int) + off) (k : ab_Sim p l e R s m args below meth c Q A D y nL ad0 h0 (if ab_cmp o x z then ((pc : Int) + off).toNat else pc + 3, L, S, h)) : ab_Sim p l e R s m args below meth c Q A D y nL ad0 h0 (pc, L, .int z :: .int x :: S, h) := by
  intro ad H locs ls hP hD hS hw hl hlen hfix hn1 hn2
  have k2 := k ad H locs ls hP hD hS hw hl hlen hfix hn1 hn2
  cases o
  · exact lv_icmp_eq hx hb hd (ab_tgt g1) (fun q => by first | (rw [if_pos (by simpa [ab_cmp] using q)] at k2; exact k2)) (fun q => by first | (rw [if_neg (by simpa [ab_cmp] using q)] at k2; exact k2))
  · exact lv_icmp_ne hx hb hd (ab_tgt g1) (fun q => by first | (rw [if_pos (by simpa [ab_cmp] using q)] at k2; exact k2)) (fun q => by first | (rw [if_neg (by simpa [ab_cmp] using q)] at k2; exact k2))
  · exact lv_icmp_lt hx hb hd (ab_tgt g1) (fun q => by first | (rw [if_pos (by simpa [ab_cmp] using q)] at k2; exact k2)) (fun q => by first | (rw [if_neg (by simpa [ab_cmp] using q)] at k2; exact k2))
  · exact lv_icmp_ge hx hb hd (ab_tgt g1) (fun q => by first | (rw [if_pos (by simpa [ab_cmp] using q)] at k2; exact k2)) (fun q => by first | (rw [if_neg (by simpa [ab_cmp] using q)] at k2; exact k2))
  · exact lv_icmp_gt hx hb hd (ab_tgt g1) (fun q => by first | (rw [if_pos (by simpa [ab_cmp] using q)] at k2; exact k2)) (fun q => by first | (rw [if_neg (by simpa [ab_cmp] using q)] at k2; exact k2))
  · exact lv_icmp_le hx hb hd (ab_tgt g1) (fun q => by first | (rw [if_pos (by simpa [ab_cmp] using q)] at k2; exact k2)) (fun q => by first | (rw [if_neg (by simpa [ab_cmp] using q)] at k2; exact k2))

theorem abs_ifc (hx : p.tables.exec = Jvm.exec) (hb : c.code = cc) {x : Int32} {o : Jvm.ClassFile.Cond} {off : Int} (hd : decode cc pc = .ok (.ifCond o off, 3)) (g1 : 0 ≤ (pc : Int) + off) (k : ab_Sim p l e R s m args below meth c Q A D y nL ad0 h0 (if ab_cmp o x 0 then ((pc : Int) + off).toNat else pc + 3, L, S, h)) : ab_Sim p l e R s m args below meth c Q A D y nL ad0 h0 (pc, L, .int x :: S, h) := by
  intro ad H locs ls hP hD hS hw hl hlen hfix hn1 hn2
  have k2 := k ad H locs ls hP hD hS hw hl hlen hfix hn1 hn2
  cases o
  · exact lv_if_eq hx hb hd (ab_tgt g1) (fun q => by first | (rw [if_pos (by simpa [ab_cmp] using q)] at k2; exact k2)) (fun q => by first | (rw [if_neg (by simpa [ab_cmp] using q)] at k2; exact k2))
  · exact lv_if_ne hx hb hd (ab_tgt g1) (fun q => by first | (rw [if_pos (by simpa [ab_cmp] using q)] at k2; exact k2)) (fun q => by first | (rw [if_neg (by simpa [ab_cmp] using q)] at k2; exact k2))
  · exact lv_if_lt hx hb hd (ab_tgt g1) (fun q => by first | (rw [if_pos (by simpa [ab_cmp] using q)] at k2; exact k2)) (fun q => by first | (rw [if_neg (by simpa [ab_cmp] using q)] at k2; exact k2))
  · exact lv_if_ge hx hb hd (ab_tgt g1) (fun q => by first | (rw [if_pos (by simpa [ab_cmp] using q)] at k2; exact k2)) (fun q => by first | (rw [if_neg (by simpa [ab_cmp] using q)] at k2; exact k2))
  · exact lv_if_gt hx hb hd (ab_tgt g1) (fun q => by first | (rw [if_pos (by simpa [ab_cmp] using q)] at k2; exact k2)) (fun q => by first | (rw [if_neg (by simpa [ab_cmp] using q)] at k2; exact k2))
  · exact lv_if_le hx hb hd (ab_tgt g1) (fun q => by first | (rw [if_pos (by simpa [ab_cmp] using q)] at k2; exact k2)) (fun q => by first | (rw [if_neg (by simpa [ab_cmp] using q)] at k2; exact k2))

theorem abs_goto (hx : p.tables.exec = Jvm.exec) (hb : c.code = cc) {off : Int} {F : ab_F} (hd : decode cc pc = .ok (.goto off, 3)) (hs : ab_go pc off L S h = some (.inl F)) (k : ab_Sim p l e R s m args below meth c Q A D y nL ad0 h0 F) : ab_Sim p l e R s m args below meth c Q A D y nL ad0 h0 (pc, L, S, h) := by
  obtain ⟨g1, rfl⟩ := ab_goto_sim hs
  intro ad H locs ls hP hD hS hw hl hlen hfix hn1 hn2
  exact lv_goto hx hb hd (ab_tgt g1) (k ad H locs ls hP hD hS hw hl hlen hfix hn1 hn2)

theorem abs_tbl (hx : p.tables.exec = Jvm.exec) (hb : c.code = cc) {x : Int32} {dflt lo hi : Int} {offs : Array Int} {len : Nat} {F : ab_F} (hd : decode cc pc = .ok (.tableswitch dflt lo hi offs, len)) (hs : (if x.toInt < lo ∨ hi < x.toInt then ab_go pc dflt L S h else match offs[(x.toInt - lo).toNat]? with | some off => ab_go pc off L S h | none => none) = some (.inl F)) (k : ab_Sim p l e R s m args below meth c Q A D y nL ad0 h0 F) : ab_Sim p l e R s m args below meth c Q A D y nL ad0 h0 (pc, L, .int x :: S, h) := by
  intro ad H locs ls hP hD hS hw hl hlen hfix hn1 hn2
  split at hs
  · rename_i hc
    obtain ⟨g1, rfl⟩ := ab_goto_sim hs
    exact lv_tableOut hx hb hd hc (ab_tgt g1) (k ad H locs ls hP hD hS hw hl hlen hfix hn1 hn2)
  · rename_i hc
    split at hs
    · rename_i off ho
      obtain ⟨g1, rfl⟩ := ab_goto_sim hs
      exact lv_tableIn hx hb hd (fun q => hc (Or.inl q)) (fun q => hc (Or.inr q)) ho (ab_tgt g1) (k ad H locs ls hP hD hS hw hl hlen hfix hn1 hn2)
    · cases hs

theorem abs_lks (hx : p.tables.exec = Jvm.exec) (hb : c.code = cc) {x : Int32} {dflt : Int} {ps : Array (Int × Int)} {len : Nat} {F : ab_F} (hd : decode cc pc = .ok (.lookupswitch dflt ps, len)) (hp : (ps.toList.zip (ps.toList.drop 1)).all (fun (a, next) => a.1 < next.1) = true) (hs : ab_go pc (Op.lookupswitch.offset ps.toList dflt x.toInt) L S h = some (.inl F)) (k : ab_Sim p l e R s m args below meth c Q A D y nL ad0 h0 F) : ab_Sim p l e R s m args below meth c Q A D y nL ad0 h0 (pc, L, .int x :: S, h) := by
  intro ad H locs ls hP hD hS hw hl hlen hfix hn1 hn2
  obtain ⟨g1, rfl⟩ := ab_goto_sim hs
  exact lv_lookup hx hb hd hp rfl (ab_tgt g1) (k ad H locs ls hP hD hS hw hl hlen hfix hn1 hn2)

theorem ab_find {α : Type} {f : α → Bool} {l : List α} {x : α} (h : l.find? f = some x) {g : α → Bool} (hg : l.all g = true) : f x = true ∧ g x = true := ⟨List.find?_some h, List.all_eq_true.mp hg x (List.mem_of_find?_eq_some h)⟩
theorem ab_fl_spec {own i ci k : Nat} (h : ab_fl own i = some (ci, k)) : Cond.fieldLink (ab_C own) i (ab_T ci k).1 (ab_T ci k).2.1 (ab_T ci k).2.2.1 ∈ ab_BIG := by
  unfold ab_fl at h
  rw [Option.map_eq_some_iff] at h
  obtain ⟨e, h1, h2⟩ := h
  obtain ⟨q1, q2⟩ := ab_find h1 ab_flL_ok
  obtain ⟨a, b, x, z, w⟩ := e
  simp only [Bool.and_eq_true, beq_iff_eq] at q1
  cases h2
  obtain ⟨rfl, rfl⟩ := q1
  exact ab_has_mem q2
theorem ab_kI_spec {own i : Nat} {v : Int32} (h : ab_kI own i = some v) : Cond.constant (ab_C own) i v ∈ ab_BIG := by
  unfold ab_kI at h
  rw [Option.map_eq_some_iff] at h
  obtain ⟨e, h1, h2⟩ := h
  obtain ⟨q1, q2⟩ := ab_find h1 ab_kIL_ok
  obtain ⟨a, b, x, w⟩ := e
  simp only [Bool.and_eq_true, beq_iff_eq] at q1
  cases h2
  obtain ⟨rfl, rfl⟩ := q1
  exact ab_has_mem q2
theorem ab_kL_spec {own i : Nat} {v : Int64} (h : ab_kL own i = some v) : Cond.constantLong (ab_C own) i v ∈ ab_BIG := by
  unfold ab_kL at h
  rw [Option.map_eq_some_iff] at h
  obtain ⟨e, h1, h2⟩ := h
  obtain ⟨q1, q2⟩ := ab_find h1 ab_kLL_ok
  obtain ⟨a, b, x, w⟩ := e
  simp only [Bool.and_eq_true, beq_iff_eq] at q1
  cases h2
  obtain ⟨rfl, rfl⟩ := q1
  exact ab_has_mem q2
theorem ab_nw_spec {own i ci : Nat} (h : ab_nw own i = some ci) : Cond.classLink (ab_C own) i (ab_C ci) ∈ ab_BIG ∧ Cond.instantiable (ab_C ci) (ab_N ci) ∈ ab_BIG ∧ Cond.initialized (ab_C ci) ∈ ab_BIG := by
  unfold ab_nw at h
  rw [Option.map_eq_some_iff] at h
  obtain ⟨e, h1, h2⟩ := h
  obtain ⟨q1, q2⟩ := ab_find h1 ab_nwL_ok
  obtain ⟨a, b, x, w, w2, w3⟩ := e
  simp only [Bool.and_eq_true, beq_iff_eq] at q1 q2
  cases h2
  obtain ⟨rfl, rfl⟩ := q1
  exact ⟨ab_has_mem q2.1.1, ab_has_mem q2.1.2, ab_has_mem q2.2⟩
theorem ab_cls_nm (ci : Nat) (hci : ci < 8) : ∀ a, a < ab_N ci → ∀ b, b < ab_N ci → a ≠ b → (ab_T ci a).2.1 ≠ (ab_T ci b).2.1 := by
  rcases (show ci = 0 ∨ ci = 1 ∨ ci = 2 ∨ ci = 3 ∨ ci = 4 ∨ ci = 5 ∨ ci = 6 ∨ ci = 7 by omega) with h | h | h | h | h | h | h | h <;> subst h
  · exact nmX0
  · exact nmX1
  · exact nmX2
  · exact nmX3
  · exact nmX4
  · exact nmX5
  · exact nmX6
  · exact nmX7
theorem ab_cls_ty (ci : Nat) (hci : ci < 8) : ∀ k, k < ab_N ci → parseFieldDescriptor (ab_T ci k).2.2.1 = some (ab_ty ci k) := by
  rcases (show ci = 0 ∨ ci = 1 ∨ ci = 2 ∨ ci = 3 ∨ ci = 4 ∨ ci = 5 ∨ ci = 6 ∨ ci = 7 by omega) with h | h | h | h | h | h | h | h <;> subst h
  · exact tyX0_ok
  · exact tyX1_ok
  · exact tyX2_ok
  · exact tyX3_ok
  · exact tyX4_ok
  · exact tyX5_ok
  · exact tyX6_ok
  · exact tyX7_ok
theorem ab_cell_obj {ad : Nat → Nat} {o ci : Nat} (hk : ab_kd h o = ci) (hci : ci < 8) : ab_cell y ad h o = .inr (ci, (List.range (ab_N ci)).map (fun k => ab_cv ad (ab_gv h o k (ab_ty ci k)))) := by
  unfold ab_cell
  rw [hk, if_pos hci]
theorem ab_cell_arr {ad : Nat → Nat} {o kd : Nat} (hk : ab_kd h o = kd) (h9 : 9 ≤ kd) (h11 : kd ≠ 11) (h14 : kd ≠ 14) (h15 : kd ≠ 15) : ab_cell y ad h o = .inl (y kd, ab_ln h o, .inl (h.2.1 o)) := by
  unfold ab_cell
  rw [hk, if_neg (by omega), if_neg h11, if_neg (by omega)]
theorem ab_cell_lng {ad : Nat → Nat} {o : Nat} (hk : ab_kd h o = 11) : ab_cell y ad h o = .inl (y 11, ab_ln h o, .inr (.inl (h.2.2 o))) := by
  unfold ab_cell
  rw [hk, if_neg (by omega), if_pos rfl]
theorem ab_cell_rfs {ad : Nat → Nat} {o kd : Nat} (hk : ab_kd h o = kd) (h1 : kd = 14 ∨ kd = 15) : ab_cell y ad h o = .inl (y kd, ab_ln h o, .inr (.inr (.inr (.inr (fun i => (ab_rf h o i).map ad))))) := by
  unfold ab_cell
  rw [hk, if_neg (by omega), if_neg (by omega), if_pos h1]
theorem ab_rf_cv (ad : Nat → Nat) (r : Option Nat) : va_rf (r.map ad) = ab_cv ad (va_rf r) := by
  cases r <;> rfl
theorem abs_getf (hx : p.tables.exec = Jvm.exec) (hb : c.code = cc) {own i o ci k : Nat} (hown : s.vm.findClass (ab_C own) = some m.cls) (hts : ∀ w ∈ ab_BIG, w.before args s = true) (hE : ab_EF D y s) (hf : ab_fl own i = some (ci, k)) (hr : ab_ref h o ci = true) (hk : k < ab_N ci) (hci : ci < 8) (hd : decode cc pc = .ok (.getfield i, 3)) (k1 : ab_Sim p l e R s m args below meth c Q A D y nL ad0 h0 (pc + 3, L, ab_gv h o k (ab_ty ci k) :: S, h)) : ab_Sim p l e R s m args below meth c Q A D y nL ad0 h0 (pc, L, .ref o :: S, h) := by
  obtain ⟨ho, hkd⟩ := ab_refs hr
  intro ad H locs ls hP hD hS hw hl hlen hfix hn1 hn2
  refine va_get (C := ab_C ci) (T := ab_T ci) (N := ab_N ci) (ci := ci) hx hb (fun w h => hts w h) (ab_cls_in ci hci) hown hE.1 hP o (fs := (List.range (ab_N ci)).map (fun k => ab_cv ad (ab_gv h o k (ab_ty ci k)))) ?_ (ab_cls ci hci) k hk (hts _ (ab_fl_spec hf)) (fun _ q => q) ?_ hd (k1 ad H locs ls hP hD hS hw hl hlen hfix hn1 hn2)
  · rw [ab_ws_get ho, ab_cell_obj hkd hci]
  · rw [List.getElem?_map, List.getElem?_range hk]
    rfl

theorem abs_iaload (hx : p.tables.exec = Jvm.exec) (hb : c.code = cc) {o : Nat} {i : Int32} (hE : ab_EF D y s) (hr : ab_ref h o 10 = true) (hi : ab_in i (ab_ln h o) = true) (hd : decode cc pc = .ok (.iaload, 1)) (k1 : ab_Sim p l e R s m args below meth c Q A D y nL ad0 h0 (pc + 1, L, .int (h.2.1 o i.toNatClampNeg) :: S, h)) : ab_Sim p l e R s m args below meth c Q A D y nL ad0 h0 (pc, L, .int i :: .ref o :: S, h) := by
  obtain ⟨ho, hkd⟩ := ab_refs hr
  intro ad H locs ls hP hD hS hw hl hlen hfix hn1 hn2
  exact va_iald hx hb hE.1 hP o 0 (by rw [ab_ws_get ho, ab_cell_arr hkd (by omega) (by omega) (by omega) (by omega)]) rfl (ab_in_vp hi) hd (k1 ad H locs ls hP hD hS hw hl hlen hfix hn1 hn2)

theorem abs_baload_z (hx : p.tables.exec = Jvm.exec) (hb : c.code = cc) {o : Nat} {i : Int32} (hE : ab_EF D y s) (hr : ab_ref h o 12 = true) (hi : ab_in i (ab_ln h o) = true) (hd : decode cc pc = .ok (.baload, 1)) (k1 : ab_Sim p l e R s m args below meth c Q A D y nL ad0 h0 (pc + 1, L, .int (h.2.1 o i.toNatClampNeg) :: S, h)) : ab_Sim p l e R s m args below meth c Q A D y nL ad0 h0 (pc, L, .int i :: .ref o :: S, h) := by
  obtain ⟨ho, hkd⟩ := ab_refs hr
  intro ad H locs ls hP hD hS hw hl hlen hfix hn1 hn2
  exact va_zald hx hb hE.1 hP o 2 (by rw [ab_ws_get ho, ab_cell_arr hkd (by omega) (by omega) (by omega) (by omega)]) rfl (ab_in_vp hi) hd (k1 ad H locs ls hP hD hS hw hl hlen hfix hn1 hn2)

theorem abs_baload_b (hx : p.tables.exec = Jvm.exec) (hb : c.code = cc) {o : Nat} {i : Int32} (hE : ab_EF D y s) (hr : ab_ref h o 13 = true) (hi : ab_in i (ab_ln h o) = true) (hd : decode cc pc = .ok (.baload, 1)) (k1 : ab_Sim p l e R s m args below meth c Q A D y nL ad0 h0 (pc + 1, L, .int (h.2.1 o i.toNatClampNeg) :: S, h)) : ab_Sim p l e R s m args below meth c Q A D y nL ad0 h0 (pc, L, .int i :: .ref o :: S, h) := by
  obtain ⟨ho, hkd⟩ := ab_refs hr
  intro ad H locs ls hP hD hS hw hl hlen hfix hn1 hn2
  exact va_bald hx hb hE.1 hP o 3 (by rw [ab_ws_get ho, ab_cell_arr hkd (by omega) (by omega) (by omega) (by omega)]) rfl (ab_in_vp hi) hd (k1 ad H locs ls hP hD hS hw hl hlen hfix hn1 hn2)

theorem abs_laload (hx : p.tables.exec = Jvm.exec) (hb : c.code = cc) {o : Nat} {i : Int32} (hE : ab_EF D y s) (hr : ab_ref h o 11 = true) (hi : ab_in i (ab_ln h o) = true) (hd : decode cc pc = .ok (.laload, 1)) (k1 : ab_Sim p l e R s m args below meth c Q A D y nL ad0 h0 (pc + 1, L, .long (h.2.2 o i.toNatClampNeg) :: S, h)) : ab_Sim p l e R s m args below meth c Q A D y nL ad0 h0 (pc, L, .int i :: .ref o :: S, h) := by
  obtain ⟨ho, hkd⟩ := ab_refs hr
  intro ad H locs ls hP hD hS hw hl hlen hfix hn1 hn2
  exact va_lald hx hb hE.1 hP o 1 (by rw [ab_ws_get ho, ab_cell_lng hkd]) rfl (ab_in_vp hi) hd (k1 ad H locs ls hP hD hS hw hl hlen hfix hn1 hn2)

theorem ab_seti_ws {ad : Nat → Nat} {o kd i : Nat} {x : Int32} (ho : o < ab_nx h) (hk : ab_kd h o = kd) (h9 : 9 ≤ kd) (h11 : kd ≠ 11) (h14 : kd ≠ 14) (h15 : kd ≠ 15) : (ab_ws y ad h).set o (ad o, .inl (y kd, ab_ln h o, .inl (upd (h.2.1 o) i x))) = ab_ws y ad (ab_seti h o i x) := by
  refine ab_ws_set rfl ?_ (fun q hq => ab_cell_seti hq)
  rw [ab_cell_arr (h := ab_seti h o i x) (kd := kd) hk h9 h11 h14 h15]
  show _ = Sum.inl (y kd, ab_ln h o, Sum.inl (upd (h.2.1 o) i x))
  rw [show (ab_seti h o i x).2.1 o = upd (h.2.1 o) i x from ab_up_same _ _ _ _]
  rfl
theorem ab_setl_ws {ad : Nat → Nat} {o i : Nat} {x : Int64} (ho : o < ab_nx h) (hk : ab_kd h o = 11) : (ab_ws y ad h).set o (ad o, .inl (y 11, ab_ln h o, .inr (.inl (vp_updL (h.2.2 o) i x)))) = ab_ws y ad (ab_setl h o i x) := by
  refine ab_ws_set rfl ?_ (fun q hq => ab_cell_setl hq)
  rw [ab_cell_lng (h := ab_setl h o i x) hk]
  show _ = Sum.inl (y 11, ab_ln h o, Sum.inr (Sum.inl (vp_updL (h.2.2 o) i x)))
  rw [show (ab_setl h o i x).2.2 o = vp_updL (h.2.2 o) i x from ab_up_same _ _ _ _]
  rfl

theorem abs_iastore (hx : p.tables.exec = Jvm.exec) (hb : c.code = cc) {o : Nat} {i : Int32} {x : Int32} (hE : ab_EF D y s) (hr : ab_ref h o 10 = true) (hi : ab_in i (ab_ln h o) = true) (hd : decode cc pc = .ok (.iastore, 1)) (k1 : ab_Sim p l e R s m args below meth c Q A D y nL ad0 h0 (pc + 1, L, S, ab_seti h o i.toNatClampNeg x)) : ab_Sim p l e R s m args below meth c Q A D y nL ad0 h0 (pc, L, .int x :: .int i :: .ref o :: S, h) := by
  obtain ⟨ho, hkd⟩ := ab_refs hr
  intro ad H locs ls hP hD hS hw hl hlen hfix hn1 hn2
  refine va_iast hx hb hE.1 hP hD hS o 0 (by rw [ab_ws_get ho, ab_cell_arr hkd (by omega) (by omega) (by omega) (by omega)]) rfl (ab_in_vp hi) hd (fun H1 locs1 hP1 hD1 hS1 => ?_)
  rw [ab_seti_ws ho hkd (by omega) (by omega) (by omega) (by omega)] at hP1 hD1
  exact k1 ad H1 locs1 ls hP1 hD1 hS1 hw hl hlen hfix hn1 hn2

theorem abs_bastore_z (hx : p.tables.exec = Jvm.exec) (hb : c.code = cc) {o : Nat} {i : Int32} {x : Int32} (hE : ab_EF D y s) (hr : ab_ref h o 12 = true) (hi : ab_in i (ab_ln h o) = true) (hd : decode cc pc = .ok (.bastore, 1)) (k1 : ab_Sim p l e R s m args below meth c Q A D y nL ad0 h0 (pc + 1, L, S, ab_seti h o i.toNatClampNeg (vp_nar .boolean x))) : ab_Sim p l e R s m args below meth c Q A D y nL ad0 h0 (pc, L, .int x :: .int i :: .ref o :: S, h) := by
  obtain ⟨ho, hkd⟩ := ab_refs hr
  intro ad H locs ls hP hD hS hw hl hlen hfix hn1 hn2
  refine va_zast hx hb hE.1 hP hD hS o 2 (by rw [ab_ws_get ho, ab_cell_arr hkd (by omega) (by omega) (by omega) (by omega)]) rfl (ab_in_vp hi) hd (fun H1 locs1 hP1 hD1 hS1 => ?_)
  rw [ab_seti_ws ho hkd (by omega) (by omega) (by omega) (by omega)] at hP1 hD1
  exact k1 ad H1 locs1 ls hP1 hD1 hS1 hw hl hlen hfix hn1 hn2

theorem abs_bastore_b (hx : p.tables.exec = Jvm.exec) (hb : c.code = cc) {o : Nat} {i : Int32} {x : Int32} (hE : ab_EF D y s) (hr : ab_ref h o 13 = true) (hi : ab_in i (ab_ln h o) = true) (hd : decode cc pc = .ok (.bastore, 1)) (k1 : ab_Sim p l e R s m args below meth c Q A D y nL ad0 h0 (pc + 1, L, S, ab_seti h o i.toNatClampNeg (vp_nar .byte x))) : ab_Sim p l e R s m args below meth c Q A D y nL ad0 h0 (pc, L, .int x :: .int i :: .ref o :: S, h) := by
  obtain ⟨ho, hkd⟩ := ab_refs hr
  intro ad H locs ls hP hD hS hw hl hlen hfix hn1 hn2
  refine va_bast hx hb hE.1 hP hD hS o 3 (by rw [ab_ws_get ho, ab_cell_arr hkd (by omega) (by omega) (by omega) (by omega)]) rfl (ab_in_vp hi) hd (fun H1 locs1 hP1 hD1 hS1 => ?_)
  rw [ab_seti_ws ho hkd (by omega) (by omega) (by omega) (by omega)] at hP1 hD1
  exact k1 ad H1 locs1 ls hP1 hD1 hS1 hw hl hlen hfix hn1 hn2

theorem abs_lastore (hx : p.tables.exec = Jvm.exec) (hb : c.code = cc) {o : Nat} {i : Int32} {x : Int64} (hE : ab_EF D y s) (hr : ab_ref h o 11 = true) (hi : ab_in i (ab_ln h o) = true) (hd : decode cc pc = .ok (.lastore, 1)) (k1 : ab_Sim p l e R s m args below meth c Q A D y nL ad0 h0 (pc + 1, L, S, ab_setl h o i.toNatClampNeg x)) : ab_Sim p l e R s m args below meth c Q A D y nL ad0 h0 (pc, L, .long x :: .int i :: .ref o :: S, h) := by
  obtain ⟨ho, hkd⟩ := ab_refs hr
  intro ad H locs ls hP hD hS hw hl hlen hfix hn1 hn2
  refine va_last hx hb hE.1 hP hD hS o 1 (by rw [ab_ws_get ho, ab_cell_lng hkd]) rfl (ab_in_vp hi) hd (fun H1 locs1 hP1 hD1 hS1 => ?_)
  rw [ab_setl_ws ho hkd] at hP1 hD1
  exact k1 ad H1 locs1 ls hP1 hD1 hS1 hw hl hlen hfix hn1 hn2

end ABS
