/-- the texts that ldc loads: their places in the pool of the class 4, the texts, their bytes -/
def ab_kIx : List Nat := [150, 156, 158, 160, 162, 164, 166, 168, 170, 172, 174, 176]
def ab_sT (k : Nat) : String := ["num", "arg", "add", "mul", "neg", "less", "div", "phi", "goto", "if", "ret", "block"].getD k ""
def ab_sL : List Nat := [3, 3, 3, 3, 3, 4, 3, 3, 4, 2, 3, 5]
def ab_sB : List (List Int32) := [[110, 117, 109], [97, 114, 103], [97, 100, 100], [109, 117, 108], [110, 101, 103], [108, 101, 115, 115], [100, 105, 118], [112, 104, 105], [103, 111, 116, 111], [105, 102], [114, 101, 116], [98, 108, 111, 99, 107]]
def ab_kS (own i : Nat) : Option Nat := if own = 4 then ab_kIx.findIdx? (fun j => j == i) else none
theorem ab_kS_spec {own i k : Nat} (h : ab_kS own i = some k) : own = 4 ∧ k < 12 ∧ ab_kIx.getD k 0 = i := by
  unfold ab_kS at h
  split at h
  · rename_i ho
    obtain ⟨h1, h2, -⟩ := List.findIdx?_eq_some_iff_getElem.mp h
    have h3 : k < 12 := h1
    refine ⟨ho, h3, ?_⟩
    rw [List.getD_eq_getElem?_getD, List.getElem?_eq_getElem h1, Option.getD_some]
    exact of_decide_eq_true (by simpa using h2)
  · cases h
def ab_fl (own i : Nat) : Option (Nat × Nat) := (ab_flL.find? (fun e => e.1 == own && e.2.1 == i)).map (fun e => (e.2.2.1, e.2.2.2.1))
def ab_ml (own i : Nat) : Option (Nat × Nat) := (ab_mlL.find? (fun e => e.1 == own && e.2.1 == i)).map (fun e => (e.2.2.1, e.2.2.2.1))
def ab_kI (own i : Nat) : Option Int32 := (ab_kIL.find? (fun e => e.1 == own && e.2.1 == i)).map (fun e => e.2.2.1)
def ab_kL (own i : Nat) : Option Int64 := (ab_kLL.find? (fun e => e.1 == own && e.2.1 == i)).map (fun e => e.2.2.1)
def ab_nw (own i : Nat) : Option Nat := (ab_nwL.find? (fun e => e.1 == own && e.2.1 == i)).map (fun e => e.2.2.1)
/-- may this value stand in a field of this type -/
def ab_fit : FieldType → Value → Bool
  | .int, .int _ => true
  | .boolean, .int x => decide (x = 0) || decide (x = 1)
  | .long, .long _ => true
  | .object _, .ref _ => true
  | .array _, .ref _ => true
  | _, _ => false
def ab_rl (h : ab_H) (o : Nat) : Nat := ((h.1[o]?).map (fun x => x.2.2.length)).getD 0
def ab_rlok (h : ab_H) (o k : Nat) : Value → Bool
  | .ref _ => decide (k < ab_rl h o)
  | _ => true
def ab_lt (n : Nat) : Value → Bool
  | .ref r => decide (r < n)
  | _ => true
def ab_setv (h : ab_H) (o k : Nat) : Value → ab_H
  | .int x => ab_seti h o k x
  | .long x => ab_setl h o k x
  | .ref r => ab_setr h o k r
  | _ => h
def ab_cmp : Jvm.ClassFile.Cond → Int32 → Int32 → Bool
  | .eq, x, y => decide (x = y)
  | .ne, x, y => decide (¬ x = y)
  | .lt, x, y => decide (x < y)
  | .ge, x, y => decide (y ≤ x)
  | .gt, x, y => decide (y < x)
  | .le, x, y => decide (x ≤ y)
def ab_in (i : Int32) (n : Nat) : Bool := decide (0 ≤ i) && decide (i.toNatClampNeg < n)
def ab_cat (S : List Value) : Nat := (S.map (fun v => v.category)).sum
def ab_go (pc : Nat) (off : Int) (L : ab_L) (S : List Value) (h : ab_H) : ab_R := if 0 ≤ (pc : Int) + off then some (.inl (((pc : Int) + off).toNat, L, S, h)) else none
def ab_ref (h : ab_H) (o kd : Nat) : Bool := decide (o < ab_nx h) && decide (ab_kd h o = kd)
def ab_ret (ret : Option FieldType) : List Value → ab_H → ab_R
  | [.int v], h => match ret with | some ty => if narrow ty (.int v) = .int v then some (.inr (some (.int v), h)) else none | none => none
  | _, _ => none
def ab_call (call : Nat → List Value → ab_H → Option (Option Value × ab_H)) (mi : Nat) (args : List Value) (pc : Nat) (L : ab_L) (rest : List Value) (h : ab_H) : ab_R :=
  if ab_cat rest ≤ 8 then match call mi args h with
    | some (rv, h') => if (ab_nx h' = ab_nx h ∧ ab_sl h' = ab_sl h) ∨ (ab_nx h ≤ ab_nx h' ∧ ab_sl h ≤ ab_sl h' ∧ (L.all (fun v => (v.map (ab_ok (ab_nx h))).getD true) && rest.all (ab_ok (ab_nx h))) = true) then some (.inl (pc + 3, L, rv.toList ++ rest, h')) else none
    | none => none
  else none
def ab_own (mi : Nat) : Nat := ((ab_M[mi]?).map (fun q => q.1)).getD 99
def ab_np (mi : Nat) : Nat := ((ab_M[mi]?).map (fun q => q.2.2.2.2.2.1)).getD 0
def ab_rt (mi : Nat) : Option FieldType := ((ab_M[mi]?).map (fun q => q.2.2.2.2.1)).getD none
def ab_mxl (mi : Nat) : Nat := ((ab_M[mi]?).map (fun q => q.2.2.2.1)).getD 0
def ab_inv (call : Nat → List Value → ab_H → Option (Option Value × ab_H)) (own i : Nat) (virt : Bool) (pc : Nat) (L : ab_L) (S : List Value) (h : ab_H) : ab_R := match ab_ml own i with
  | some (mi, kd) =>
    if virt then
      if kd = 0 then match S.drop (ab_np mi) with
        | .ref b :: rest => if ab_ref h b (ab_own mi) && decide (ab_own mi < 8) && (S.take (ab_np mi)).all (ab_ok (ab_nx h)) then ab_call call mi (.ref b :: (S.take (ab_np mi)).reverse) pc L rest h else none
        | _ => none
      else if kd = 8 then match S with
        | .ref b :: rest => if 1000 ≤ b ∧ b < 1012 ∧ ab_cat rest ≤ 8 then some (.inl (pc + 3, L, .int (Int32.ofNat (ab_sL.getD (b - 1000) 0)) :: rest, h)) else none
        | _ => none
      else if kd = 9 then match S with
        | .int i :: .ref b :: rest => if 1000 ≤ b ∧ b < 1012 ∧ ab_in i (ab_sL.getD (b - 1000) 0) = true ∧ ab_cat rest ≤ 8 then some (.inl (pc + 3, L, .int ((ab_sB.getD (b - 1000) []).getD i.toNatClampNeg 0) :: rest, h)) else none
        | _ => none
      else none
    else if kd = 1 ∨ kd = 2 then (if ab_np mi ≤ S.length ∧ (S.take (ab_np mi)).all (ab_ok (ab_nx h)) = true then ab_call call mi (S.take (ab_np mi)).reverse pc L (S.drop (ab_np mi)) h else none)
    else if kd = 6 then match S with
      | .int n :: .int dp :: .ref a1 :: .int sp :: .ref a0 :: rest =>
        if ab_ref h a0 10 && ab_ref h a1 10 && decide (0 ≤ sp) && decide (0 ≤ dp) && decide (0 ≤ n) && decide (sp.toNatClampNeg + n.toNatClampNeg ≤ ab_ln h a0) && decide (dp.toNatClampNeg + n.toNatClampNeg ≤ ab_ln h a1) && decide (ab_cat rest ≤ 8) then
          some (.inl (pc + 3, L, rest, (h.1, (fun o => if o = a1 then va_cpy (h.2.1 a0) (h.2.1 a1) sp.toNatClampNeg dp.toNatClampNeg n.toNatClampNeg else h.2.1 o), h.2.2)))
        else none
      | _ => none
    else if kd = 7 then match S with
      | .int y :: .int x :: rest => if ab_cat rest ≤ 8 then some (.inl (pc + 3, L, .int (if x < y then y else x) :: rest, h)) else none
      | _ => none
    else none
  | none => none
def ab_spc (call : Nat → List Value → ab_H → Option (Option Value × ab_H)) (own i : Nat) (pc : Nat) (L : ab_L) (S : List Value) (h : ab_H) : ab_R := match ab_ml own i with
  | some (mi, kd) =>
    if kd = 5 then match S with
      | .ref _ :: rest => if ab_cat rest ≤ 8 then some (.inl (pc + 3, L, rest, h)) else none
      | _ => none
    else if kd = 3 ∨ kd = 4 then match S with
      | .ref b :: rest => if ab_np mi = 0 ∧ ab_ref h b (ab_own mi) = true ∧ ab_own mi < 8 then ab_call call mi [.ref b] pc L rest h else none
      | _ => none
    else none
  | none => none
def ab_newarr (ty : ArrayType) (n : Int32) (pc : Nat) (L : ab_L) (S : List Value) (h : ab_H) : ab_R :=
  if 0 ≤ n ∧ n.toNatClampNeg ≤ 1000 ∧ ab_nx h < 1000 ∧ (L.all (fun v => (v.map (ab_ok (ab_nx h))).getD true) && S.all (ab_ok (ab_nx h))) = true then
    (match ty with
      | .int => some (.inl (pc + 2, L, .ref (ab_nx h) :: S, ab_new h 10 n.toNatClampNeg []))
      | .long => some (.inl (pc + 2, L, .ref (ab_nx h) :: S, ab_new h 11 n.toNatClampNeg []))
      | .boolean => some (.inl (pc + 2, L, .ref (ab_nx h) :: S, ab_new h 12 n.toNatClampNeg []))
      | .byte => some (.inl (pc + 2, L, .ref (ab_nx h) :: S, ab_new h 13 n.toNatClampNeg []))
      | _ => none)
  else none
def ab_step (call : Nat → List Value → ab_H → Option (Option Value × ab_H)) (own : Nat) (ini : Bool) (ret : Option FieldType) (scr : Option (List Int32)) (ins : Instr) (len pc : Nat) (L : ab_L) (S : List Value) (h : ab_H) : ab_R := match ins with
  | .iconst n => some (.inl (pc + 1, L, .int (Int32.ofInt n) :: S, h))
  | .bipush n => some (.inl (pc + 2, L, .int (Int8.ofInt n).toInt32 :: S, h))
  | .sipush n => some (.inl (pc + 3, L, .int (Int16.ofInt n).toInt32 :: S, h))
  | .lconst n => some (.inl (pc + 1, L, .long (Int64.ofNat n) :: S, h))
  | .ldc i => match ab_kI own i with | some v => some (.inl (pc + 2, L, .int v :: S, h)) | none => match ab_kS own i with | some k => some (.inl (pc + 2, L, .ref (1000 + k) :: S, h)) | none => none
  | .ldc_w i => match ab_kI own i with | some v => some (.inl (pc + 3, L, .int v :: S, h)) | none => none
  | .ldc2_w i => match ab_kL own i with | some v => some (.inl (pc + 3, L, .long v :: S, h)) | none => none
  | .iload_n k => match L.getD k.val none with | some (.int x) => some (.inl (pc + 1, L, .int x :: S, h)) | _ => none
  | .iload k => match L.getD k none with | some (.int x) => some (.inl (pc + 2, L, .int x :: S, h)) | _ => none
  | .lload_n k => match L.getD k.val none with | some (.long x) => some (.inl (pc + 1, L, .long x :: S, h)) | _ => none
  | .lload k => match L.getD k none with | some (.long x) => some (.inl (pc + 2, L, .long x :: S, h)) | _ => none
  | .aload_n k => match L.getD k.val none with | some (.ref x) => some (.inl (pc + 1, L, .ref x :: S, h)) | _ => none
  | .aload k => match L.getD k none with | some (.ref x) => some (.inl (pc + 2, L, .ref x :: S, h)) | _ => none
  | .istore_n k => match S with | .int x :: S => if k.val < L.length then some (.inl (pc + 1, ab_put k.val (.int x) L, S, h)) else none | _ => none
  | .istore k => match S with | .int x :: S => if k < L.length then some (.inl (pc + 2, ab_put k (.int x) L, S, h)) else none | _ => none
  | .lstore_n k => match S with | .long x :: S => if k.val + 1 < L.length then some (.inl (pc + 1, ab_put k.val (.long x) L, S, h)) else none | _ => none
  | .lstore k => match S with | .long x :: S => if k + 1 < L.length then some (.inl (pc + 2, ab_put k (.long x) L, S, h)) else none | _ => none
  | .astore_n k => match S with | .ref x :: S => if k.val < L.length then some (.inl (pc + 1, ab_put k.val (.ref x) L, S, h)) else none | _ => none
  | .astore k => match S with | .ref x :: S => if k < L.length then some (.inl (pc + 2, ab_put k (.ref x) L, S, h)) else none | _ => none
  | .iinc k n => match L.getD k none with | some (.int x) => if k < L.length then some (.inl (pc + 3, ab_put k (.int (x + Int32.ofInt n)) L, S, h)) else none | _ => none
  | .iadd => match S with | .int y :: .int x :: S => some (.inl (pc + 1, L, .int (x + y) :: S, h)) | _ => none
  | .isub => match S with | .int y :: .int x :: S => some (.inl (pc + 1, L, .int (x - y) :: S, h)) | _ => none
  | .imul => match S with | .int y :: .int x :: S => some (.inl (pc + 1, L, .int (x * y) :: S, h)) | _ => none
  | .idiv => match S with | .int y :: .int x :: S => if y = 0 then none else some (.inl (pc + 1, L, .int (x / y) :: S, h)) | _ => none
  | .irem => match S with | .int y :: .int x :: S => if y = 0 then none else some (.inl (pc + 1, L, .int (x - x / y * y) :: S, h)) | _ => none
  | .iand => match S with | .int y :: .int x :: S => some (.inl (pc + 1, L, .int (x &&& y) :: S, h)) | _ => none
  | .ior => match S with | .int y :: .int x :: S => some (.inl (pc + 1, L, .int (x ||| y) :: S, h)) | _ => none
  | .ixor => match S with | .int y :: .int x :: S => some (.inl (pc + 1, L, .int (x ^^^ y) :: S, h)) | _ => none
  | .ishl => match S with | .int y :: .int x :: S => some (.inl (pc + 1, L, .int (x <<< (y &&& 31)) :: S, h)) | _ => none
  | .ishr => match S with | .int y :: .int x :: S => some (.inl (pc + 1, L, .int (x >>> (y &&& 31)) :: S, h)) | _ => none
  | .iushr => match S with | .int y :: .int x :: S => some (.inl (pc + 1, L, .int (x.toUInt32 >>> (y.toUInt32 &&& Int32.toUInt32 31)).toInt32 :: S, h)) | _ => none
  | .ladd => match S with | .long y :: .long x :: S => some (.inl (pc + 1, L, .long (x + y) :: S, h)) | _ => none
  | .lsub => match S with | .long y :: .long x :: S => some (.inl (pc + 1, L, .long (x - y) :: S, h)) | _ => none
  | .lmul => match S with | .long y :: .long x :: S => some (.inl (pc + 1, L, .long (x * y) :: S, h)) | _ => none
  | .ldiv => match S with | .long y :: .long x :: S => if y = 0 then none else some (.inl (pc + 1, L, .long (x / y) :: S, h)) | _ => none
  | .lshr => match S with | .int y :: .long x :: S => some (.inl (pc + 1, L, .long (x >>> (y.toInt64 &&& 63)) :: S, h)) | _ => none
  | .lneg => match S with | .long x :: S => some (.inl (pc + 1, L, .long (-x) :: S, h)) | _ => none
  | .lcmp => match S with | .long y :: .long x :: S => some (.inl (pc + 1, L, .int (lg_cmp x y) :: S, h)) | _ => none
  | .i2l => match S with | .int x :: S => some (.inl (pc + 1, L, .long x.toInt64 :: S, h)) | _ => none
  | .l2i => match S with | .long x :: S => some (.inl (pc + 1, L, .int x.toInt32 :: S, h)) | _ => none
  | .i2b => match S with | .int x :: S => some (.inl (pc + 1, L, .int x.toInt8.toInt32 :: S, h)) | _ => none
  | .i2s => match S with | .int x :: S => some (.inl (pc + 1, L, .int x.toInt16.toInt32 :: S, h)) | _ => none
  | .dup => match S with | v :: S => if v.category = 1 then some (.inl (pc + 1, L, v :: v :: S, h)) else none | _ => none
  | .dup2 => match S with | v :: w :: S => if v.category = 1 ∧ w.category = 1 then some (.inl (pc + 1, L, v :: w :: v :: w :: S, h)) else none | _ => none
  | .pop => match S with | v :: S => if v.category = 1 then some (.inl (pc + 1, L, S, h)) else none | _ => none
  | .pop2 => match S with | v :: S => if v.category = 2 then some (.inl (pc + 1, L, S, h)) else none | _ => none
  | .if_icmp c off => match S with | .int y :: .int x :: S => if 0 ≤ (pc : Int) + off then some (.inl (if ab_cmp c x y then ((pc : Int) + off).toNat else pc + 3, L, S, h)) else none | _ => none
  | .ifCond c off => match S with | .int x :: S => if 0 ≤ (pc : Int) + off then some (.inl (if ab_cmp c x 0 then ((pc : Int) + off).toNat else pc + 3, L, S, h)) else none | _ => none
  | .goto off => ab_go pc off L S h
  | .tableswitch dflt lo hi offs => match S with | .int x :: S => (if x.toInt < lo ∨ hi < x.toInt then ab_go pc dflt L S h else (match offs[(x.toInt - lo).toNat]? with | some off => ab_go pc off L S h | none => none)) | _ => none
  | .lookupswitch dflt ps => match S with | .int x :: S => if (ps.toList.zip (ps.toList.drop 1)).all (fun (a, next) => a.1 < next.1) = true then ab_go pc (Op.lookupswitch.offset ps.toList dflt x.toInt) L S h else none | _ => none
  | .getfield i => match ab_fl own i, S with | some (ci, k), .ref o :: S => if ab_ref h o ci && decide (k < ab_N ci) && decide (ci < 8) then some (.inl (pc + 3, L, ab_gv h o k (ab_ty ci k) :: S, h)) else none | _, _ => none
  | .putfield i => match ab_fl own i, S with | some (ci, k), v :: .ref o :: S => if ab_ref h o ci && decide (k < ab_N ci) && decide (ci < 8) && ab_fit (ab_ty ci k) v && ab_rlok h o k v && ab_lt (ab_nx h) v && (!(ab_T ci k).2.2.2 || (ini && decide (own = ci))) then some (.inl (pc + 3, L, S, ab_setv h o k v)) else none | _, _ => none
  | .iaload => match S with
    | .int i :: .ref o :: S => if o = 2000 then (match scr with | some xs => if ab_in i xs.length then some (.inl (pc + 1, L, .int (xs.getD i.toNatClampNeg 0) :: S, h)) else none | none => none)
      else if ab_ref h o 10 && ab_in i (ab_ln h o) then some (.inl (pc + 1, L, .int (h.2.1 o i.toNatClampNeg) :: S, h)) else none
    | _ => none
  | .baload => match S with | .int i :: .ref o :: S => if (ab_ref h o 12 || ab_ref h o 13) && ab_in i (ab_ln h o) then some (.inl (pc + 1, L, .int (h.2.1 o i.toNatClampNeg) :: S, h)) else none | _ => none
  | .laload => match S with | .int i :: .ref o :: S => if ab_ref h o 11 && ab_in i (ab_ln h o) then some (.inl (pc + 1, L, .long (h.2.2 o i.toNatClampNeg) :: S, h)) else none | _ => none
  | .aaload => match S with | .int i :: .ref o :: S => if (ab_ref h o 14 || ab_ref h o 15) && ab_in i (ab_ln h o) then some (.inl (pc + 1, L, va_rf (ab_rf h o i.toNatClampNeg) :: S, h)) else none | _ => none
  | .iastore => match S with | .int x :: .int i :: .ref o :: S => if ab_ref h o 10 && ab_in i (ab_ln h o) then some (.inl (pc + 1, L, S, ab_seti h o i.toNatClampNeg x)) else none | _ => none
  | .bastore => match S with | .int x :: .int i :: .ref o :: S => if (ab_ref h o 12 || ab_ref h o 13) && ab_in i (ab_ln h o) then some (.inl (pc + 1, L, S, ab_seti h o i.toNatClampNeg (if ab_kd h o = 12 then vp_nar .boolean x else vp_nar .byte x))) else none | _ => none
  | .lastore => match S with | .long x :: .int i :: .ref o :: S => if ab_ref h o 11 && ab_in i (ab_ln h o) then some (.inl (pc + 1, L, S, ab_setl h o i.toNatClampNeg x)) else none | _ => none
  | .aastore => match S with | .ref r :: .int i :: .ref o :: S => if ab_ref h o 15 && ab_ref h r 3 && ab_in i (ab_ln h o) && decide (i.toNatClampNeg < ab_rl h o) then some (.inl (pc + 1, L, S, ab_setr h o i.toNatClampNeg r)) else none | _ => none
  | .arraylength => match S with | .ref o :: S => (if o = 2000 then (match scr with | some xs => some (.inl (pc + 1, L, .int xs.length.toInt32 :: S, h)) | none => none) else none) | _ => none
  | .new i => match ab_nw own i with | some ci => if ci < 8 ∧ ab_nx h < 1000 ∧ (L.all (fun v => (v.map (ab_ok (ab_nx h))).getD true) && S.all (ab_ok (ab_nx h))) = true then some (.inl (pc + 3, L, .ref (ab_nx h) :: S, ab_new h ci (ab_N ci) (List.replicate (ab_N ci) none))) else none | none => none
  | .newarray ty => match S with | .int n :: S => ab_newarr ty n pc L S h | _ => none
  | .anewarray i => match ab_nw own i, S with
    | some ci, .int n :: S => if ci = 3 ∧ 0 ≤ n ∧ n.toNatClampNeg ≤ 1000 ∧ ab_nx h < 1000 ∧ (L.all (fun v => (v.map (ab_ok (ab_nx h))).getD true) && S.all (ab_ok (ab_nx h))) = true then some (.inl (pc + 3, L, .ref (ab_nx h) :: S, ab_new h 15 n.toNatClampNeg (List.replicate n.toNatClampNeg none))) else none
    | _, _ => none
  | .multianewarray i d => match S with
    | .int k :: .int n :: S => if d = 2 ∧ ((own = 3 ∧ i = 33) ∨ (own = 5 ∧ i = 18)) ∧ 0 ≤ n ∧ 0 ≤ k ∧ n.toNatClampNeg ≤ 1000 ∧ k.toNatClampNeg ≤ 1000 ∧ ab_nx h + n.toNatClampNeg < 1000 ∧ (L.all (fun v => (v.map (ab_ok (ab_nx h))).getD true) && S.all (ab_ok (ab_nx h))) = true then some (.inl (pc + 4, L, .ref (ab_nx h) :: S, ab_mna h n.toNatClampNeg k.toNatClampNeg)) else none
    | _ => none
  | .ireturn => ab_ret ret S h
  | .lreturn => match S with | [.long v] => if ret = some .long then some (.inr (some (.long v), h)) else none | _ => none
  | .return_ => match S with | [] => if ret = none then some (.inr (none, h)) else none | _ => none
  | .invokevirtual i => ab_inv call own i true pc L S h
  | .invokestatic i => ab_inv call own i false pc L S h
  | .invokespecial i => ab_spc call own i pc L S h
  | _ => none
def ab_loop (call : Nat → List Value → ab_H → Option (Option Value × ab_H)) (code : Nat → Option (Instr × Nat)) (own : Nat) (ini : Bool) (ret : Option FieldType) (scr : Option (List Int32)) : Nat → ab_F → Option (Option Value × ab_H)
  | 0, _ => none
  | n + 1, (pc, L, S, h) => match code pc with
    | some (ins, len) => match ab_step call own ini ret scr ins len pc L S h with
      | some (.inl st) => ab_loop call code own ini ret scr n st
      | some (.inr r) => some r
      | none => none
    | none => none
