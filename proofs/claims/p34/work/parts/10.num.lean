/-! NUMBERS: all whole numbers as nI of a natural one; calls over the fixed shape -/
theorem q_le {a b : Nat} (ha : a < 2147483648) (hb : b < 2147483648) : (nI a ≤ nI b) = (a ≤ b) := propext (nI_leI ha hb)
theorem q_lt {a b : Nat} (ha : a < 2147483648) (hb : b < 2147483648) : (nI a < nI b) = (a < b) := propext (nI_ltI ha hb)
theorem q_eq {a b : Nat} (ha : a < 2147483648) (hb : b < 2147483648) : (nI a = nI b) = (a = b) := propext (nI_eq ha hb)
theorem n_leT {a b : Nat} (h : a ≤ b) : (a ≤ b) = True := eq_true h
theorem n_leF {a b : Nat} (h : b < a) : (a ≤ b) = False := eq_false (by omega)
theorem n_ltT {a b : Nat} (h : a < b) : (a < b) = True := eq_true h
theorem n_ltF {a b : Nat} (h : b ≤ a) : (a < b) = False := eq_false (by omega)
theorem n_eqT {a b : Nat} (h : a = b) : (a = b) = True := eq_true h
theorem n_eqF {a b : Nat} (h : a < b ∨ b < a) : (a = b) = False := eq_false (by omega)
theorem q_in {a N : Nat} (h : a < N) (hN : N < 2147483648) : ab_in (nI a) N = true := by
  unfold ab_in
  rw [nI_clamp (by omega), decide_eq_true (nI_pos' (by omega)), decide_eq_true h]
  rfl
theorem q_cl {a : Nat} (h : a < 2147483648) : (nI a).toNatClampNeg = a := nI_clamp h
theorem q_m4 {a : Nat} (h : a < 2147483648) : (nI a = -4) = False := by
  apply eq_false
  intro z
  have := congrArg Int32.toInt z
  rw [nI_toInt h] at this
  have e : (-4 : Int32).toInt = -4 := by decide
  omega
theorem q_m4' {a : Nat} (h : a < 2147483648) : (-4 = nI a) = False := by
  apply eq_false
  intro z
  have := q_m4 h
  exact (Eq.mp this z.symm)
theorem q_mul (a b : Nat) : nI a * nI b = nI (a * b) := pk_mul a b
theorem q_add (a b : Nat) : nI a + nI b = nI (a + b) := nI_add a b
theorem q_sub {a b : Nat} (h : b ≤ a) : nI a - nI b = nI (a - b) := pk_sub h
theorem q_lsb (a i : Nat) (hi : i < 32) : (nI a).toBitVec.getLsbD i = a.testBit i := by
  show (BitVec.ofNat 32 a).getLsbD i = _
  rw [BitVec.getLsbD_ofNat, decide_eq_true hi, Bool.true_and]
theorem q_or (a b : Nat) : nI a ||| nI b = nI (a ||| b) := by
  apply Int32.toBitVec_inj.1
  show BitVec.ofNat 32 a ||| BitVec.ofNat 32 b = BitVec.ofNat 32 (a ||| b)
  apply BitVec.eq_of_getLsbD_eq
  intro i hi
  simp [hi]
theorem q_and (a b : Nat) : nI a &&& nI b = nI (a &&& b) := by
  apply Int32.toBitVec_inj.1
  show BitVec.ofNat 32 a &&& BitVec.ofNat 32 b = BitVec.ofNat 32 (a &&& b)
  apply BitVec.eq_of_getLsbD_eq
  intro i hi
  simp [hi]
theorem q_xor (a b : Nat) : nI a ^^^ nI b = nI (a ^^^ b) := by
  apply Int32.toBitVec_inj.1
  show BitVec.ofNat 32 a ^^^ BitVec.ofNat 32 b = BitVec.ofNat 32 (a ^^^ b)
  apply BitVec.eq_of_getLsbD_eq
  intro i hi
  simp [hi]
theorem q_sh : ∀ n, n < 32 → ((nI n &&& 31).toBitVec.smod 32).toNat = n := by decide +kernel
theorem q_shl {a n : Nat} (hn : n < 32) : nI a <<< (nI n &&& 31) = nI (a <<< n) := by
  apply Int32.toBitVec_inj.1
  rw [Int32.toBitVec_shiftLeft]
  show BitVec.ofNat 32 a <<< ((nI n &&& 31).toBitVec.smod 32).toNat = BitVec.ofNat 32 (a <<< n)
  rw [q_sh n hn]
  apply BitVec.eq_of_getLsbD_eq
  intro i hi
  rw [BitVec.getLsbD_shiftLeft, BitVec.getLsbD_ofNat, BitVec.getLsbD_ofNat, Nat.testBit_shiftLeft]
  rcases Nat.lt_or_ge i n with h | h
  · simp [h, hi, Nat.not_le.mpr h]
  · have : i - n < 32 := by omega
    simp [hi, h, this, Nat.not_lt.mpr h]
theorem q_sshr {a n : Nat} (ha : a < 2147483648) (hn : n < 32) : nI a >>> (nI n &&& 31) = nI (a >>> n) := by
  rw [pk_shrN ha (nI n &&& 31) n (q_sh n hn), Nat.shiftRight_eq_div_pow]
/-- a bit -/
theorem q_hb {a n : Nat} (ha : a < 2147483648) (hn : n < 32) : (nI a >>> (nI n &&& 31) &&& nI 1 = nI 0) = (a.testBit n = false) := by
  rw [q_sshr ha hn, q_and]
  have h1 : a >>> n &&& 1 = (a.testBit n).toNat := by
    rw [Nat.testBit, Nat.and_comm]
    have : 1 &&& a >>> n = (a >>> n) % 2 := by rw [Nat.and_comm]; exact Nat.and_one_is_mod _
    rw [this]
    rcases Nat.mod_two_eq_zero_or_one (a >>> n) with h | h <;> simp [h]
  rw [h1]
  cases a.testBit n <;> simp [nI_eq]
theorem q_bd (a b : Nat) : nI a &&& (nI b ^^^ -1) = nI (a &&& (a ^^^ b)) := by
  apply Int32.toBitVec_inj.1
  show BitVec.ofNat 32 a &&& (BitVec.ofNat 32 b ^^^ (-1 : Int32).toBitVec) = BitVec.ofNat 32 (a &&& (a ^^^ b))
  apply BitVec.eq_of_getLsbD_eq
  intro i hi
  have h1 : (-1 : Int32).toBitVec.getLsbD i = true := (by decide : ∀ i, i < 32 → (-1 : Int32).toBitVec.getLsbD i = true) i hi
  rw [BitVec.getLsbD_and, BitVec.getLsbD_xor, h1, BitVec.getLsbD_ofNat, BitVec.getLsbD_ofNat, BitVec.getLsbD_ofNat, Nat.testBit_and, Nat.testBit_xor, decide_eq_true hi]
  cases a.testBit i <;> cases b.testBit i <;> rfl
theorem q_b0 (c : Bool) : (nI c.toNat = nI 0) = (c = false) := by
  cases c
  · exact propext ⟨fun _ => rfl, fun _ => rfl⟩
  · exact propext ⟨fun z => absurd z (by decide), fun z => by cases z⟩
theorem n_b0 (c : Bool) : (c.toNat = 0) = (c = false) := by cases c <;> simp
theorem bt_lt (c : Bool) : c.toNat < 2147483648 := by cases c <;> decide
theorem q_bI (c : Prop) [Decidable c] : nI (decide c).toNat = if c then nI 1 else nI 0 := by
  by_cases h : c <;> simp [h]

theorem kc_0 : Int32.ofInt 0 = nI 0 := by decide
theorem kc_1 : Int32.ofInt 1 = nI 1 := by decide
theorem kc_2 : Int32.ofInt 2 = nI 2 := by decide
theorem kc_3 : Int32.ofInt 3 = nI 3 := by decide
theorem kc_4 : Int32.ofInt 4 = nI 4 := by decide
theorem kc_5 : Int32.ofInt 5 = nI 5 := by decide
theorem kc_m1 : Int32.ofInt (-1) = -1 := by decide
theorem kb_m14 : (Int8.ofInt (-14)).toInt32 = -14 := by decide
theorem kb_m12 : (Int8.ofInt (-12)).toInt32 = -12 := by decide
theorem kb_m11 : (Int8.ofInt (-11)).toInt32 = -11 := by decide
theorem kb_m10 : (Int8.ofInt (-10)).toInt32 = -10 := by decide
theorem kb_m4 : (Int8.ofInt (-4)).toInt32 = -4 := by decide
theorem kb_m3 : (Int8.ofInt (-3)).toInt32 = -3 := by decide
theorem kb_m2 : (Int8.ofInt (-2)).toInt32 = -2 := by decide
theorem kb_6 : (Int8.ofInt (6)).toInt32 = nI 6 := by decide
theorem kb_7 : (Int8.ofInt (7)).toInt32 = nI 7 := by decide
theorem kb_8 : (Int8.ofInt (8)).toInt32 = nI 8 := by decide
theorem kb_9 : (Int8.ofInt (9)).toInt32 = nI 9 := by decide
theorem kb_10 : (Int8.ofInt (10)).toInt32 = nI 10 := by decide
theorem kb_11 : (Int8.ofInt (11)).toInt32 = nI 11 := by decide
theorem kb_12 : (Int8.ofInt (12)).toInt32 = nI 12 := by decide
theorem kb_13 : (Int8.ofInt (13)).toInt32 = nI 13 := by decide
theorem kb_14 : (Int8.ofInt (14)).toInt32 = nI 14 := by decide
theorem kb_15 : (Int8.ofInt (15)).toInt32 = nI 15 := by decide
theorem kb_16 : (Int8.ofInt (16)).toInt32 = nI 16 := by decide
theorem kb_17 : (Int8.ofInt (17)).toInt32 = nI 17 := by decide
theorem kb_18 : (Int8.ofInt (18)).toInt32 = nI 18 := by decide
theorem kb_19 : (Int8.ofInt (19)).toInt32 = nI 19 := by decide
theorem kb_20 : (Int8.ofInt (20)).toInt32 = nI 20 := by decide
theorem kb_21 : (Int8.ofInt (21)).toInt32 = nI 21 := by decide
theorem kb_22 : (Int8.ofInt (22)).toInt32 = nI 22 := by decide
theorem kb_23 : (Int8.ofInt (23)).toInt32 = nI 23 := by decide
theorem kb_24 : (Int8.ofInt (24)).toInt32 = nI 24 := by decide
theorem kb_25 : (Int8.ofInt (25)).toInt32 = nI 25 := by decide
theorem kb_26 : (Int8.ofInt (26)).toInt32 = nI 26 := by decide
theorem kb_27 : (Int8.ofInt (27)).toInt32 = nI 27 := by decide
theorem kb_28 : (Int8.ofInt (28)).toInt32 = nI 28 := by decide
theorem kb_29 : (Int8.ofInt (29)).toInt32 = nI 29 := by decide
theorem kb_30 : (Int8.ofInt (30)).toInt32 = nI 30 := by decide
theorem kb_31 : (Int8.ofInt (31)).toInt32 = nI 31 := by decide
theorem kb_32 : (Int8.ofInt (32)).toInt32 = nI 32 := by decide
theorem kb_33 : (Int8.ofInt (33)).toInt32 = nI 33 := by decide
theorem kb_34 : (Int8.ofInt (34)).toInt32 = nI 34 := by decide
theorem kb_35 : (Int8.ofInt (35)).toInt32 = nI 35 := by decide
theorem kb_36 : (Int8.ofInt (36)).toInt32 = nI 36 := by decide
theorem kb_37 : (Int8.ofInt (37)).toInt32 = nI 37 := by decide
theorem kb_38 : (Int8.ofInt (38)).toInt32 = nI 38 := by decide
theorem kb_39 : (Int8.ofInt (39)).toInt32 = nI 39 := by decide
theorem kb_40 : (Int8.ofInt (40)).toInt32 = nI 40 := by decide
theorem kb_48 : (Int8.ofInt (48)).toInt32 = nI 48 := by decide
theorem kb_50 : (Int8.ofInt (50)).toInt32 = nI 50 := by decide
theorem kb_56 : (Int8.ofInt (56)).toInt32 = nI 56 := by decide
theorem kb_57 : (Int8.ofInt (57)).toInt32 = nI 57 := by decide
theorem kb_59 : (Int8.ofInt (59)).toInt32 = nI 59 := by decide
theorem kb_63 : (Int8.ofInt (63)).toInt32 = nI 63 := by decide
theorem kb_76 : (Int8.ofInt (76)).toInt32 = nI 76 := by decide
theorem kb_96 : (Int8.ofInt (96)).toInt32 = nI 96 := by decide
theorem kb_97 : (Int8.ofInt (97)).toInt32 = nI 97 := by decide
theorem kb_98 : (Int8.ofInt (98)).toInt32 = nI 98 := by decide
theorem kb_99 : (Int8.ofInt (99)).toInt32 = nI 99 := by decide
theorem kb_100 : (Int8.ofInt (100)).toInt32 = nI 100 := by decide
theorem kb_101 : (Int8.ofInt (101)).toInt32 = nI 101 := by decide
theorem kb_102 : (Int8.ofInt (102)).toInt32 = nI 102 := by decide
theorem kb_103 : (Int8.ofInt (103)).toInt32 = nI 103 := by decide
theorem kb_104 : (Int8.ofInt (104)).toInt32 = nI 104 := by decide
theorem kb_105 : (Int8.ofInt (105)).toInt32 = nI 105 := by decide
theorem kb_107 : (Int8.ofInt (107)).toInt32 = nI 107 := by decide
theorem kb_108 : (Int8.ofInt (108)).toInt32 = nI 108 := by decide
theorem kb_109 : (Int8.ofInt (109)).toInt32 = nI 109 := by decide
theorem kb_110 : (Int8.ofInt (110)).toInt32 = nI 110 := by decide
theorem kb_111 : (Int8.ofInt (111)).toInt32 = nI 111 := by decide
theorem kb_112 : (Int8.ofInt (112)).toInt32 = nI 112 := by decide
theorem kb_114 : (Int8.ofInt (114)).toInt32 = nI 114 := by decide
theorem kb_115 : (Int8.ofInt (115)).toInt32 = nI 115 := by decide
theorem kb_116 : (Int8.ofInt (116)).toInt32 = nI 116 := by decide
theorem kb_117 : (Int8.ofInt (117)).toInt32 = nI 117 := by decide
theorem kb_118 : (Int8.ofInt (118)).toInt32 = nI 118 := by decide
theorem kb_122 : (Int8.ofInt (122)).toInt32 = nI 122 := by decide
theorem kb_127 : (Int8.ofInt (127)).toInt32 = nI 127 := by decide
theorem ks_160 : (Int16.ofInt (160)).toInt32 = nI 160 := by decide
theorem ks_200 : (Int16.ofInt (200)).toInt32 = nI 200 := by decide
theorem ks_236 : (Int16.ofInt (236)).toInt32 = nI 236 := by decide
theorem ks_237 : (Int16.ofInt (237)).toInt32 = nI 237 := by decide
theorem ks_238 : (Int16.ofInt (238)).toInt32 = nI 238 := by decide
theorem ks_320 : (Int16.ofInt (320)).toInt32 = nI 320 := by decide
theorem ks_321 : (Int16.ofInt (321)).toInt32 = nI 321 := by decide
theorem ks_714 : (Int16.ofInt (714)).toInt32 = nI 714 := by decide
theorem ks_720 : (Int16.ofInt (720)).toInt32 = nI 720 := by decide
theorem ks_726 : (Int16.ofInt (726)).toInt32 = nI 726 := by decide
theorem ks_732 : (Int16.ofInt (732)).toInt32 = nI 732 := by decide
theorem ks_738 : (Int16.ofInt (738)).toInt32 = nI 738 := by decide
theorem ks_744 : (Int16.ofInt (744)).toInt32 = nI 744 := by decide
theorem ks_750 : (Int16.ofInt (750)).toInt32 = nI 750 := by decide
theorem ks_770 : (Int16.ofInt (770)).toInt32 = nI 770 := by decide
theorem ks_790 : (Int16.ofInt (790)).toInt32 = nI 790 := by decide
theorem ks_810 : (Int16.ofInt (810)).toInt32 = nI 810 := by decide
theorem ks_830 : (Int16.ofInt (830)).toInt32 = nI 830 := by decide
theorem ks_950 : (Int16.ofInt (950)).toInt32 = nI 950 := by decide
theorem ks_951 : (Int16.ofInt (951)).toInt32 = nI 951 := by decide
theorem ks_952 : (Int16.ofInt (952)).toInt32 = nI 952 := by decide
theorem ks_12345 : (Int16.ofInt (12345)).toInt32 = nI 12345 := by decide
theorem ks_32767 : (Int16.ofInt (32767)).toInt32 = nI 32767 := by decide
/-! rules, once more -/
section RU2
variable {mi pc len : Nat} {L : ab_L} {S : List Value} {h : ab_H} {Q : Option Value → ab_H → Prop}
theorem Go_if0 {c : Jvm.ClassFile.Cond} {off : Int} {x : Int32} : Go (some (.ifCond c off, len)) mi pc L (.int x :: S) h Q = (0 ≤ (pc : Int) + off ∧ if ab_cmp c x (nI 0) = true then Go (ab_at mi ((pc : Int) + off).toNat) mi ((pc : Int) + off).toNat L S h Q else Go (ab_at mi (pc + 3)) mi (pc + 3) L S h Q) := Go_if
theorem Go_reti {v : Int32} (hr : ab_rt mi = some .int) : Go (some (.ireturn, len)) mi pc L [.int v] h Q = Q (some (.int v)) h := by
  rw [Go_ireturn hr]
  exact propext ⟨fun z => z.2, fun z => ⟨rfl, z⟩⟩
theorem Go_retb {v : Bool} (hr : ab_rt mi = some .boolean) : Go (some (.ireturn, len)) mi pc L [.int (nI v.toNat)] h Q = Q (some (.int (nI v.toNat))) h := by
  rw [Go_ireturn hr]
  exact propext ⟨fun z => z.2, fun z => ⟨by cases v <;> rfl, z⟩⟩
theorem Go_retb0 (hr : ab_rt mi = some .boolean) : Go (some (.ireturn, len)) mi pc L [.int (nI 0)] h Q = Q (some (.int (nI 0))) h := Go_retb (v := false) hr
theorem Go_retb1 (hr : ab_rt mi = some .boolean) : Go (some (.ireturn, len)) mi pc L [.int (nI 1)] h Q = Q (some (.int (nI 1))) h := Go_retb (v := true) hr
theorem cat_n : ab_cat [] = 0 := rfl
theorem cat_i {x : Int32} : ab_cat (.int x :: S) = 1 + ab_cat S := by simp [ab_cat, Value.category]
theorem cat_r {x : Nat} : ab_cat (.ref x :: S) = 1 + ab_cat S := by simp [ab_cat, Value.category]
theorem cat_l {x : Int64} : ab_cat (.long x :: S) = 2 + ab_cat S := by simp [ab_cat, Value.category]
theorem tl_i {x : Int32} : (some (Value.int x)).toList ++ S = .int x :: S := rfl
theorem tl_l {x : Int64} : (some (Value.long x)).toList ++ S = .long x :: S := rfl
theorem tl_n : (none : Option Value).toList ++ S = S := rfl
theorem lp_eq {N : Nat} {R : Prop} (G : Nat → Prop) (h1 : G N = R) (h2 : ∀ i, i < N → G i = G (i + 1)) : G 0 = R := by
  have k : ∀ d i, i + d = N → G i = R := by
    intro d
    induction d with
    | zero => intro i hi; rw [show i = N by omega]; exact h1
    | succ d ih => intro i hi; rw [h2 i (by omega)]; exact ih (i + 1) (by omega)
  exact k N 0 (by omega)
theorem lp_eqA {a N : Nat} {R : Prop} (ha : a ≤ N) (G : Nat → Prop) (h1 : G N = R) (h2 : ∀ i, a ≤ i → i < N → G i = G (i + 1)) : G a = R := by
  have k : ∀ d i, a ≤ i → i + d = N → G i = R := by
    intro d
    induction d with
    | zero => intro i _ hi; rw [show i = N by omega]; exact h1
    | succ d ih => intro i h0 hi; rw [h2 i h0 (by omega)]; exact ih (i + 1) (by omega) (by omega)
  exact k (N - a) a (Nat.le_refl _) (by omega)
theorem lp_wp {a N : Nat} (ha : a ≤ N) (G : Nat → Prop) (h1 : G N) (h2 : ∀ i, a ≤ i → i < N → G (i + 1) → G i) : G a := by
  have k : ∀ d i, a ≤ i → i + d = N → G i := by
    intro d
    induction d with
    | zero => intro i _ hi; rw [show i = N by omega]; exact h1
    | succ d ih => intro i h0 hi; exact h2 i h0 (by omega) (ih (i + 1) (by omega) (by omega))
  exact k (N - a) a (Nat.le_refl _) (by omega)
end RU2
def cn (f : Nat → Bool) : Nat → Nat
  | 0 => 0
  | n + 1 => cn f n + (f n).toNat
def sm (f : Nat → Nat) : Nat → Nat
  | 0 => 0
  | n + 1 => sm f n + f n
def ay (f : Nat → Bool) : Nat → Bool
  | 0 => false
  | n + 1 => ay f n || f n
theorem cn_le (f : Nat → Bool) (n : Nat) : cn f n ≤ n := by
  induction n with
  | zero => exact Nat.le_refl _
  | succ n ih => show cn f n + (f n).toNat ≤ n + 1; have := Bool.toNat_le (f n); omega
theorem ay_iff (f : Nat → Bool) (n : Nat) : ay f n = true ↔ ∃ i, i < n ∧ f i = true := by
  induction n with
  | zero => simp [ay]
  | succ n ih =>
    rw [ay, Bool.or_eq_true, ih]
    constructor
    · rintro (⟨i, h1, h2⟩ | h)
      · exact ⟨i, by omega, h2⟩
      · exact ⟨n, by omega, h⟩
    · rintro ⟨i, h1, h2⟩
      rcases Nat.lt_or_ge i n with h | h
      · exact Or.inl ⟨i, h, h2⟩
      · rw [show i = n by omega] at h2; exact Or.inr h2
