/-! THE STATE: all of it -/
abbrev RU : Type := Option ((Nat → Int64) × Nat × Nat × Bool)
abbrev VS : Type := (Nat → Nat → Nat) × (Nat → Option (Nat → Nat → Nat)) × (Nat → Nat) × Nat × Nat × RU × (Nat → Option (Nat × Nat)) × (Nat → Nat → Int32) × Nat
/-- what is told -/
def v_a (s : VS) := s.1
/-- images -/
def v_im (s : VS) := s.2.1
/-- the tape -/
def v_tp (s : VS) := s.2.2.1
def v_tl (s : VS) := s.2.2.2.1
def v_ft (s : VS) := s.2.2.2.2.1
/-- the latest run -/
def v_ru (s : VS) := s.2.2.2.2.2.1
/-- sheets -/
def v_sh (s : VS) := s.2.2.2.2.2.2.1
def v_ce (s : VS) := s.2.2.2.2.2.2.2.1
def v_tn (s : VS) := s.2.2.2.2.2.2.2.2
def OA (A : Nat → Nat → Nat) : Prop := WB A ∧ WR A ∧ WG A ∧ WH A ∧ WS A
def OS (s : VS) : Prop := OA (v_a s) ∧ (∀ k A, v_im s k = some A → OA A) ∧ (v_tl s ≤ 320 ∧ ∀ i, v_tp s i < 128) ∧ (∀ k l n, v_sh s k = some (l, n) → l < 3 ∧ n ≤ 40) ∧ v_tn s < 1000
/-- as the class holds it -/
def Ca (A : Nat → Nat → Nat) (I : Nat → Nat → Int32) : Prop := PC 73 I A ∧ PG 73 I A
def Ci (im : Nat → Option (Nat → Nat → Nat)) (I : Nat → Nat → Int32) : Prop := ∀ k, k < 2 → I 71 k = nI (im k).isSome.toNat ∧ ∀ A, im k = some A → PC (115 + 42 * k) I A ∧ PG (115 + 42 * k) I A
def Ct (tp : Nat → Nat) (tl : Nat) (I : Nat → Nat → Int32) : Prop := I 2 1 = nI tl ∧ ∀ i, i < tl → I 3 i = nI (tp i)
def Cr (ru : RU) (I : Nat → Nat → Int32) (J : Nat → Nat → Int64) : Prop := I 49 2 = nI ru.isSome.toNat ∧ I 49 8 = -4 ∧ ∀ v t g r, ru = some (v, t, g, r) → (∀ n, n < 20 → J 51 n = v n) ∧ I 49 4 = nI t ∧ I 49 5 = nI g ∧ I 49 3 = nI r.toNat
def Cs (sh : Nat → Option (Nat × Nat)) (ce : Nat → Nat → Int32) (I : Nat → Nat → Int32) : Prop := ∀ k, k < 4 → (sh k = none → I 63 k = -4) ∧ ∀ l n, sh k = some (l, n) → I 63 k = nI n ∧ I 64 k = nI l ∧ ∀ i, i < 40 → I (66 + k) i = ce k i
def SC (s : VS) (I : Nat → Nat → Int32) (J : Nat → Nat → Int64) : Prop := Ca (v_a s) I ∧ Ci (v_im s) I ∧ Ct (v_tp s) (v_tl s) I ∧ I 1 2 = nI (v_ft s) ∧ Cr (v_ru s) I J ∧ Cs (v_sh s) (v_ce s) I ∧ I 62 1 = nI (v_tn s)
/-- the letters of words, never written -/
def wE (k : Nat) : Nat := [0, 3, 6, 9, 12, 15, 19, 22, 25, 30, 34, 36, 39].getD k 0
def wL (k : Nat) : Nat := [110, 117, 109, 97, 114, 103, 97, 100, 100, 109, 117, 108, 110, 101, 103, 108, 101, 115, 115, 100, 105, 118, 112, 104, 105, 98, 108, 111, 99, 107, 103, 111, 116, 111, 105, 102, 114, 101, 116].getD k 0
/-- what a call leaves of the other one's -/
def Fr (c : Nat → Prop) (I I' : Nat → Nat → Int32) (J J' : Nat → Nat → Int64) : Prop := (∀ o k, c o → I' o k = I o k) ∧ ∀ o k, c o → J' o k = J o k
theorem PC_of {p : Nat} {I I' : Nat → Nat → Int32} {A : Nat → Nat → Nat} (hf : ∀ o k, p ≤ o → o ≤ p + 41 → I' o k = I o k) (hr : A 0 1 ≤ 20) (h : PC p I A) : PC p I' A := by
  obtain ⟨e0, e1, e2, e3, e4, e5, e6, e7, e8, e9, e10, e11, e12⟩ := h
  have f : ∀ d k, d ≤ 41 → I' (p + d) k = I (p + d) k := fun d k hd => hf _ _ (by omega) (by omega)
  exact ⟨(f 0 0 (by omega)).trans e0, (f 0 1 (by omega)).trans e1, fun b hb => (f 1 b (by omega)).trans (e2 b hb), fun b hb => (f 2 b (by omega)).trans (e3 b hb), fun b hb => (f 3 b (by omega)).trans (e4 b hb), fun b hb hx => (f 4 b (by omega)).trans (e5 b hb hx), fun b hb hx => (f 5 b (by omega)).trans (e6 b hb hx), fun b hb hx => (f 6 b (by omega)).trans (e7 b hb hx), fun n hn => (f 16 n (by omega)).trans (e8 n hn), fun n hn => (f 17 n (by omega)).trans (e9 n hn), fun n hn => (f 18 n (by omega)).trans (e10 n hn), fun n hn hx => (f 19 n (by omega)).trans (e11 n hn hx), fun n i hn hi => (hf _ _ (by omega) (by omega)).trans (e12 n i hn hi)⟩
theorem PG_of {p : Nat} {I I' : Nat → Nat → Int32} {A : Nat → Nat → Nat} (hf : ∀ o k, p ≤ o → o ≤ p + 41 → I' o k = I o k) (hr : A 0 0 ≤ 6) (h : PG p I A) : PG p I' A := by
  obtain ⟨g1, g2, g3⟩ := h
  exact ⟨fun b hb => (hf _ _ (by omega) (by omega)).trans (g1 b hb), fun b i hb hi => (hf _ _ (by omega) (by omega)).trans (g2 b i hb hi), fun b hb => (hf _ _ (by omega) (by omega)).trans (g3 b hb)⟩
section SIG
variable {I I' : Nat → Nat → Int32} {J J' : Nat → Nat → Int64} {A : Nat → Nat → Nat} {im : Nat → Option (Nat → Nat → Nat)} {tp : Nat → Nat} {tl : Nat} {ru : RU} {sh : Nat → Option (Nat × Nat)} {ce : Nat → Nat → Int32} {s : VS}
theorem Ca_eq (ok : OA A) (hf : ∀ o k, 73 ≤ o → o ≤ 114 → I' o k = I o k) (h : Ca A I) : Ca A I' := ⟨PC_of (fun o k h1 h2 => hf o k h1 h2) ok.2.1.2.1 h.1, PG_of (fun o k h1 h2 => hf o k h1 h2) ok.2.1.1 h.2⟩
theorem Ci_eq (ok : ∀ k A, im k = some A → OA A) (hf : ∀ o k, o = 71 ∨ (115 ≤ o ∧ o < 199) → I' o k = I o k) (h : Ci im I) : Ci im I' := fun k hk => ⟨(hf _ _ (by omega)).trans (h k hk).1, fun A hA => ⟨PC_of (fun o k h1 h2 => hf o k (by omega)) (ok k A hA).2.1.2.1 ((h k hk).2 A hA).1, PG_of (fun o k h1 h2 => hf o k (by omega)) (ok k A hA).2.1.1 ((h k hk).2 A hA).2⟩⟩
theorem Ct_eq (hf : ∀ o k, o = 2 ∨ o = 3 → I' o k = I o k) (h : Ct tp tl I) : Ct tp tl I' := ⟨(hf _ _ (by omega)).trans h.1, fun i hi => (hf _ _ (by omega)).trans (h.2 i hi)⟩
theorem Cr_eq (hf : ∀ k, k ≠ 6 → I' 49 k = I 49 k) (hj : ∀ k, J' 51 k = J 51 k) (h : Cr ru I J) : Cr ru I' J' := ⟨(hf _ (by omega)).trans h.1, (hf _ (by omega)).trans h.2.1, fun v t g r hv => by
  obtain ⟨h1, h2, h3, h4⟩ := h.2.2 v t g r hv
  exact ⟨fun n hn => (hj n).trans (h1 n hn), (hf _ (by omega)).trans h2, (hf _ (by omega)).trans h3, (hf _ (by omega)).trans h4⟩⟩
theorem Cs_eq (hf : ∀ o k, o = 63 ∨ o = 64 ∨ (66 ≤ o ∧ o < 70) → I' o k = I o k) (h : Cs sh ce I) : Cs sh ce I' := fun k hk => ⟨fun z => (hf _ _ (by omega)).trans ((h k hk).1 z), fun l n z => by
  obtain ⟨h1, h2, h3⟩ := (h k hk).2 l n z
  exact ⟨(hf _ _ (by omega)).trans h1, (hf _ _ (by omega)).trans h2, fun i hi => (hf _ _ (by omega)).trans (h3 i hi)⟩⟩
theorem SC_fr (ok : OS s) (hf : Fr (fun o => o < 199) I I' J J') (h : SC s I J) : SC s I' J' := by
  obtain ⟨h1, h2, h3, h4, h5, h6, h7⟩ := h
  have f := hf.1
  exact ⟨Ca_eq ok.1 (fun o k _ _ => f o k (by omega)) h1, Ci_eq ok.2.1 (fun o k _ => f o k (by omega)) h2, Ct_eq (fun o k _ => f o k (by omega)) h3, (f _ _ (by omega)).trans h4, Cr_eq (fun k _ => f _ k (by omega)) (fun k => hf.2 _ k (by omega)) h5, Cs_eq (fun o k _ => f o k (by omega)) h6, (f _ _ (by omega)).trans h7⟩
end SIG
