/-! THE TEXT: tokens as they are written, and as they are read -/
abbrev Tk : Type := Nat × Nat
def wB (n : Nat) : List Nat := (List.range (wE (n + 1) - wE n)).map (fun k => wL (wE n + k))
def dg (v : Nat) : List Nat := if 9 < v then [48 + v / 10, 48 + v % 10] else [48 + v % 10]
/-- (0, n): a word, (1, v): a number, (2, _): the semicolon -/
def tkB (t : Tk) : List Nat := if t.1 = 0 then wB t.2 else if t.1 = 1 then 32 :: dg t.2 else [59]
def byts (T : List Tk) : List Nat := T.flatMap tkB
def okt (t : Tk) : Prop := (t.1 = 0 → t.2 < 12) ∧ (t.1 = 1 → t.2 ≤ 99)
def ktk (t : Tk) : Nat := if t.1 = 0 then wC t.2 else if t.1 = 1 then 22 else 23
/-- no word behind a word -/
def okT : List Tk → Prop
  | [] => True
  | t :: T => okt t ∧ (t.1 = 0 → ∀ u U, T = u :: U → u.1 ≠ 0) ∧ okT T
theorem wB_all : ∀ n, n < 12 → 0 < (wB n).length ∧ (wB n).length = wE (n + 1) - wE n ∧ ∀ k, k < (wB n).length → (wB n).getD k 0 = wL (wE n + k) ∧ 97 ≤ wL (wE n + k) ∧ wL (wE n + k) ≤ 122 := by decide +kernel
theorem dg_all : ∀ v, v ≤ 99 → (dg v).length ≤ 2 ∧ 0 < (dg v).length ∧ (∀ k, k < (dg v).length → 48 ≤ (dg v).getD k 0 ∧ (dg v).getD k 0 ≤ 57) ∧ (if (dg v).length = 1 then (dg v).getD 0 0 - 48 else 10 * ((dg v).getD 0 0 - 48) + ((dg v).getD 1 0 - 48)) = v := by decide +kernel
section TOK
variable {tp : Nat → Nat} {tl : Nat}
theorem hs_T {lo hi a : Nat} (h1 : a < tl) (h2 : lo ≤ tp a) (h3 : tp a ≤ hi) : hs tp tl lo hi a = true := decide_eq_true ⟨h1, h2, h3⟩
theorem hs_F {lo hi a : Nat} (h : a < tl → tp a < lo ∨ hi < tp a) : hs tp tl lo hi a = false := decide_eq_false (fun z => by have := h z.1; omega)
theorem re_eq {lo hi q e : Nat} (h1 : q ≤ e) (h2 : e ≤ tl) (h3 : ∀ j, q ≤ j → j < e → hs tp tl lo hi j = true) (h4 : hs tp tl lo hi e = false) : re tp tl lo hi q = e := by
  obtain ⟨r1, r2, r3, r4⟩ := re_spec (tp := tp) (lo := lo) (hi := hi) (show q ≤ tl by omega)
  rcases Nat.lt_trichotomy (re tp tl lo hi q) e with c | c | c
  · rw [h3 _ r1 c] at r4; cases r4
  · exact c
  · rw [r3 e h1 c] at h4; cases h4
/-- a word at P, with no letter behind it -/
theorem tok_word {P n : Nat} (hn : n < 12) (h1 : ∀ k, k < (wB n).length → tp (P + k) = (wB n).getD k 0) (h2 : P + (wB n).length ≤ tl) (h3 : P + (wB n).length < tl → tp (P + (wB n).length) < 97) : tA tp tl P = P ∧ tE tp tl P = P + (wB n).length ∧ cK tp tl (wkM tp) P = wC n := by
  obtain ⟨w1, w2, w3⟩ := wB_all n hn
  have b0 := h1 0 w1
  obtain ⟨l1, l2, l3⟩ := w3 0 w1
  have hP : P < tl := by omega
  have hs0 : hs tp tl 97 122 P = true := hs_T hP (by rw [Nat.add_zero] at b0; rw [b0, l1]; exact l2) (by rw [Nat.add_zero] at b0; rw [b0, l1]; exact l3)
  have a1 : tA tp tl P = P := re_eq (Nat.le_refl _) (by omega) (fun j g1 g2 => by omega) (hs_F fun _ => by rw [Nat.add_zero] at b0; rw [b0, l1]; omega)
  have a2 : tE tp tl P = P + (wB n).length := by
    unfold tE
    rw [if_neg (by omega), if_pos hs0]
    refine re_eq (by omega) h2 (fun j g1 g2 => ?_) (hs_F fun z => Or.inl (h3 z))
    have b := h1 (j - P) (by omega)
    obtain ⟨m1, m2, m3⟩ := w3 (j - P) (by omega)
    rw [show P + (j - P) = j by omega] at b
    exact hs_T (by omega) (by rw [b, m1]; exact m2) (by rw [b, m1]; exact m3)
  refine ⟨a1, a2, ?_⟩
  have t1 : tT tp tl P = 1 := by
    unfold tT
    rw [if_neg (by omega), if_pos hs0]
  unfold cK
  rw [if_neg (by rw [t1]; decide), if_pos t1, a2]
  refine wkM_of hn ⟨by omega, fun k hk => ?_⟩
  have hk2 : k < (wB n).length := by omega
  rw [h1 k hk2]
  exact (w3 k hk2).1
/-- a number behind a blank at P, with no figure behind it -/
theorem tok_num {P v : Nat} (hv : v ≤ 99) (h0 : tp P = 32) (h1 : ∀ k, k < (dg v).length → tp (P + 1 + k) = (dg v).getD k 0) (h2 : P + 1 + (dg v).length ≤ tl) (h3 : P + 1 + (dg v).length < tl → tp (P + 1 + (dg v).length) < 48 ∨ 57 < tp (P + 1 + (dg v).length)) : tA tp tl P = P + 1 ∧ tE tp tl (P + 1) = P + 1 + (dg v).length ∧ cK tp tl (wkM tp) (P + 1) = 22 ∧ tV tp tl (P + 1) = v := by
  obtain ⟨d1, d2, d3, d4⟩ := dg_all v hv
  have b0 := h1 0 d2
  rw [Nat.add_zero] at b0
  obtain ⟨l1, l2⟩ := d3 0 d2
  have hP : P + 1 < tl := by omega
  have a1 : tA tp tl P = P + 1 := re_eq (by omega) (by omega) (fun j g1 g2 => by
    have e : j = P := by omega
    subst e
    exact hs_T (by omega) (by omega) (by omega)) (hs_F fun _ => by rw [b0]; omega)
  have hn : hs tp tl 97 122 (P + 1) = false := hs_F fun _ => by rw [b0]; omega
  have hd : hs tp tl 48 57 (P + 1) = true := hs_T hP (by rw [b0]; exact l1) (by rw [b0]; exact l2)
  have a2 : tE tp tl (P + 1) = P + 1 + (dg v).length := by
    unfold tE
    rw [if_neg (by omega), if_neg (by rw [hn]; decide), if_pos hd]
    refine re_eq (by omega) h2 (fun j g1 g2 => ?_) (hs_F fun z => h3 z)
    have b := h1 (j - (P + 1)) (by omega)
    obtain ⟨m1, m2⟩ := d3 (j - (P + 1)) (by omega)
    rw [show P + 1 + (j - (P + 1)) = j by omega] at b
    exact hs_T (by omega) (by rw [b]; exact m1) (by rw [b]; exact m2)
  have t2 : tT tp tl (P + 1) = 2 := by
    unfold tT
    rw [if_neg (by omega), if_neg (by rw [hn]; decide), if_pos hd]
  have tb : tB tp tl (P + 1) = false := by
    unfold tB
    rw [if_pos t2, a2]
    exact decide_eq_false (by omega)
  refine ⟨a1, a2, ?_, ?_⟩
  · unfold cK
    rw [if_neg (by rw [t2]; decide), if_neg (by rw [t2]; decide), tb, if_neg (by decide), if_pos t2]
  · unfold tV
    rw [if_pos t2, a2, show P + 1 + (dg v).length - (P + 1) = (dg v).length by omega]
    refine Eq.trans ?_ d4
    unfold vN
    rw [if_neg (by omega)]
    by_cases c : (dg v).length = 1
    · rw [if_pos c, if_pos c, b0]
    · have b1 := h1 1 (by omega)
      rw [if_neg c, if_neg c, b0, b1]
theorem tok_semi {P : Nat} (h0 : tp P = 59) (h2 : P < tl) : tA tp tl P = P ∧ tE tp tl P = P + 1 ∧ cK tp tl (wkM tp) P = 23 := by
  have n1 : hs tp tl 97 122 P = false := hs_F fun _ => by omega
  have n2 : hs tp tl 48 57 P = false := hs_F fun _ => by omega
  have a1 : tA tp tl P = P := re_eq (Nat.le_refl _) (by omega) (fun j g1 g2 => by omega) (hs_F fun _ => by omega)
  have t3 : tT tp tl P = 3 := by
    unfold tT
    rw [if_neg (by omega), if_neg (by rw [n1]; decide), if_neg (by rw [n2]; decide)]
  have tb : tB tp tl P = false := by
    unfold tB
    rw [if_neg (by rw [t3]; decide), if_pos t3, decide_eq_true h0]
    rfl
  refine ⟨a1, ?_, ?_⟩
  · unfold tE
    rw [if_neg (by omega), if_neg (by rw [n1]; decide), if_neg (by rw [n2]; decide)]
  · unfold cK
    rw [if_neg (by rw [t3]; decide), if_neg (by rw [t3]; decide), tb, if_neg (by decide), if_neg (by rw [t3]; decide)]
theorem tok_end : tA tp tl tl = tl ∧ cK tp tl (wkM tp) tl = 24 := by
  refine ⟨re_eq (Nat.le_refl _) (Nat.le_refl _) (fun j g1 g2 => by omega) (hs_F fun z => by omega), ?_⟩
  unfold cK
  rw [if_pos (show tT tp tl tl = 0 by unfold tT; rw [if_pos rfl])]
end TOK
theorem byts_app (T U : List Tk) : byts (T ++ U) = byts T ++ byts U := List.flatMap_append
theorem byts_cons (t : Tk) (U : List Tk) : byts (t :: U) = tkB t ++ byts U := rfl
theorem getD_app_r (L M : List Nat) (i : Nat) : (L ++ M).getD (L.length + i) 0 = M.getD i 0 := by
  rw [List.getD_eq_getElem?_getD, List.getD_eq_getElem?_getD, List.getElem?_append_right (Nat.le_add_right _ _), Nat.add_sub_cancel_left]
theorem getD_app_l {L M : List Nat} {i : Nat} (h : i < L.length) : (L ++ M).getD i 0 = L.getD i 0 := by
  rw [List.getD_eq_getElem?_getD, List.getD_eq_getElem?_getD, List.getElem?_append_left h]
theorem tkB_pos {t : Tk} (h : okt t) : 0 < (tkB t).length := by
  unfold tkB
  by_cases c : t.1 = 0
  · rw [if_pos c]; exact (wB_all t.2 (h.1 c)).1
  · rw [if_neg c]
    split
    · exact Nat.succ_pos _
    · exact Nat.succ_pos _
/-- the first byte of a token tells what it is -/
theorem tkB_first {t : Tk} (h : okt t) : (t.1 ≠ 0 → (tkB t).getD 0 0 = 32 ∨ (tkB t).getD 0 0 = 59) ∧ ((tkB t).getD 0 0 < 48 ∨ 57 < (tkB t).getD 0 0) := by
  unfold tkB
  by_cases c : t.1 = 0
  · rw [if_pos c]
    obtain ⟨w1, -, w3⟩ := wB_all t.2 (h.1 c)
    obtain ⟨l1, l2, -⟩ := w3 0 w1
    refine ⟨fun z => absurd c z, Or.inr ?_⟩
    rw [l1]
    omega
  · rw [if_neg c]
    split
    · exact ⟨fun _ => Or.inl rfl, Or.inl (show 32 < 48 by omega)⟩
    · exact ⟨fun _ => Or.inr rfl, Or.inr (show 57 < 59 by omega)⟩
theorem okT_at {T U : List Tk} : okT (T ++ U) → okT U := by
  induction T with
  | nil => exact id
  | cons t T ih => intro h; exact ih h.2.2
section TKS
variable {L : List Nat}
abbrev tpL (L : List Nat) : Nat → Nat := fun i => L.getD i 0
/-- one token is read -/
theorem tok_one (T : List Tk) (t : Tk) (U : List Tk) (h : okT (t :: U)) (hL : L = byts T ++ (tkB t ++ byts U)) :
    tE (tpL L) L.length (tA (tpL L) L.length (byts T).length) = (byts T).length + (tkB t).length ∧ cK (tpL L) L.length (wkM (tpL L)) (tA (tpL L) L.length (byts T).length) = ktk t ∧ (t.1 = 1 → tV (tpL L) L.length (tA (tpL L) L.length (byts T).length) = t.2) := by
  obtain ⟨h1, h2, h3⟩ := h
  have hlen : L.length = (byts T).length + ((tkB t).length + (byts U).length) := by rw [hL, List.length_append, List.length_append]
  have bt : ∀ k, k < (tkB t).length → tpL L ((byts T).length + k) = (tkB t).getD k 0 := by
    intro k hk
    show L.getD _ 0 = _
    rw [hL, getD_app_r, getD_app_l hk]
  have nx : tpL L ((byts T).length + (tkB t).length) = (byts U).getD 0 0 := by
    show L.getD _ 0 = _
    rw [hL, getD_app_r]
    exact getD_app_r (tkB t) (byts U) 0
  have nf : (byts T).length + (tkB t).length < L.length → ∃ u V, U = u :: V ∧ okt u ∧ (byts U).getD 0 0 = (tkB u).getD 0 0 := by
    intro z
    cases U with
    | nil => rw [hlen] at z; exact absurd z (by show ¬ _ < _ + (_ + 0); omega)
    | cons u V =>
      refine ⟨u, V, rfl, h3.1, ?_⟩
      rw [byts_cons, getD_app_l (tkB_pos h3.1)]
  by_cases c0 : t.1 = 0
  · have hn := h1.1 c0
    have et : tkB t = wB t.2 := by unfold tkB; rw [if_pos c0]
    rw [et] at bt nx nf hlen ⊢
    obtain ⟨a1, a2, a3⟩ := tok_word (tp := tpL L) (tl := L.length) hn bt (by omega) (fun z => by
      rw [nx]
      obtain ⟨u, V, e1, e2, e3⟩ := nf z
      rw [e3]
      rcases (tkB_first e2).1 (h2 c0 u V e1) with w | w <;> omega)
    rw [a1]
    exact ⟨a2, by rw [a3]; unfold ktk; rw [if_pos c0], fun z => by omega⟩
  · by_cases c1 : t.1 = 1
    · have hv := h1.2 c1
      have et : tkB t = 32 :: dg t.2 := by unfold tkB; rw [if_neg c0, if_pos c1]
      rw [et] at bt nx nf hlen ⊢
      have e5 : (32 :: dg t.2).length = 1 + (dg t.2).length := by rw [List.length_cons, Nat.add_comm]
      rw [e5] at bt nx nf hlen ⊢
      have e6 : (byts T).length + (1 + (dg t.2).length) = (byts T).length + 1 + (dg t.2).length := by omega
      rw [e6] at nx nf ⊢
      obtain ⟨a1, a2, a3, a4⟩ := tok_num (tp := tpL L) (tl := L.length) (P := (byts T).length) hv (bt 0 (by omega)) (fun k hk => by
        have := bt (1 + k) (by omega)
        rw [show (byts T).length + (1 + k) = (byts T).length + 1 + k by omega] at this
        rw [this, Nat.add_comm 1 k]
        rfl) (by omega) (fun z => by
        rw [nx]
        obtain ⟨u, V, e1, e2, e3⟩ := nf z
        rw [e3]
        exact (tkB_first e2).2)
      rw [a1]
      exact ⟨a2, by rw [a3]; unfold ktk; rw [if_neg c0, if_pos c1], fun _ => a4⟩
    · have et : tkB t = [59] := by unfold tkB; rw [if_neg c0, if_neg c1]
      rw [et] at bt hlen ⊢
      obtain ⟨a1, a2, a3⟩ := tok_semi (tp := tpL L) (tl := L.length) (P := (byts T).length) (bt 0 (Nat.succ_pos _)) (by show _ < L.length; rw [hlen]; show _ < _ + (1 + _); omega)
      rw [a1]
      exact ⟨a2, by rw [a3]; unfold ktk; rw [if_neg c0, if_neg c1], fun z => absurd z c1⟩
theorem qs_at (U : List Tk) : ∀ (T : List Tk), okT (T ++ U) → qs (tpL (byts (T ++ U))) (byts (T ++ U)).length T.length = (byts T).length := by
  intro T
  -- from the back
  have key : ∀ (n : Nat) (T U : List Tk), T.length = n → okT (T ++ U) → qs (tpL (byts (T ++ U))) (byts (T ++ U)).length T.length = (byts T).length := by
    intro n
    induction n with
    | zero =>
      intro T U hT _
      have : T = [] := List.length_eq_zero_iff.mp hT
      subst this
      rfl
    | succ n ih =>
      intro T U hT hok
      obtain ⟨T', t, rfl⟩ : ∃ T' t, T = T' ++ [t] := ⟨T.dropLast, T.getLast (by intro z; rw [z] at hT; cases hT), (List.dropLast_concat_getLast _).symm⟩
      have hT' : T'.length = n := by rw [List.length_append] at hT; simpa using hT
      have e : T' ++ [t] ++ U = T' ++ (t :: U) := by rw [List.append_assoc]; rfl
      rw [e] at hok ⊢
      have i1 := ih T' (t :: U) hT' hok
      have el : (T' ++ [t]).length = T'.length + 1 := by rw [List.length_append]; rfl
      rw [el]
      show tE _ _ (tA _ _ (qs _ _ T'.length)) = _
      rw [i1]
      have o := tok_one (L := byts (T' ++ (t :: U))) T' t U (okT_at hok) (byts_app T' (t :: U))
      rw [o.1, byts_app T' [t], List.length_append]
      congr 1
      show _ = (tkB t ++ []).length
      rw [List.append_nil]
  exact key _ T U rfl
/-- all tokens are read as they were written -/
theorem toks_at {T : List Tk} (hok : okT T) {j : Nat} (hj : j < T.length) : kkT (tpL (byts T)) (byts T).length j = ktk (T.getD j (2, 0)) ∧ ((T.getD j (2, 0)).1 = 1 → vvT (tpL (byts T)) (byts T).length j = (T.getD j (2, 0)).2) := by
  have e : T = T.take j ++ (T.getD j (2, 0) :: T.drop (j + 1)) := by
    rw [List.getD_eq_getElem?_getD, List.getElem?_eq_getElem hj, Option.getD_some, ← List.drop_eq_getElem_cons hj, List.take_append_drop]
  have el : (T.take j).length = j := by rw [List.length_take]; omega
  generalize hA : T.take j = A at e el
  generalize hB : T.drop (j + 1) = B at e
  generalize T.getD j (2, 0) = t at e ⊢
  rw [e] at hok ⊢
  have q := qs_at (t :: B) A hok
  rw [el] at q
  have o := tok_one (L := byts (A ++ (t :: B))) A t B (okT_at hok) (byts_app A (t :: B))
  unfold kkT vvT tk
  rw [q]
  exact ⟨o.2.1, o.2.2⟩
theorem toks_end {T : List Tk} (hok : okT T) : kkT (tpL (byts T)) (byts T).length T.length = 24 := by
  have q := qs_at [] T (by rw [List.append_nil]; exact hok)
  rw [List.append_nil] at q
  unfold kkT tk
  rw [q, tok_end.1]
  exact tok_end.2
end TKS
