/-! THE CALLS: what holds goes on holding -/
section OKS
variable {s : VS}
theorem cl_lt {x : Int32} {N : Nat} (hN : N < 2147483648) (h : nI 0 ≤ x ∧ x < nI N) : x.toNatClampNeg < N := by
  rcases i_lt (x := x) (N := N) hN with ⟨a, ha, rfl⟩ | hx
  · rw [q_cl (by omega)]; exact ha
  · exact absurd h hx
theorem OS_feed (ok : OS s) (x : Int32) : OS (n_feed s x) := by
  unfold n_feed
  by_cases P : nI 0 ≤ x ∧ x < nI 128
  · rw [if_pos P]
    by_cases c : v_tl s < 320
    · rw [if_pos c]
      refine ⟨ok.1, ok.2.1, ⟨by show v_tl s + 1 ≤ 320; omega, fun i => ?_⟩, ok.2.2.2.1, ok.2.2.2.2⟩
      show (if i = v_tl s then x.toNatClampNeg else v_tp s i) < 128
      split
      · exact cl_lt (by omega) P
      · exact ok.2.2.1.2 i
    · rw [if_neg c]; exact ok
  · rw [if_neg P]; exact ok
theorem OS_ru (ok : OS s) (ru : RU) : OS (w_ru s ru) := ok
theorem OS_a (ok : OS s) {A : Nat → Nat → Nat} (h : OA A) : OS (w_a s A) := ⟨h, ok.2⟩
theorem OS_replace (ok : OS s) : OS (n_replace s) := OS_a ok (OA_ex ok.1 (ldA_1000 ok.1.2.1) (fun x hx => ldA_lt hx))
theorem OS_sweep (ok : OS s) : OS (n_sweep s) := OS_a ok (OA_sw ok.1)
theorem OS_set (ok : OS s) (n i m : Int32) : OS (n_set s n i m) := by
  have r2 := ok.1.2.1.2.1
  unfold n_set
  split
  · split
    · split
      · split
        · exact ok
        · rename_i h _
          exact OS_a ok (OA_set ok.1 (cl_lt (by omega) h))
      · exact ok
    · exact ok
  · exact ok
theorem OS_alter (ok : OS s) (n v : Int32) : OS (n_alter s n v) := by
  unfold n_alter
  split
  · split
    · split
      · rename_i h1 h2
        refine OS_a ok (OA_alter ok.1 h1 (cl_lt ?_ h2))
        unfold hiF
        split <;> omega
      · exact ok
    · exact ok
  · exact ok
theorem OS_keep (ok : OS s) (k : Int32) : OS (n_keep s k) := by
  unfold n_keep
  split
  · refine ⟨ok.1, fun j A hA => ?_, ok.2.2⟩
    have hA : (if j = k.toNatClampNeg then some (v_a s) else v_im s j) = some A := hA
    by_cases c : j = k.toNatClampNeg
    · rw [if_pos c] at hA
      cases hA
      exact ok.1
    · rw [if_neg c] at hA
      exact ok.2.1 j A hA
  · exact ok
theorem OS_back (ok : OS s) (k : Int32) : OS (n_back s k) := by
  unfold n_back
  split
  · cases c : v_im s k.toNatClampNeg with
    | none => exact ok
    | some A => exact OS_ru (OS_a ok (ok.2.1 _ A c)) none
  · exact ok
end OKS
