set_option maxRecDepth 100000 in
theorem ab_ly0_ok : ab_lyT 0 ab_ly0 = true := by decide +kernel
set_option maxRecDepth 100000 in
theorem ab_ly1_ok : ab_lyT 1 ab_ly1 = true := by decide +kernel
set_option maxRecDepth 100000 in
theorem ab_ly2_ok : ab_lyT 2 ab_ly2 = true := by decide +kernel
set_option maxRecDepth 100000 in
theorem ab_ly3_ok : ab_lyT 3 ab_ly3 = true := by decide +kernel
set_option maxRecDepth 100000 in
theorem ab_ly4_ok : ab_lyT 4 ab_ly4 = true := by decide +kernel
set_option maxRecDepth 100000 in
theorem ab_ly5_ok : ab_lyT 5 ab_ly5 = true := by decide +kernel
set_option maxRecDepth 100000 in
theorem ab_ly6_ok : ab_lyT 6 ab_ly6 = true := by decide +kernel
set_option maxRecDepth 100000 in
theorem ab_ly7_ok : ab_lyT 7 ab_ly7 = true := by decide +kernel
theorem ab_cls_in (ci : Nat) (hci : ci < 8) : ∀ w ∈ u_ws (ab_C ci) (ab_T ci) (ab_N ci), w ∈ ab_BIG := by
  rcases (show ci = 0 ∨ ci = 1 ∨ ci = 2 ∨ ci = 3 ∨ ci = 4 ∨ ci = 5 ∨ ci = 6 ∨ ci = 7 by omega) with h | h | h | h | h | h | h | h <;> subst h
  · exact ab_ly_in ab_ly0_ok
  · exact ab_ly_in ab_ly1_ok
  · exact ab_ly_in ab_ly2_ok
  · exact ab_ly_in ab_ly3_ok
  · exact ab_ly_in ab_ly4_ok
  · exact ab_ly_in ab_ly5_ok
  · exact ab_ly_in ab_ly6_ok
  · exact ab_ly_in ab_ly7_ok
