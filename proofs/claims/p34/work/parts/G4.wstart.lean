set_option maxHeartbeats 4000000 in
set_option maxRecDepth 100000 in
/-- THE LAW, from its entry -/
theorem whole_start {p : Program} {e : Env} {s : State} {m : MethodId} {below : List Frame} {meth : Method} {c : Code} (l : Launch) (hflags : l.flags = flags0) {b L : Nat} {xs : Nat → Int32} (hL : L ≤ 260) (C0 : lw_At p s m meth c b L xs) : W p l e room_1 s m #[Value.ref b] below meth c s.heap [] 0 0 (lw_Z below #[Value.ref b] s) (entryFrame m ([Value.ref b] : List Value).toArray 24) := by
  obtain ⟨hx, hb, hr, hml, hown, hts, hX, hbl, hlocks, hgv⟩ := id C0
  obtain ⟨D, y, hE⟩ := lw_EFx hts
  have hA : ∀ q : Nat, s.heap.size ≤ q → (fun q : Nat => s.heap.size ≤ q) q := fun _ h => h
  have hlen : ((List.range L).map xs).length = L := by rw [List.length_map, List.length_range]
  have hX' : va_X b ((List.range L).map xs).length (fun j => ((List.range L).map xs).getD j 0) s s.heap := by
    obtain ⟨scr, x1, x2, x3, x4, x5⟩ := hX
    refine ⟨scr, x1, x2, x3, x4.trans hlen.symm, fun j hj => ?_⟩
    rw [hlen] at hj
    rw [x5 j hj]
    show some (Value.int (xs j)) = some (Value.int (((List.range L).map xs).getD j 0))
    rw [List.getD_eq_getElem?_getD, List.getElem?_map, List.getElem?_range hj]
    rfl
  obtain ⟨ad0, had, hT⟩ := lw_STx b ((List.range L).map xs) hX' hbl hts hgv
  obtain ⟨n, r, h', hrun, rfl, I, J, rfl⟩ := lw_run (xs := (List.range L).map xs) (by rw [hlen]; exact hL)
  rw [yrt_146] at hrun
  have hts' : ∀ w ∈ ab_BIG, w.before #[Value.ref b] s = true := fun w hw => hts w (ab_BIG_in w hw)
  have hR : ab_nx (SH ++ yE4, I, J) - ab_nx lm_h0 ≤ room_1.cells ∧ ab_sl (SH ++ yE4, I, J) - ab_sl lm_h0 ≤ room_1.slots := by
    have h1 : (SH ++ yE4).length - 0 ≤ 600000 := by decide +kernel
    have h2 : ((SH ++ yE4).map (fun x => x.2.1)).sum - 0 ≤ 7302250 := by decide +kernel
    exact ⟨h1, h2⟩
  have k := (ab_run_sound (p := p) (l := l) (e := e) (R := room_1) (s := s) (m := m) (args := #[Value.ref b]) (below := below) (meth := meth) (c := c) (Q := lw_Z below #[Value.ref b] s) (A := fun q : Nat => s.heap.size ≤ q) (D := D) (y := y) (nL := 24) (ad0 := ad0) (h0 := lm_h0) (cc := cL_law) (x := (some (.int (nI 1)), (SH ++ yE4, I, J))) (call := ab_ex (some ((List.range L).map xs)) n) (code := ab_at 146) (own := 10) (fr := 15) (lc := 592) (ini := false) (ret := some .boolean) (scr := some ((List.range L).map xs)) hx hb hml hown hts' hA hE hT (ab_ex_sound (some ((List.range L).map xs)) l D y n) (fun h => by cases h) (fun xs' h => by cases h; exact ⟨b, had, hX', hbl, Nat.not_le.mpr hbl⟩) (fun pc ins len h => lw_cd_ok h) (Nat.le_refl _) (Nat.le_refl _) hR (fun pc L' S h ins len hpc he => by
    intro ad H locs ls hP hD hS hw hl hlen' hfix hn1 hn2
    have hk := lw_cd_ok hpc
    rcases he with ⟨v, ty, rfl, rfl, h3, h4, h5⟩ | ⟨v, rfl, rfl, h3, h5⟩ | ⟨rfl, rfl, h3, h5⟩
    · have hl1 : len = 1 := by simpa [ab_lenok] using hk.2.1
      subst hl1
      injection h5 with h6 h7
      injection h6 with h6
      injection h6 with h6
      subst h6
      subst h7
      refine va_forget (fun q hq => hS.2.2 q hq) ?_
      refine W.widen (k := 600000) (n := 7302250) hR.1 hR.2 ?_
      exact lw_ret hx hb hr hlocks hk.1
    · cases h3
    · cases h3) n _ hrun).1
  have hl := lv_entry ([.ref b]) (n := 24) (Nat.le_of_ble_eq_true rfl)
  rw [lg_entry_eq]
  have e0 : ab_ws y ad0 lm_h0 = [] := rfl
  have hP : va_P D vwCl (ab_ws y ad0 lm_h0) s.heap := by
    rw [e0]
    exact fun k q h => by simp at h
  have hD : va_D (fun q : Nat => s.heap.size ≤ q) (ab_ws y ad0 lm_h0) := by
    rw [e0]
    exact ⟨fun i j p q h => by simp at h, fun k q h => by simp at h⟩
  have hw : ab_wf lm_h0 := fun o k r h => by simp [ab_rf, lm_h0] at h
  have e1 : ab_le ad0 (some (.ref 2000) :: List.replicate 23 none) = [(0, .ref (ad0 2000))] := rfl
  have kk := k ad0 s.heap [] _ hP hD va_S.rf hw (ab_has_weak hl (fun q hq => by
    rw [e1, had] at hq
    exact hq)) rfl ⟨fun _ _ => rfl, fun _ => rfl⟩ (Nat.le_refl _) (Nat.le_refl _)
  exact kk
