theorem dayTab {d : RV} {n : Nat} {ws : List Nat} (hd : dayOk d n ws) : tabF d ws n ws.length ∧ fFollow T0 d = TK d ws ws.length := by
  obtain ⟨hn, hl, hb, hf, -, ⟨h11, hw, -⟩, -⟩ := id hd
  exact ⟨tab_F (by omega) hw hl hb (bd_wide hf (by omega) (by omega)) _ (Nat.le_refl _), follow_TK h11⟩
theorem q_timeOf {m : MV} {d : RV} {n : Nat} {ws : List Nat} {ri sets : Int32} {K : Int32 → MV → Prop} (r : Nat) (hd : dayOk d n ws) (hR : relS (m.2 1) d n) (hr : r < n) (e : ri = nI r) (hs : sets = 0 ∨ sets = 1) (hK : ∀ m', scr m m' → K (if sets = 0 then gA ((fFollow T0 d).1 3) r else gA ((fFollow T0 d).1 4) r) m') : PO_X7_timeOf ri sets K m := by
  subst e
  obtain ⟨hF, hfo⟩ := dayTab hd
  obtain ⟨-, -, -, -, -, -, -, -, -, ff1, ff2, fg1, fg2⟩ := hF
  obtain ⟨hn, hl, hb, hf, -, ⟨h11, hw, -⟩, -⟩ := id hd
  rw [hfo] at hK
  unfold PO_X7_timeOf wp_X7_timeOf_0
  refine q_drivesRoute hd hR ?_
  rintro m1 ⟨hsc, hway, -, -, harr⟩
  have hwl := hw.1
  have e1 := scr_s hsc
  have hv : ∀ j, j < ws.length → gN ws j < 1000 := fun j hj => by have := hw.2.1 j hj; omega
  obtain ⟨-, -, -, -, -, g5, g6⟩ := hR.1.2.2.1 r hr
  rcases hs with rfl | rfl
  · rw [if_pos rfl, Int32.add_zero, ix2]
    refine q_placeOf ws (2 * r) (by omega) hv hway rfl ?_ ?_
    · intro p hp hpv _
      rw [if_neg (nI_ne6 (by omega)), nI_clamp (by omega), (harr p hp).1, hpv]
      have h := hK m1 hsc
      rw [if_pos rfl, ff2 r p hp hpv] at h
      exact ⟨vp_in_nI (by omega) (by omega), h⟩
    · intro hno
      rw [if_pos rfl]
      refine q_of r 5 (by omega) (by omega) rfl rfl ?_
      rw [e1, g5]
      have h := hK m1 hsc
      rw [if_pos rfl, ff1 r hr hno] at h
      exact h
  · rw [if_neg (by decide), ix2, nI_1]
    refine q_placeOf ws (2 * r + 1) (by omega) hv hway rfl ?_ ?_
    · intro p hp hpv _
      rw [if_neg (nI_ne6 (by omega)), nI_clamp (by omega), (harr p hp).1, hpv]
      have h := hK m1 hsc
      rw [if_neg (by decide), fg2 r p hp hpv] at h
      exact ⟨vp_in_nI (by omega) (by omega), h⟩
    · intro hno
      rw [if_pos rfl]
      refine q_of r 6 (by omega) (by omega) rfl rfl ?_
      rw [e1, g6]
      have h := hK m1 hsc
      rw [if_neg (by decide), fg1 r hr hno] at h
      exact h
theorem dayOk_l8 {d : RV} {n : Nat} {ws : List Nat} (hd : dayOk d n ws) : (d.1 8).length = n := hd.2.1.2.2.2.2.2.2.2.2.1
theorem dayOk_rideF {d : RV} {n : Nat} {ws : List Nat} {ri : Int32} (hd : dayOk d n ws) (h : f_X0_hasRide d ri ≠ 0) : ∃ r, r < n ∧ ri = nI r := by
  have hn := hd.1
  rw [hasRide_eq, dayOk_l8 hd] at h
  exact has_ex (by omega) h
theorem dayOk_stopF {d : RV} {n : Nat} {ws : List Nat} {i : Int32} (hd : dayOk d n ws) (h : f_X0_hasStop d i ≠ 0) : ∃ r, r < 12 ∧ i = nI r ∧ r < (d.1 1).length := by
  have h1 := hd.2.1.2.1
  rw [hasStop_eq] at h
  obtain ⟨r, hr, e⟩ := has_ex (by omega) h
  exact ⟨r, by omega, e, hr⟩
theorem z_ride {m : MV} {d t : RV} {n : Nat} {ws : List Nat} {ri wh : Int32} {K : Int32 → MV → Prop} (hd : dayOk d n ws) (hR : relS (m.2 1) d n) (hK : ∀ m', scr m m' → K (f_X6_ride d t ri wh).1 m') : PO_X7_ride ri wh K m := by
  have l8 := dayOk_l8 hd
  have hn := hd.1
  unfold PO_X7_ride wp_X7_ride_0
  dsimp only [yl]
  have hs : scr m (mI m 0 0) := scr_I (scr_refl m) (by omega)
  refine q_isRide (d := d) (by show m.2 1 4 = _; rw [l8]; exact dayOk_s4 hd hR) (by omega) ?_
  unfold f_X6_ride at hK
  dsimp only [yl] at hK
  by_cases c : f_X0_hasRide d ri = 0
  · simp only [if_pos c] at hK ⊢
    exact hK _ hs
  · simp only [if_neg c] at hK ⊢
    obtain ⟨r, hr, rfl⟩ := dayOk_rideF hd c
    obtain ⟨g0, g1, g2, g3, g4, g5, g6⟩ := hR.1.2.2.1 r hr
    have hR' : relS ((mI m 0 0).2 1) d n := hR
    by_cases c5 : wh = 5
    · subst c5
      rw [if_pos rfl]
      refine q_timeOf r hd hR' hr rfl (Or.inl rfl) (fun m' h' => ?_)
      have h := hK m' (scr_trans hs h')
      rw [if_neg (by decide), if_neg (by decide), if_neg (by decide), if_neg (by decide), if_neg (by decide), if_pos rfl, rAt_gA (by omega)] at h
      rw [if_pos rfl]
      exact h
    rw [if_neg c5]
    by_cases c6 : wh = 6
    · subst c6
      rw [if_pos rfl]
      refine q_timeOf r hd hR' hr rfl (Or.inr rfl) (fun m' h' => ?_)
      have h := hK m' (scr_trans hs h')
      rw [if_neg (by decide), if_neg (by decide), if_neg (by decide), if_neg (by decide), if_neg (by decide), if_neg (by decide), if_pos rfl, rAt_gA (by omega)] at h
      rw [if_neg (by decide)]
      exact h
    rw [if_neg c6]
    have h := hK (mI m 0 0) hs
    by_cases c7 : wh = 7
    · subst c7
      rw [if_pos rfl]
      rw [if_neg (by decide), if_neg (by decide), if_neg (by decide), if_neg (by decide), if_neg (by decide), if_neg (by decide), if_neg (by decide), if_pos rfl, rAt_gA (by omega)] at h
      exact q_straight (d := d) r (by omega) hr rfl hR'.1.2.2.1 hR'.1.2.1 hd.2.2.1.2.1 hd.2.2.1.2.2.2.1 h
    rw [if_neg c7]
    rw [if_neg c5, if_neg c6, if_neg c7] at h
    have hof : ∀ w : Nat, w < 7 → K (m.2 1 (33 + 7 * r + w)) (mI m 0 0) → PO_X7_of (mI m 0 0) (nI r) (nI w) (fun r11 => K r11 (mI m 0 0)) := fun w hw hk => q_of r w (by omega) hw rfl rfl hk
    by_cases d0 : wh = 0
    · subst d0
      rw [if_pos rfl, rAt_gA (by omega), ← g0] at h
      rw [show f_X7_in 0 0 4 = 1 by decide, if_neg (by decide)]
      exact hof 0 (by omega) h
    by_cases d1 : wh = 1
    · subst d1
      rw [if_neg (by decide), if_pos rfl, rAt_gA (by omega), ← g1] at h
      rw [show f_X7_in 1 0 4 = 1 by decide, if_neg (by decide)]
      exact hof 1 (by omega) h
    by_cases d2 : wh = 2
    · subst d2
      rw [if_neg (by decide), if_neg (by decide), if_pos rfl, rAt_gA (by omega), ← g2] at h
      rw [show f_X7_in 2 0 4 = 1 by decide, if_neg (by decide)]
      exact hof 2 (by omega) h
    by_cases d3 : wh = 3
    · subst d3
      rw [if_neg (by decide), if_neg (by decide), if_neg (by decide), if_pos rfl, rAt_gA (by omega), ← g3] at h
      rw [show f_X7_in 3 0 4 = 1 by decide, if_neg (by decide)]
      exact hof 3 (by omega) h
    by_cases d4 : wh = 4
    · subst d4
      rw [if_neg (by decide), if_neg (by decide), if_neg (by decide), if_neg (by decide), if_pos rfl, rAt_gA (by omega), ← g4] at h
      rw [show f_X7_in 4 0 4 = 1 by decide, if_neg (by decide)]
      exact hof 4 (by omega) h
    rw [if_neg d0, if_neg d1, if_neg d2, if_neg d3, if_neg d4] at h
    rcases in_cases wh 0 4 (by omega) (by omega) with ⟨e, -⟩ | ⟨-, w, -, hw, e⟩
    · rw [show f_X7_in wh 0 4 = 0 from e, if_pos rfl]
      exact h
    · exfalso
      rcases (show w = 0 ∨ w = 1 ∨ w = 2 ∨ w = 3 ∨ w = 4 by omega) with q | q | q | q | q <;> subst q
      · exact d0 e
      · exact d1 e
      · exact d2 e
      · exact d3 e
      · exact d4 e
theorem z_spare {m : MV} {d t : RV} {n : Nat} {ws : List Nat} {ri : Int32} {K : Int32 → MV → Prop} (hd : dayOk d n ws) (hR : relS (m.2 1) d n) (hK : ∀ m', scr m m' → K (f_X6_spare d t ri).1 m') : PO_X7_spare ri K m := by
  have l8 := dayOk_l8 hd
  have hn := hd.1
  unfold PO_X7_spare wp_X7_spare_0
  dsimp only [yl]
  have hs : scr m (mI m 0 0) := scr_I (scr_refl m) (by omega)
  refine q_isRide (d := d) (by show m.2 1 4 = _; rw [l8]; exact dayOk_s4 hd hR) (by omega) ?_
  unfold f_X6_spare at hK
  dsimp only [yl] at hK
  by_cases c : f_X0_hasRide d ri = 0
  · simp only [if_pos c] at hK ⊢
    exact hK _ hs
  · simp only [if_neg c] at hK ⊢
    obtain ⟨r, hr, rfl⟩ := dayOk_rideF hd c
    obtain ⟨g0, g1, g2, g3, g4, g5, g6⟩ := hR.1.2.2.1 r hr
    have hR' : relS ((mI m 0 0).2 1) d n := hR
    rw [rAt_gA (by omega), rAt_gA (xs := d.1 6) (by omega), rAt_gA (by omega)] at hK
    have hof : ∀ (w : Nat) (K2 : Int32 → Prop), w < 7 → K2 (m.2 1 (33 + 7 * r + w)) → PO_X7_of (mI m 0 0) (nI r) (nI w) K2 := fun w K2 hw hk => q_of r w (by omega) hw rfl rfl hk
    refine hof 4 _ (by omega) ?_
    rw [g4]
    have hend : (f_X0_hasRide d (nI r) = f_X0_hasRide d (nI r)) → (∀ m', scr m m' → K (gA (d.1 6) r - gA ((fFollow T0 d).1 4) r) m') → PO_X7_of (mI m 0 0) (nI r) (3 : Int32) (fun r4 => PO_X7_timeOf (nI r) (1 : Int32) (fun r7 m5 => K (r4 - r7) m5) (mI m 0 0)) := by
      intro _ hk
      refine hof 3 _ (by omega) ?_
      refine q_timeOf r hd hR' hr rfl (Or.inr rfl) (fun m' h' => ?_)
      rw [if_neg (by decide), g3]
      exact hk m' (scr_trans hs h')
    by_cases c0 : gA (d.1 8) r = 0
    · simp only [if_pos c0] at hK ⊢
      exact hend rfl hK
    · simp only [if_neg c0] at hK ⊢
      refine hof 4 _ (by omega) ?_
      rw [g4]
      by_cases c1 : gA (d.1 8) r = 1
      · simp only [if_pos c1] at hK ⊢
        exact hend rfl hK
      · simp only [if_neg c1] at hK ⊢
        exact hK _ hs
theorem z_coordinate {m : MV} {d : RV} {n : Nat} {ws : List Nat} {st wh : Int32} {K : Int32 → MV → Prop} (hd : dayOk d n ws) (hR : relS (m.2 1) d n) (hK : ∀ m', scr m m' → K (f_X6_coordinate d st wh) m') : PO_X7_coordinate st wh K m := by
  unfold PO_X7_coordinate wp_X7_coordinate_0
  dsimp only [yl]
  have hs : scr m (mI m 0 0) := scr_I (scr_refl m) (by omega)
  have h := hK _ hs
  have hl := hd.2.1.2.1
  refine q_isStop (d := d) hR.2.1 (by omega) ?_
  unfold f_X6_coordinate at h
  dsimp only [yl] at h
  by_cases c : f_X0_hasStop d st = 0
  · rw [if_pos c] at h ⊢
    exact h
  · rw [if_neg c] at h ⊢
    obtain ⟨i, hi, rfl, -⟩ := dayOk_stopF hd c
    obtain ⟨g0, g1⟩ := hR.1.2.1 i hi
    rw [rAt_gA (by omega), rAt_gA (by omega)] at h
    rw [ixS]
    by_cases d0 : wh = 0
    · subst d0
      rw [if_pos rfl, ← g0] at h
      rw [show f_X7_in 0 0 1 = 1 by decide, if_neg (by decide), Int32.add_zero, nI_clamp (by omega)]
      exact ⟨vp_in_nI (by omega) (by omega), h⟩
    by_cases d1 : wh = 1
    · subst d1
      rw [if_neg (by decide), if_pos rfl, ← g1] at h
      rw [show f_X7_in 1 0 1 = 1 by decide, if_neg (by decide), nI_1, nI_clamp (by omega)]
      exact ⟨vp_in_nI (by omega) (by omega), h⟩
    rw [if_neg d0, if_neg d1] at h
    rcases in_cases wh 0 1 (by omega) (by omega) with ⟨e, -⟩ | ⟨-, w, -, hw, e⟩
    · rw [show f_X7_in wh 0 1 = 0 from e, if_pos rfl]
      exact h
    · exfalso
      rcases (show w = 0 ∨ w = 1 by omega) with q | q <;> subst q
      · exact d0 e
      · exact d1 e
