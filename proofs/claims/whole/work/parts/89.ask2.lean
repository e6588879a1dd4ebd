theorem q_waiting {m : MV} {d : RV} {ws : List Nat} {n : Nat} {K : Int32 → Prop} (hn : n ≤ 17) (hw : wsOk ws n) (hway : wayR m ws) (harr : arrOk m d ws ws.length) (hK : K ((TK d ws ws.length).2 4)) : PO_X7_waiting m K := by
  have hwl := hw.1
  refine ⟨fun w x1 x2 => ∃ k, k ≤ ws.length ∧ x2 = nI k ∧ x1 = (TK d ws k).2 4 ∧ w = ws.length - k, ?_, ⟨_, 0, by omega, rfl, rfl, rfl⟩⟩
  rintro w x1 x2 ⟨k, hk, rfl, rfl, rfl⟩
  unfold wp_X7_waiting_4
  rw [hway.1]
  by_cases c : ws.length ≤ k
  · rw [if_pos ((nI_leI (by omega) (by omega)).mpr c)]
    rw [show k = ws.length by omega]
    exact hK
  · rw [if_neg (fun z => c ((nI_leI (by omega) (by omega)).mp z)), nI_clamp (by omega), (harr k (by omega)).2.1]
    obtain ⟨-, -, -, -, s4, -⟩ := TK_step (d := d) hn hw (k := k) (by omega)
    exact ⟨vp_in_nI (by omega) (by omega), _, by omega, k + 1, by omega, nI_1 k, s4.symm, rfl⟩
theorem z_visit {m : MV} {d t : RV} {n : Nat} {ws : List Nat} {pl wh : Int32} {K : Int32 → MV → Prop} (hd : dayOk d n ws) (hR : relS (m.2 1) d n) (hK : ∀ m', scr m m' → K (f_X6_visit d t pl wh).1 m') : PO_X7_visit pl wh K m := by
  have hn := hd.1
  obtain ⟨hF, hfo⟩ := dayTab hd
  obtain ⟨f1, f2, f3, -, -, fb, -⟩ := hF
  have h11 := hd.2.2.2.2.2.1.1
  have hw := hd.2.2.2.2.2.1.2.1
  have hwl := hw.1
  obtain ⟨h5, -⟩ := dayOk_way hd hR
  unfold PO_X7_visit wp_X7_visit_0
  dsimp only [yl]
  have hs : scr m (mI m 0 0) := scr_I (scr_refl m) (by omega)
  refine ⟨vp_in_nI (n := 5) (by omega) (by omega), ?_⟩
  rw [show (mI m 0 0).2 1 (5 : Int32).toNatClampNeg = nI ws.length from h5, in_has (by omega)]
  unfold f_X6_visit rLen at hK
  dsimp only [yl] at hK
  rw [h11, List.length_map, hfo] at hK
  by_cases c : pl < 0
  · rw [if_pos c, if_pos rfl]
    rw [if_pos c] at hK
    exact hK _ hs
  rw [if_neg c]
  rw [if_neg c] at hK
  by_cases c2 : pl < nI ws.length
  · rw [if_neg (Int32.not_le.mpr c2), if_neg (by decide)]
    rw [if_pos c2] at hK
    obtain ⟨p, hp, rfl⟩ := has_ex (n := ws.length) (x := pl) (by omega) (by rw [if_neg c, if_neg (Int32.not_le.mpr c2)]; decide)
    refine q_drivesRoute (d := d) hd hR ?_
    rintro m1 ⟨hsc, hway, h14, h15, harr⟩
    have hsc' := scr_trans hs hsc
    have hv := hw.2.1 p hp
    have hR1 : rideR (m1.2 1) d n := by rw [scr_s hsc]; exact hR.1.2.2.1
    have hin : vp_in (nI p) 36 := vp_in_nI (by omega) (by omega)
    have h := hK m1 hsc'
    rw [rAt_gA (by omega), gA_map hp, rAt_gA (by omega), rAt_gA (by omega), rAt_gA (by omega), (fb p hp).1, (fb p hp).2.1, (fb p hp).2.2, vis_ride (by omega), vis_down (by omega)] at h
    rw [nI_clamp (by omega), hway.2.2 p hp, (harr p hp).1, (harr p hp).2.1, (harr p hp).2.2, vis_mod (by omega), vis_half (by omega)]
    by_cases d0 : wh = 0
    · rw [if_pos d0] at h ⊢; exact ⟨hin, h⟩
    rw [if_neg d0] at h ⊢
    by_cases d1 : wh = 1
    · rw [if_pos d1] at h ⊢
      refine ⟨hin, ?_⟩
      rcases (show gN ws p % 2 = 0 ∨ gN ws p % 2 = 1 by omega) with q | q
      · rw [q, if_pos (by decide)] at h
        rw [q]
        exact h
      · rw [q, if_neg (by decide)] at h
        rw [q]
        exact h
    rw [if_neg d1] at h ⊢
    by_cases d2 : wh = 2
    · rw [if_pos d2] at h ⊢
      exact ⟨hin, q_stopOf (d := d) (n := n) (gN ws p) (by omega) hv hR1 rfl h⟩
    rw [if_neg d2] at h ⊢
    by_cases d3 : wh = 3
    · rw [if_pos d3] at h ⊢; exact ⟨hin, h⟩
    rw [if_neg d3] at h ⊢
    by_cases d4 : wh = 4
    · rw [if_pos d4] at h ⊢; exact ⟨hin, h⟩
    rw [if_neg d4] at h ⊢
    by_cases d5 : wh = 5
    · rw [if_pos d5] at h ⊢; exact ⟨hin, h⟩
    rw [if_neg d5] at h ⊢
    exact h
  · rw [if_pos (Int32.not_lt.mp c2), if_pos rfl]
    rw [if_neg c2] at hK
    exact hK _ hs
theorem z_count {m : MV} {d t p : RV} {n : Nat} {ws : List Nat} {hn wh : Int32} {K : Int32 → MV → Prop} (hd : dayOk d n ws) (hR : relS (m.2 1) d n) (h8 : m.1 8 = rLen (p.1 0)) (h4 : m.1 4 = hn) (hK : ∀ m', scr m m' → K (f_X6_count d t p hn wh).1 m') : PO_X7_count wh K m := by
  have hn16 := hd.1
  obtain ⟨hF, hfo⟩ := dayTab hd
  have l8 := dayOk_l8 hd
  unfold PO_X7_count wp_X7_count_0
  dsimp only [yl]
  have hs : scr m (mI m 0 0) := scr_I (scr_refl m) (by omega)
  refine q_drivesRoute (d := d) hd hR ?_
  rintro m1 ⟨hsc, hway, h14, h15, harr⟩
  have h := hK m1 (scr_trans hs hsc)
  have e1 : m1.2 1 = m.2 1 := scr_s (scr_trans hs hsc)
  have e8 : m1.1 8 = m.1 8 := (scr_trans hs hsc).1 8 (by omega) (by omega) (by omega) (by omega) (by omega)
  have e4 : m1.1 4 = m.1 4 := (scr_trans hs hsc).1 4 (by omega) (by omega) (by omega) (by omega) (by omega)
  unfold f_X6_count f_X6_overOf at h
  dsimp only [yl] at h
  rw [hfo] at h
  have hin : ∀ k, k < 20 → vp_in (nI k) 186 := fun k hk => vp_in_nI (by omega) (by omega)
  obtain ⟨⟨⟨s0, s1, s2⟩, -, hri, s6, s7⟩, c3, c4, c5, c8, -⟩ := id hR
  have hst : ∀ how, K (nStand (d.1 8) how) m1 → PO_X7_standing m1 how (fun r => K r m1) := fun how hk => q_standing (d.1 8) n (by omega) l8.symm (by rw [e1]; exact dayOk_s4 hd hR) (fun r hr => by rw [e1]; exact (hri r hr).2.2.2.2.1) hk
  by_cases d0 : wh = 0
  · rw [if_pos d0] at h ⊢
    refine ⟨hin 3 (by omega), ?_⟩
    rw [e1]
    show K (m.2 1 3) m1
    rw [c3]
    exact h
  rw [if_neg d0] at h ⊢
  by_cases d1 : wh = 1
  · rw [if_pos d1] at h ⊢
    refine ⟨hin 4 (by omega), ?_⟩
    rw [e1]
    show K (m.2 1 4) m1
    rw [c4]
    exact h
  rw [if_neg d1] at h ⊢
  by_cases d2 : wh = 2
  · rw [if_pos d2] at h ⊢
    refine ⟨hin 5 (by omega), ?_⟩
    rw [e1]
    show K (m.2 1 5) m1
    rw [c5]
    exact h
  rw [if_neg d2] at h ⊢
  by_cases d3 : wh = 3
  · rw [if_pos d3] at h ⊢
    refine ⟨hin 6 (by omega), ?_⟩
    rw [e1]
    show K (m.2 1 6) m1
    rw [s6]
    exact h
  rw [if_neg d3] at h ⊢
  by_cases d4 : wh = 4
  · rw [if_pos d4] at h ⊢
    rw [h15]
    exact h
  rw [if_neg d4] at h ⊢
  by_cases d5 : wh = 5
  · rw [if_pos d5] at h ⊢
    exact hst 1 h
  rw [if_neg d5] at h ⊢
  by_cases d6 : wh = 6
  · rw [if_pos d6] at h ⊢
    exact hst 2 h
  rw [if_neg d6] at h ⊢
  by_cases d7 : wh = 7
  · rw [if_pos d7] at h ⊢
    rw [h14]
    exact h
  rw [if_neg d7] at h ⊢
  by_cases d8 : wh = 8
  · rw [if_pos d8] at h ⊢
    exact q_waiting (n := n) (by omega) hd.2.2.2.2.2.1.2.1 hway harr h
  rw [if_neg d8] at h ⊢
  by_cases d9 : wh = 9
  · subst d9
    rw [if_pos rfl] at h ⊢
    rw [show f_X7_in 9 9 11 = 1 by decide, if_neg (by decide), e1]
    refine ⟨hin 0 (by omega), ?_⟩
    show K (m.2 1 0) m1
    rw [s0]
    rw [show rAt (d.1 0) (0 : Int32) = gA (d.1 0) 0 from rAt_gA (i := 0) (by omega)] at h
    exact h
  rw [if_neg d9] at h ⊢
  by_cases d10 : wh = 10
  · subst d10
    rw [if_pos rfl] at h ⊢
    rw [show f_X7_in 10 9 11 = 1 by decide, if_neg (by decide), e1]
    refine ⟨hin 1 (by omega), ?_⟩
    show K (m.2 1 1) m1
    rw [s1]
    rw [show rAt (d.1 0) (1 : Int32) = gA (d.1 0) 1 from rAt_gA (i := 1) (by omega)] at h
    exact h
  rw [if_neg d10] at h ⊢
  by_cases d11 : wh = 11
  · subst d11
    rw [if_pos rfl] at h ⊢
    rw [show f_X7_in 11 9 11 = 1 by decide, if_neg (by decide), e1]
    refine ⟨hin 2 (by omega), ?_⟩
    show K (m.2 1 2) m1
    rw [s2]
    rw [show rAt (d.1 0) (2 : Int32) = gA (d.1 0) 2 from rAt_gA (i := 2) (by omega)] at h
    exact h
  rw [if_neg d11] at h ⊢
  by_cases d12 : wh = 12
  · rw [if_pos d12] at h ⊢
    rw [e8, h8]
    exact h
  rw [if_neg d12] at h ⊢
  by_cases d13 : wh = 13
  · rw [if_pos d13] at h ⊢
    rw [e4, h4]
    exact h
  rw [if_neg d13] at h ⊢
  rcases in_cases wh 9 11 (by omega) (by omega) with ⟨e, -⟩ | ⟨-, w, hw1, hw2, e⟩
  · rw [show f_X7_in wh 9 11 = 0 from e, if_pos rfl]
    exact h
  · exfalso
    rcases (show w = 9 ∨ w = 10 ∨ w = 11 by omega) with q | q | q <;> subst q
    · exact d9 e
    · exact d10 e
    · exact d11 e
