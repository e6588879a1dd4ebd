/-- a stop is told -/
theorem stop_ok {d : RV} {n : Nat} {ws : List Nat} {s s' : Nat → Int32} {px py : Int32} (hd : dayOk d n ws) (hR : relS s d n) (hx : bd px 0 30) (hy : bd py 0 30) (hl : (d.1 1).length < 12) (h0 : ∀ x, x ≠ 3 → x ≠ 9 + 2 * (d.1 1).length → x ≠ 9 + 2 * (d.1 1).length + 1 → s' x = s x) (h1 : s' (9 + 2 * (d.1 1).length) = px) (h2 : s' (9 + 2 * (d.1 1).length + 1) = py) (h3 : s' 3 = nI ((d.1 1).length + 1)) : dayS s' (rvR (rvR d 1 (rAdd 12 (d.1 1) px)) 2 (rAdd 12 (d.1 2) py)) := by
  obtain ⟨hn, hl', hb, hf, hnow, hrt, hld⟩ := hd
  obtain ⟨l0, l1, l2, l3, l4, l5, l6, l7, l8, l9, l10⟩ := hl'
  obtain ⟨hbS, ⟨bx, by_⟩, hbT, hbN, hat⟩ := hb
  have e1 : (rvR (rvR d 1 (rAdd 12 (d.1 1) px)) 2 (rAdd 12 (d.1 2) py)).1 1 = d.1 1 ++ [px] := by
    show rAdd 12 (d.1 1) px = _
    rw [rAdd_app hl]
  have e2 : (rvR (rvR d 1 (rAdd 12 (d.1 1) px)) 2 (rAdd 12 (d.1 2) py)).1 2 = d.1 2 ++ [py] := by
    show rAdd 12 (d.1 2) py = _
    rw [rAdd_app (by omega)]
  obtain ⟨D, hD⟩ : ∃ D, D = rvR (rvR d 1 (rAdd 12 (d.1 1) px)) 2 (rAdd 12 (d.1 2) py) := ⟨_, rfl⟩
  have hDr : ∀ k, k ≠ 1 → k ≠ 2 → D.1 k = d.1 k := fun k h1 h2 => by rw [hD, rvR_ne h2, rvR_ne h1]
  have hD2 : D.2 = d.2 := by rw [hD]; rfl
  rw [← hD] at e1 e2 ⊢
  have hmin : ∀ i j, i < (d.1 1).length → j < (d.1 1).length → f_X0_minutes D (nI i) (nI j) = f_X0_minutes d (nI i) (nI j) := by
    intro i j hi hj
    unfold f_X0_minutes
    rw [e1, e2, rAt_gA (by omega), rAt_gA (by omega), rAt_gA (by omega), rAt_gA (by omega), rAt_gA (by omega), rAt_gA (by omega), rAt_gA (by omega), rAt_gA (by omega), gA_app, gA_app, gA_app, gA_app, if_pos hi, if_pos hj, if_pos (by omega), if_pos (by omega)]
  have hbd : ∀ (xs : List Int32) (v : Int32), (∀ i, bd (gA xs i) 0 30) → bd v 0 30 → ∀ i, bd (gA (xs ++ [v]) i) 0 30 := by
    intro xs v hxs hv i
    rw [gA_app]
    split
    · exact hxs i
    · split
      · exact hv
      · exact bd0 (by omega) (by omega)
  obtain ⟨⟨⟨s0, s1, s2⟩, hst, hri, s6, s7⟩, c3, c4, c5, c8, crt⟩ := hR
  have r0 := hDr 0 (by omega) (by omega)
  have r3 := hDr 3 (by omega) (by omega)
  have r4 := hDr 4 (by omega) (by omega)
  have r5 := hDr 5 (by omega) (by omega)
  have r6 := hDr 6 (by omega) (by omega)
  have r7 := hDr 7 (by omega) (by omega)
  have r8 := hDr 8 (by omega) (by omega)
  have r9 := hDr 9 (by omega) (by omega)
  have r10 := hDr 10 (by omega) (by omega)
  have r11 := hDr 11 (by omega) (by omega)
  refine ⟨n, ws, ⟨hn, ?_, ⟨?_, ?_, ?_, ?_, ?_⟩, ?_, ?_, ?_, ?_⟩, ⟨⟨?_, ?_, ?_, ?_, ?_⟩, ?_, ?_, ?_, ?_, ?_⟩⟩
  · unfold lenD
    rw [r0, e1, e2, r3, r4, r5, r6, r7, r8, r9, r10]
    simp only [List.length_append, List.length_singleton]
    exact ⟨l0, by omega, by omega, l3, l4, l5, l6, l7, l8, l9, l10⟩
  · unfold bdS; rw [r0]; exact hbS
  · unfold bdX
    rw [e1, e2]
    exact ⟨hbd _ _ bx hx, hbd _ _ by_ hy⟩
  · unfold bdT; rw [r5, r6, r9]; exact hbT
  · intro r hr
    obtain ⟨i, j, hi, hj, f3, f4, f7, hil, hjl⟩ := hbN r hr
    rw [r3, r4, r7, e1]
    simp only [List.length_append, List.length_singleton]
    exact ⟨i, j, hi, hj, f3, f4, by rw [hmin i j hil hjl]; exact f7, by omega, by omega⟩
  · rw [hD2]; exact hat
  · rw [hD2]; exact hf
  · rw [hD2]; exact hnow
  · unfold rtOk; rw [r11, r8]; exact hrt
  · rw [r0, r8]; exact hld
  · unfold setR; rw [r0, h0 _ (by omega) (by omega) (by omega), h0 _ (by omega) (by omega) (by omega), h0 _ (by omega) (by omega) (by omega)]; exact ⟨s0, s1, s2⟩
  · intro i hi
    rw [e1, e2, gA_app, gA_app, l2]
    by_cases c : i = (d.1 1).length
    · rw [if_neg (by omega), if_pos c, if_neg (by omega), if_pos c, c]
      exact ⟨h1, h2⟩
    · rw [h0 _ (by omega) (by omega) (by omega), h0 _ (by omega) (by omega) (by omega)]
      obtain ⟨g1, g2⟩ := hst i hi
      by_cases c2 : i < (d.1 1).length
      · rw [if_pos c2, if_pos c2]
        exact ⟨g1, g2⟩
      · rw [if_neg c2, if_neg c2, if_neg c, if_neg c]
        rw [gA_out (by omega)] at g1 g2
        exact ⟨g1, g2⟩
  · intro r hr
    rw [r3, r4, r5, r6, r8, r9, r10, h0 _ (by omega) (by omega) (by omega), h0 _ (by omega) (by omega) (by omega), h0 _ (by omega) (by omega) (by omega), h0 _ (by omega) (by omega) (by omega), h0 _ (by omega) (by omega) (by omega), h0 _ (by omega) (by omega) (by omega), h0 _ (by omega) (by omega) (by omega)]
    exact hri r hr
  · rw [hD2, h0 _ (by omega) (by omega) (by omega)]; exact s6
  · rw [hD2, h0 _ (by omega) (by omega) (by omega)]; exact s7
  · rw [e1, h3]; simp
  · rw [r8, h0 _ (by omega) (by omega) (by omega)]; exact c4
  · rw [r11, h0 _ (by omega) (by omega) (by omega)]; exact c5
  · rw [hD2, h0 _ (by omega) (by omega) (by omega)]; exact c8
  · intro k hk
    rw [r11] at hk
    rw [r11, h0 _ (by omega) (by omega) (by omega)]
    exact crt k hk
theorem zz_stop {m : MV} {d p : RV} {xs : List RV} {a0 a1 : Option RV} {px py : Int32} {K : Int32 → MV → Prop} {T : Int32 × RV × List RV} (hT : f_X6_stop d xs px py = T) (hM : modR m d p xs a0 a1) (hK : ∀ m', modR m' T.2.1 p T.2.2 a0 a1 → K T.1 m') : PO_X7_stop px py K m := by
  obtain ⟨⟨n, ws, hd, hR⟩, -⟩ := id hM
  have hl12 := hd.2.1.2.1
  have hl2 := hd.2.1.2.2.1
  unfold PO_X7_stop wp_X7_stop_0
  dsimp only [yl]
  have q0 : qst m (mI m 0 0) d n := qst_scr (qst_refl hR) (scr_I (scr_refl m) (by omega))
  have hM0 := modR_qst hM hd q0
  rw [show (mI m 0 0).2 1 (3 : Int32).toNatClampNeg = nI (d.1 1).length from hR.2.1]
  unfold f_X6_stop rLen at hT
  dsimp only [yl] at hT
  have t30 : (30 : Int32).toInt = 30 := by decide
  unfold f_X7_in
  by_cases c1 : px < 0
  · rw [if_pos c1] at hT
    rw [if_pos c1, if_pos rfl]
    subst hT
    exact hK _ hM0
  rw [if_neg c1] at hT
  rw [if_neg c1]
  by_cases c2 : 30 < px
  · rw [if_pos c2] at hT
    rw [if_pos c2, if_pos rfl]
    subst hT
    exact hK _ hM0
  rw [if_neg c2] at hT
  rw [if_neg c2, if_neg (by decide)]
  by_cases c3 : py < 0
  · rw [if_pos c3] at hT
    rw [if_pos c3, if_pos rfl]
    subst hT
    exact hK _ hM0
  rw [if_neg c3] at hT
  rw [if_neg c3]
  by_cases c4 : py ≤ 30
  · rw [if_pos c4] at hT
    rw [if_neg (Int32.not_lt.mpr c4), if_neg (by decide)]
    refine ⟨vp_in_nI (n := 3) (by omega) (by omega), ?_⟩
    by_cases c5 : (d.1 1).length < 12
    · rw [if_pos (show nI (d.1 1).length < 12 from (nI_ltI (b := 12) (by omega) (by omega)).mpr c5)] at hT
      rw [if_neg (fun (z : nI (d.1 1).length = 12) => absurd ((nI_eq (b := 12) (by omega) (by omega)).mp z) (by omega))]
      refine q_records ⟨n, ws, hd, q0.1⟩ hM0.2.1 ?_
      intro m1 hr1
      have hM1 := modR_rec hM0 hr1
      have es : m1.2 1 = m.2 1 := hr1.2.1 1 (by omega)
      have g3 : m1.2 1 (3 : Int32).toNatClampNeg = nI (d.1 1).length := by rw [es]; exact hR.2.1
      refine ⟨vp_in_nI (n := 3) (by omega) (by omega), ?_⟩
      rw [g3, ixS, nI_clamp (by omega)]
      refine ⟨vp_in_nI (by omega) (by omega), ?_⟩
      refine ⟨vp_in_nI (n := 3) (by omega) (by omega), ?_⟩
      have g3' : (mA m1 1 (9 + 2 * (d.1 1).length) px).2 1 (3 : Int32).toNatClampNeg = nI (d.1 1).length := by
        rw [mA_at]
        show upd (m1.2 1) _ px 3 = _
        rw [upd_ne (by omega)]
        exact g3
      rw [g3', ixS, nI_1, nI_clamp (by omega)]
      refine ⟨vp_in_nI (by omega) (by omega), vp_in_nI (n := 3) (by omega) (by omega), vp_in_nI (n := 3) (by omega) (by omega), ?_⟩
      obtain ⟨m2, em2⟩ : ∃ z, z = mA (mA m1 1 (9 + 2 * (d.1 1).length) px) 1 (9 + 2 * (d.1 1).length + 1) py := ⟨_, rfl⟩
      rw [← em2]
      have g32 : m2.2 1 (3 : Int32).toNatClampNeg = nI (d.1 1).length := by
        rw [em2, mA_at]
        show upd _ _ py 3 = _
        rw [upd_ne (by omega)]
        exact g3'
      rw [g32, nI_1]
      refine ⟨vp_in_nI (n := 3) (by omega) (by omega), ?_⟩
      have g33 : (mA m2 1 (3 : Int32).toNatClampNeg (nI ((d.1 1).length + 1))).2 1 (3 : Int32).toNatClampNeg - 1 = nI (d.1 1).length := by
        rw [mA_at, upd_at, nI_pred]
      rw [g33]
      subst hT
      have ho : othM m1 (mA m2 1 (3 : Int32).toNatClampNeg (nI ((d.1 1).length + 1))) := by
        rw [em2]
        exact othM_trans (othM_A1 _ _ _) (othM_trans (othM_A1 _ _ _) (othM_A1 _ _ _))
      have h := hK _ (modR_oth hM1 ho (stop_ok (s := m1.2 1) (px := px) (py := py) hd (by rw [es]; exact hR) ?_ ?_ c5 ?_ ?_ ?_ ?_))
      · have ea : rLen ((rvR (rvR d 1 (rAdd 12 (d.1 1) px)) 2 (rAdd 12 ((rvR d 1 (rAdd 12 (d.1 1) px)).1 2) py)).1 1) - 1 = nI (d.1 1).length := by
          show rLen (rAdd 12 (d.1 1) px) - 1 = _
          rw [rAdd_app c5]
          unfold rLen
          rw [List.length_append, List.length_singleton, nI_pred]
        have h' : K (rLen ((rvR (rvR d 1 (rAdd 12 (d.1 1) px)) 2 (rAdd 12 ((rvR d 1 (rAdd 12 (d.1 1) px)).1 2) py)).1 1) - 1) _ := h
        rw [ea] at h'
        exact h'
      · rw [fa_lt, t32_0] at c1
        rw [fa_lt, t30] at c2
        exact ⟨by omega, by omega⟩
      · rw [fa_lt, t32_0] at c3
        rw [fa_le, t30] at c4
        exact ⟨by omega, by omega⟩
      · intro x h1 h2 h3
        rw [mA_at]
        show upd (m2.2 1) 3 _ x = _
        rw [upd_ne h1, em2, mA_at, upd_ne h3, mA_at, upd_ne h2]
      · rw [mA_at]
        show upd (m2.2 1) 3 _ _ = _
        rw [upd_ne (by omega), em2, mA_at, upd_ne (by omega), mA_at, upd_at]
      · rw [mA_at]
        show upd (m2.2 1) 3 _ _ = _
        rw [upd_ne (by omega), em2, mA_at, upd_at]
      · rw [mA_at]
        show upd (m2.2 1) 3 _ 3 = _
        rw [upd_at]
    · rw [if_neg (fun (z : nI (d.1 1).length < 12) => c5 ((nI_ltI (b := 12) (by omega) (by omega)).mp z))] at hT
      rw [if_pos (show nI (d.1 1).length = 12 by rw [show (d.1 1).length = 12 by omega]; rfl)]
      subst hT
      exact hK _ hM0
  · rw [if_neg c4] at hT
    rw [if_pos (Int32.not_le.mp c4), if_pos rfl]
    subst hT
    exact hK _ hM0
