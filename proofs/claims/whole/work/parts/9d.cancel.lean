theorem leave_rel {m m' : MV} {d : RV} {n r : Nat} {ws : List Nat} {how : Int32} (hd : dayOk d n ws) (hR : relS (m.2 1) d n) (hr : r < n) (hL : leavP m m' d r ws) (hok : dayOk (fLeave d (nI r) how) n (offN ws r)) : relS (upd (m'.2 1) (33 + 7 * r + 4) how) (fLeave d (nI r) how) n := by
  have hn := hd.1
  have l8 := dayOk_l8 hd
  have hwl := hd.2.2.2.2.2.1.2.2.1
  have hol := offN_len (ws := ws) (r := r)
  obtain ⟨-, -, hsm, g5, g7, g8, grt⟩ := hL
  obtain ⟨b1, b2, -, -⟩ := base_eq hd hr
  have e11 := hok.2.2.2.2.2.1.1
  have e8 : (fLeave d (nI r) how).1 8 = (d.1 8).set r how := by
    show rSet (d.1 8) (nI r) how = _
    rw [rSet_nI (by omega)]
  have eo : ∀ k, k ≠ 8 → k ≠ 11 → (fLeave d (nI r) how).1 k = d.1 k := by
    intro k h8 h11'
    unfold fLeave
    rw [rvR_ne h8, rvR_ne h11', b1]
  have e2 : (fLeave d (nI r) how).2 = (fBase d (nI r)).2 := rfl
  obtain ⟨⟨⟨s0, s1, s2⟩, hst, hri, s6, s7⟩, c3, c4, c5, c8, crt⟩ := hR
  have hu : ∀ x, x < 152 → x ≠ 5 → x ≠ 7 → x ≠ 8 → x ≠ 33 + 7 * r + 4 → upd (m'.2 1) (33 + 7 * r + 4) how x = m.2 1 x := fun x h1 h2 h3 h4 h5 => by rw [upd_ne h5]; exact hsm x h1 h2 h3 h4
  refine ⟨⟨⟨?_, ?_, ?_⟩, ?_, ?_, ?_, ?_⟩, ?_, ?_, ?_, ?_, ?_⟩
  · rw [hu _ (by omega) (by omega) (by omega) (by omega) (by omega), eo 0 (by omega) (by omega)]; exact s0
  · rw [hu _ (by omega) (by omega) (by omega) (by omega) (by omega), eo 0 (by omega) (by omega)]; exact s1
  · rw [hu _ (by omega) (by omega) (by omega) (by omega) (by omega), eo 0 (by omega) (by omega)]; exact s2
  · intro i hi
    rw [hu _ (by omega) (by omega) (by omega) (by omega) (by omega), hu _ (by omega) (by omega) (by omega) (by omega) (by omega), eo 1 (by omega) (by omega), eo 2 (by omega) (by omega)]
    exact hst i hi
  · intro q hq
    obtain ⟨f0, f1, f2, f3, f4, f5, f6⟩ := hri q hq
    rw [hu (33 + 7 * q + 0) (by omega) (by omega) (by omega) (by omega) (by omega), hu (33 + 7 * q + 1) (by omega) (by omega) (by omega) (by omega) (by omega), hu (33 + 7 * q + 2) (by omega) (by omega) (by omega) (by omega) (by omega), hu (33 + 7 * q + 3) (by omega) (by omega) (by omega) (by omega) (by omega), hu (33 + 7 * q + 5) (by omega) (by omega) (by omega) (by omega) (by omega), hu (33 + 7 * q + 6) (by omega) (by omega) (by omega) (by omega) (by omega), eo 3 (by omega) (by omega), eo 4 (by omega) (by omega), eo 5 (by omega) (by omega), eo 6 (by omega) (by omega), eo 9 (by omega) (by omega), eo 10 (by omega) (by omega), e8, gA_set (by omega)]
    refine ⟨f0, f1, f2, f3, ?_, f5, f6⟩
    by_cases c : q = r
    · rw [c, upd_at, if_pos rfl]
    · rw [if_neg c, hu _ (by omega) (by omega) (by omega) (by omega) (by omega)]
      exact f4
  · rw [hu _ (by omega) (by omega) (by omega) (by omega) (by omega), e2, b2]; exact s6
  · rw [upd_ne (by omega), e2]; exact g7
  · rw [hu _ (by omega) (by omega) (by omega) (by omega) (by omega), eo 1 (by omega) (by omega)]; exact c3
  · rw [hu _ (by omega) (by omega) (by omega) (by omega) (by omega), e8, List.length_set]; exact c4
  · rw [upd_ne (by omega), e11, List.length_map]; exact g5
  · rw [upd_ne (by omega), e2]; exact g8
  · intro k hk
    rw [e11, List.length_map] at hk
    rw [e11, gA_map hk, upd_ne (by omega)]
    exact grt k hk
theorem q_cancels {m : MV} {d : RV} {n r : Nat} {ws : List Nat} {K : MV → Prop} (hd : dayOk d n ws) (hR : relS (m.2 1) d n) (hr : r < n) (hs : gA (d.1 8) r = 0) (hK : ∀ m', m'.1 = m.1 → (∀ j, j ≠ 1 → m'.2 j = m.2 j) → relS (m'.2 1) (fLeave d (nI r) 3) n → K m') : PO_X7_cancels (nI r) K m := by
  have hn := hd.1
  unfold PO_X7_cancels wp_X7_cancels_0
  refine q_leaves hd hR hr ?_
  intro m1 hL
  refine q_lay r 4 (by omega) (by omega) rfl rfl ?_
  exact hK _ hL.1 (fun j hj => by rw [mA_ne hj]; exact hL.2.1 j hj) (by rw [mA_at]; exact leave_rel hd hR hr hL (leave_ok hd hr (by decide) (by decide) (Or.inl hs)))
theorem othM_of1 {m m' : MV} (h1 : m'.1 = m.1) (h2 : ∀ j, j ≠ 1 → m'.2 j = m.2 j) : othM m m' := ⟨h2 3 (by omega), h2 5 (by omega), h2 6 (by omega), h2 7 (by omega), h2 24 (by omega), by rw [h1], by rw [h1], by rw [h1]⟩
theorem zz_cancel {m : MV} {d p : RV} {xs : List RV} {a0 a1 : Option RV} {ri : Int32} {K : Int32 → MV → Prop} {T : Int32 × RV × List RV} (hT : f_X6_cancel d xs ri = T) (hM : modR m d p xs a0 a1) (hK : ∀ m', modR m' T.2.1 p T.2.2 a0 a1 → K T.1 m') : PO_X7_cancel ri K m := by
  obtain ⟨⟨n, ws, hd, hR⟩, -⟩ := id hM
  have hn := hd.1
  have l8 := dayOk_l8 hd
  unfold PO_X7_cancel wp_X7_cancel_0
  dsimp only [yl]
  have q0 : qst m (mI m 0 0) d n := qst_scr (qst_refl hR) (scr_I (scr_refl m) (by omega))
  have hM0 := modR_qst hM hd q0
  unfold f_X6_cancel at hT
  dsimp only [yl] at hT
  refine q_isRide (d := d) (by rw [l8]; exact dayOk_s4 hd q0.1) (by omega) ?_
  by_cases c : f_X0_hasRide d ri = 0
  · rw [if_pos c] at hT ⊢
    subst hT
    exact hK _ hM0
  rw [if_neg c] at hT ⊢
  obtain ⟨r, hr, rfl⟩ := dayOk_rideF hd c
  refine q_of r 4 (by omega) (by omega) rfl rfl ?_
  rw [show (mI m 0 0).2 1 (33 + 7 * r + 4) = gA (d.1 8) r from (hR.1.2.2.1 r hr).2.2.2.2.1]
  rw [rAt_gA (by omega)] at hT
  by_cases c0 : gA (d.1 8) r = 0
  · rw [if_pos c0] at hT ⊢
    refine q_records ⟨n, ws, hd, q0.1⟩ hM0.2.1 ?_
    intro m1 hr1
    have hM1 := modR_rec hM0 hr1
    have es : m1.2 1 = m.2 1 := hr1.2.1 1 (by omega)
    refine q_cancels hd (by rw [es]; exact hR) hr c0 ?_
    intro m2 h1 h2 h3
    refine ⟨vp_in_nI (n := 5) (by omega) (by omega), ?_⟩
    subst hT
    have hok := leave_ok (how := 3) hd hr (by decide) (by decide) (Or.inl c0)
    have ea : m2.2 1 (5 : Int32).toNatClampNeg = rLen ((fLeave d (nI r) 3).1 11) := h3.2.2.2.1
    rw [ea]
    exact hK m2 (modR_oth hM1 (othM_of1 h1 h2) ⟨n, _, hok, h3⟩)
  · rw [if_neg c0] at hT ⊢
    subst hT
    exact hK _ hM0
theorem zz_miss {m : MV} {d p : RV} {xs : List RV} {a0 a1 : Option RV} {ri : Int32} {K : Int32 → MV → Prop} {T : Int32 × RV × List RV} (hT : f_X6_miss d xs ri = T) (hM : modR m d p xs a0 a1) (hK : ∀ m', modR m' T.2.1 p T.2.2 a0 a1 → K T.1 m') : PO_X7_miss ri K m := by
  obtain ⟨⟨n, ws, hd, hR⟩, -⟩ := id hM
  have hn := hd.1
  have l8 := dayOk_l8 hd
  unfold PO_X7_miss wp_X7_miss_0
  dsimp only [yl]
  have q0 : qst m (mI m 0 0) d n := qst_scr (qst_refl hR) (scr_I (scr_refl m) (by omega))
  have hM0 := modR_qst hM hd q0
  unfold f_X6_miss at hT
  dsimp only [yl] at hT
  refine q_isRide (d := d) (by rw [l8]; exact dayOk_s4 hd q0.1) (by omega) ?_
  by_cases c : f_X0_hasRide d ri = 0
  · rw [if_pos c] at hT ⊢
    subst hT
    exact hK _ hM0
  rw [if_neg c] at hT ⊢
  obtain ⟨r, hr, rfl⟩ := dayOk_rideF hd c
  refine q_of r 4 (by omega) (by omega) rfl rfl ?_
  rw [show (mI m 0 0).2 1 (33 + 7 * r + 4) = gA (d.1 8) r from (hR.1.2.2.1 r hr).2.2.2.2.1]
  rw [rAt_gA (by omega)] at hT
  by_cases c0 : gA (d.1 8) r = 1
  · rw [if_pos c0] at hT ⊢
    refine q_records ⟨n, ws, hd, q0.1⟩ hM0.2.1 ?_
    intro m1 hr1
    have hM1 := modR_rec hM0 hr1
    have es : m1.2 1 = m.2 1 := hr1.2.1 1 (by omega)
    refine q_leaves hd (by rw [es]; exact hR) hr ?_
    intro m2 hL
    refine q_lay r 4 (by omega) (by omega) rfl rfl ?_
    refine ⟨vp_in_nI (n := 5) (by omega) (by omega), ?_⟩
    subst hT
    have hok := leave_ok (how := 4) hd hr (by decide) (by decide) (Or.inr c0)
    have h3 := leave_rel (how := 4) hd (by rw [es]; exact hR) hr hL hok
    rw [← mA_at m2 1 (33 + 7 * r + 4) 4] at h3
    have ea : (mA m2 1 (33 + 7 * r + 4) 4).2 1 (5 : Int32).toNatClampNeg = rLen ((fLeave d (nI r) 4).1 11) := h3.2.2.2.1
    rw [ea]
    exact hK _ (modR_oth hM1 (othM_trans (othM_of1 hL.1 hL.2.1) (othM_A1 _ _ _)) ⟨n, _, hok, h3⟩)
  · rw [if_neg c0] at hT ⊢
    subst hT
    exact hK _ hM0
/-! ===== the dearest ride ===== -/
theorem q_putAside {m : MV} {K : MV → Prop} (hK : ∀ m', m'.1 = m.1 → (∀ j, j ≠ 2 → m'.2 j = m.2 j) → (∀ x, x < 186 → m'.2 2 x = m.2 1 x) → K m') : PO_X7_putAside K m := by
  refine ⟨fun w m' x1 => ∃ k, k ≤ 186 ∧ x1 = nI k ∧ w = 186 - k ∧ m'.1 = m.1 ∧ (∀ j, j ≠ 2 → m'.2 j = m.2 j) ∧ (∀ x, x < k → m'.2 2 x = m.2 1 x), ?_, ⟨_, 0, by omega, rfl, rfl, rfl, fun _ _ => rfl, fun x hx => absurd hx (Nat.not_lt_zero x)⟩⟩
  rintro w m' x1 ⟨k, hk, rfl, rfl, e1, e2, e3⟩
  unfold wp_X7_putAside_2
  by_cases c : 186 ≤ k
  · rw [if_pos (show (186 : Int32) ≤ nI k from (nI_leI (a := 186) (by omega) (by omega)).mpr c)]
    exact hK m' e1 e2 (fun x hx => e3 x (by omega))
  · rw [if_neg (fun (z : (186 : Int32) ≤ nI k) => c ((nI_leI (a := 186) (by omega) (by omega)).mp z))]
    rw [nI_clamp (by omega)]
    refine ⟨vp_in_nI (by omega) (by omega), vp_in_nI (by omega) (by omega), ?_⟩
    dsimp only [yl]
    refine ⟨_, by omega, k + 1, by omega, nI_1 k, rfl, e1, fun j hj => by rw [mA_ne hj]; exact e2 j hj, fun x hx => ?_⟩
    rw [mA_at]
    by_cases cx : x = k
    · rw [cx, upd_at, e2 1 (by omega)]
    · rw [upd_ne cx]; exact e3 x (by omega)
theorem q_takeBack {m : MV} {K : MV → Prop} (hK : ∀ m', m'.1 = m.1 → (∀ j, j ≠ 1 → m'.2 j = m.2 j) → (∀ x, x < 186 → m'.2 1 x = m.2 2 x) → K m') : PO_X7_takeBack K m := by
  refine ⟨fun w m' x1 => ∃ k, k ≤ 186 ∧ x1 = nI k ∧ w = 186 - k ∧ m'.1 = m.1 ∧ (∀ j, j ≠ 1 → m'.2 j = m.2 j) ∧ (∀ x, x < k → m'.2 1 x = m.2 2 x), ?_, ⟨_, 0, by omega, rfl, rfl, rfl, fun _ _ => rfl, fun x hx => absurd hx (Nat.not_lt_zero x)⟩⟩
  rintro w m' x1 ⟨k, hk, rfl, rfl, e1, e2, e3⟩
  unfold wp_X7_takeBack_2
  by_cases c : 186 ≤ k
  · rw [if_pos (show (186 : Int32) ≤ nI k from (nI_leI (a := 186) (by omega) (by omega)).mpr c)]
    exact hK m' e1 e2 (fun x hx => e3 x (by omega))
  · rw [if_neg (fun (z : (186 : Int32) ≤ nI k) => c ((nI_leI (a := 186) (by omega) (by omega)).mp z))]
    rw [nI_clamp (by omega)]
    refine ⟨vp_in_nI (by omega) (by omega), vp_in_nI (by omega) (by omega), ?_⟩
    dsimp only [yl]
    refine ⟨_, by omega, k + 1, by omega, nI_1 k, rfl, e1, fun j hj => by rw [mA_ne hj]; exact e2 j hj, fun x hx => ?_⟩
    rw [mA_at]
    by_cases cx : x = k
    · rw [cx, upd_at, e2 2 (by omega)]
    · rw [upd_ne cx]; exact e3 x (by omega)
theorem zz_dearest {m : MV} {d t sd p : RV} {xs : List RV} {a0 a1 : Option RV} {wh : Int32} {K : Int32 → MV → Prop} (hM : modR m d p xs a0 a1) (hK : ∀ m', modR m' d p xs a0 a1 → K (fDearest d t sd wh).1 m') : PO_X7_dearest wh K m := by
  obtain ⟨⟨n, ws, hd, hR⟩, -⟩ := id hM
  have hn := hd.1
  have l8 := dayOk_l8 hd
  obtain ⟨E0, hE⟩ : ∃ z, z = fDE d n 0 (fFollow T0 d) sd (-6) 0 := ⟨_, rfl⟩
  have hans : (wh = 0 ∨ wh = 1) → ∀ m', othM m m' → relS (m'.2 1) d n → (if E0.2.2.1 = -6 then K (-6) m' else if wh = 0 then K E0.2.2.1 m' else K E0.2.2.2 m') := by
    intro hw m' ho hr'
    have h := hK m' (modR_oth hM ho ⟨n, ws, hd, hr'⟩)
    unfold fDearest at h
    rw [if_pos hw, l8, ← hE] at h
    unfold fDEnd at h
    by_cases c1 : E0.2.2.1 = -6
    · rw [if_pos c1] at h ⊢; exact h
    · rw [if_neg c1] at h ⊢
      by_cases c2 : wh = 0
      · rw [if_pos c2] at h ⊢; exact h
      · rw [if_neg c2] at h ⊢; exact h
  refine ⟨fun w m' x2 x3 x4 x5 => ∃ i t' sd', i ≤ n ∧ x5 = nI i ∧ w = n - i ∧ x2 = fOver d ∧ (wh = 0 ∨ wh = 1) ∧ othM m m' ∧ relS (m'.2 1) d n ∧ relS (m'.2 2) d n ∧ fDE d (n - i) i t' sd' x3 x4 = E0, ?_, ?_⟩
  · rintro w m' x2 x3 x4 x5 ⟨i, t', sd', hi, rfl, rfl, rfl, hw, ho, hr1, hr2, hE'⟩
    unfold wp_X7_dearest_39
    refine ⟨vp_in_nI (n := 4) (by omega) (by omega), ?_⟩
    rw [show m'.2 1 (4 : Int32).toNatClampNeg = nI n from dayOk_s4 hd hr1]
    by_cases c : n ≤ i
    · rw [if_pos ((nI_leI (by omega) (by omega)).mpr c)]
      rw [show n - i = 0 by omega] at hE'
      have h := hans hw m' ho hr1
      rw [← hE'] at h
      exact h
    · rw [if_neg (fun z => c ((nI_leI (by omega) (by omega)).mp z))]
      rw [show n - i = (n - (i + 1)) + 1 by omega] at hE'
      unfold fDE at hE'
      rw [rAt_gA (by omega)] at hE'
      refine q_of i 4 (by omega) (by omega) rfl rfl ?_
      rw [(hr1.1.2.2.1 i (by omega)).2.2.2.2.1]
      by_cases c1 : gA (d.1 8) i = 0
      · rw [if_pos c1] at hE' ⊢
        refine q_cancels hd hr1 (by omega) c1 ?_
        intro m2 g1 g2 g3
        have hok := leave_ok (r := i) (how := 3) hd (by omega) (by decide) (by decide) (Or.inl c1)
        refine q_drivesRoute hok g3 ?_
        rintro m3 ⟨hsc, -, -, h15, -⟩
        have eO : m3.1 15 = fOver (fLeave d (nI i) 3) := by
          rw [h15]
          unfold fOver
          rw [(dayTab hok).2]
        refine q_takeBack ?_
        intro m4 k1 k2 k3
        have ho4 : othM m m4 := othM_trans ho (othM_trans (othM_of1 g1 g2) (othM_trans (othM_scr2 (scr2_of hsc)) (othM_of1 k1 k2)))
        have e32 : m3.2 2 = m'.2 2 := (hsc.2 2 (by omega) (by omega) (by omega) (by omega)).trans (g2 2 (by omega))
        have hr42 : relS (m4.2 2) d n := by rw [k2 2 (by omega), e32]; exact hr2
        have hr41 : relS (m4.2 1) d n := relS_congr hd (fun x hx => by rw [k3 x hx, e32]) hr2
        rw [eO]
        by_cases c2 : x3 = -6
        · rw [if_pos c2] at hE' ⊢
          unfold wp_X7_dearest_95 wp_X7_dearest_102
          exact ⟨_, by omega, i + 1, _, _, by omega, nI_1 i, rfl, rfl, hw, ho4, hr41, hr42, hE'⟩
        · rw [if_neg c2] at hE' ⊢
          by_cases c3 : fOver d - fOver (fLeave d (nI i) 3) ≤ x4
          · rw [if_pos c3] at hE' ⊢
            unfold wp_X7_dearest_102
            exact ⟨_, by omega, i + 1, _, _, by omega, nI_1 i, rfl, rfl, hw, ho4, hr41, hr42, hE'⟩
          · rw [if_neg c3] at hE' ⊢
            unfold wp_X7_dearest_95 wp_X7_dearest_102
            exact ⟨_, by omega, i + 1, _, _, by omega, nI_1 i, rfl, rfl, hw, ho4, hr41, hr42, hE'⟩
      · rw [if_neg c1] at hE' ⊢
        unfold wp_X7_dearest_102
        exact ⟨_, by omega, i + 1, _, _, by omega, nI_1 i, rfl, rfl, hw, ho, hr1, hr2, hE'⟩
  · unfold wp_X7_dearest_0
    dsimp only [yl]
    have q0 : qst m (mI m 0 0) d n := qst_scr (qst_refl hR) (scr_I (scr_refl m) (by omega))
    by_cases c : f_X7_in wh 0 1 = 0
    · rw [if_pos c]
      obtain ⟨n0, n1⟩ := in01_not c
      have h := hK _ (modR_qst hM hd q0)
      unfold fDearest at h
      rw [if_neg (fun z => z.elim n0 n1)] at h
      exact h
    · rw [if_neg c]
      refine q_drivesRoute hd q0.1 ?_
      rintro m1 ⟨hsc, -, -, h15, -⟩
      have q1 := qst_scr q0 hsc
      refine q_putAside ?_
      intro m2 g1 g2 g3
      refine ⟨_, 0, fFollow T0 d, sd, by omega, rfl, rfl, ?_, in01 c, ?_, ?_, ?_, hE.symm⟩
      · rw [h15]
        unfold fOver
        rw [(dayTab hd).2]
      · exact othM_trans q1.2 ⟨g2 3 (by omega), g2 5 (by omega), g2 6 (by omega), g2 7 (by omega), g2 24 (by omega), by rw [g1], by rw [g1], by rw [g1]⟩
      · rw [g2 1 (by omega)]; exact q1.1
      · exact relS_congr hd (fun x hx => g3 x hx) q1.1
