/-! ===== time goes by ===== -/
theorem step_now {d t : RV} {x v : Int32} : f_X5_step t (rvI d 0 x) v = f_X5_step t d v := rfl
theorem TK_now {d : RV} {ws : List Nat} {x : Int32} : ∀ k, TK (rvI d 0 x) ws k = TK d ws k := by
  intro k
  induction k with
  | zero => rfl
  | succ k ih =>
    show (f_X5_step (TK (rvI d 0 x) ws k) (rvI d 0 x) _).2 = (f_X5_step (TK d ws k) d _).2
    rw [ih, step_now]
/-- the day in the midst of passing: behind k visits -/
def midP (d e : RV) (ws : List Nat) (k : Nat) : Prop := (∀ j, j < 8 → e.1 j = d.1 j) ∧ e.2 0 = d.2 0 ∧ e.2 1 = (TK d ws k).2 0 ∧ e.2 2 = (TK d ws k).2 1
theorem mid_time {d e : RV} {ws l : List Nat} {k v : Nat} (hm : midP d e ws k) : sTime e (TK e l 0) v = sTime d (TK d ws k) v := by
  obtain ⟨h1, -, h3, h4⟩ := hm
  have e0 : (TK e l 0).2 0 = e.2 1 := rfl
  have e1 : (TK e l 0).2 1 = e.2 2 := rfl
  unfold sTime sCome sMin sSt f_X0_stopOf f_X0_minutes
  rw [e0, e1, h3, h4, h1 1 (by omega), h1 2 (by omega), h1 3 (by omega), h1 4 (by omega), h1 5 (by omega)]
theorem dayOk_now {d : RV} {n : Nat} {ws : List Nat} {x : Int32} (hd : dayOk d n ws) (hx : bd x 0 2000) : dayOk (rvI d 0 x) n ws := by
  obtain ⟨h1, h2, h3, h4, -, h6, h7⟩ := hd
  exact ⟨h1, h2, h3, h4, hx, h6, h7⟩
theorem relS_now {s : Nat → Int32} {d : RV} {n : Nat} {x : Int32} (hd : (d.1 11).length ≤ 34) (hn : n ≤ 16) (hR : relS s d n) : relS (upd s 6 x) (rvI d 0 x) n := by
  obtain ⟨⟨⟨s0, s1, s2⟩, hst, hri, s6, s7⟩, c3, c4, c5, c8, crt⟩ := hR
  have hu : ∀ y, y ≠ 6 → upd s 6 x y = s y := fun y hy => upd_ne hy
  refine ⟨⟨⟨by rw [hu _ (by omega)]; exact s0, by rw [hu _ (by omega)]; exact s1, by rw [hu _ (by omega)]; exact s2⟩, fun i hi => by rw [hu _ (by omega), hu _ (by omega)]; exact hst i hi, fun r hr => ?_, upd_at _ _ _, by rw [hu _ (by omega)]; exact s7⟩, by rw [hu _ (by omega)]; exact c3, by rw [hu _ (by omega)]; exact c4, by rw [hu _ (by omega)]; exact c5, by rw [hu _ (by omega)]; exact c8, fun k hk => by rw [hu _ (by omega)]; exact crt k hk⟩
  rw [hu _ (by omega), hu _ (by omega), hu _ (by omega), hu _ (by omega), hu _ (by omega), hu _ (by omega), hu _ (by omega)]
  exact hri r hr
theorem zz_pass {m : MV} {d t p : RV} {xs : List RV} {a0 a1 : Option RV} {nw : Int32} {K : Int32 → MV → Prop} {T : Int32 × RV × RV × List RV} (hT : f_X6_pass d t xs nw = T) (hM : modR m d p xs a0 a1) (hK : ∀ m', modR m' T.2.1 p T.2.2.2 a0 a1 → K T.1 m') : PO_X7_pass nw K m := by
  obtain ⟨⟨n, ws, hd, hR⟩, -⟩ := id hM
  have hn := hd.1
  have hnow := hd.2.2.2.2.1
  have h11 := hd.2.2.2.2.2.1.1
  have hwl := hd.2.2.2.2.2.1.2.2.1
  obtain ⟨hF, -⟩ := dayTab hd
  obtain ⟨-, -, -, -, -, fb, -⟩ := hF
  unfold f_X6_pass at hT
  dsimp only [yl] at hT
  have hfo : fFollow T0 (rvI d 0 nw) = TK d ws ws.length := by rw [follow_TK (d := rvI d 0 nw) (ws := ws) h11, TK_now]
  rw [hfo] at hT
  -- the class's row of visits, from k on
  refine ⟨fun w m' x2 => ∃ k e m1, k ≤ ws.length ∧ x2 = nI k ∧ w = ws.length - k ∧ ¬ nw ≤ d.2 0 ∧ nw ≤ 2000 ∧ modR m1 d p (fHist xs d) a0 a1 ∧ othM m1 m' ∧ dayOk e n (ws.drop k) ∧ relS (m'.2 1) e n ∧ midP d e ws k ∧ fCarryN (TK d ws ws.length) (ws.length - k) k (rvI e 0 nw) = fCarry (TK d ws ws.length) (rvI d 0 nw) ∧ (k < ws.length → m'.2 11 0 = sTime d (TK d ws k) (gN ws k)), ?_, ?_⟩
  · rintro w m' x2 ⟨k, e, m1, hk, rfl, rfl, c1, c2, hM1, ho, hde, hRe, hmid, hca, h11'⟩
    unfold wp_X7_pass_36
    rw [if_neg c1, if_pos c2] at hT
    have hwe := hde.2.2.2.2.2.1.2.2.1
    have he11 := hde.2.2.2.2.2.1.1
    have hlen : (ws.drop k).length = ws.length - k := List.length_drop
    obtain ⟨h5, -⟩ := dayOk_way hde hRe
    rw [show m'.2 1 (5 : Int32).toNatClampNeg = nI (ws.length - k) by rw [← hlen]; exact h5]
    refine ⟨vp_in_nI (n := 5) (by omega) (by omega), ?_⟩
    have t20 : (2000 : Int32).toInt = 2000 := by decide
    have hbnw : bd nw 0 2000 := by
      have h1 := hnow.1
      rw [fa_le] at c1 c2
      exact ⟨by omega, by omega⟩
    -- the end
    have fin : fCarry (TK d ws ws.length) (rvI d 0 nw) = (k, rvI e 0 nw) → K (nI k) (mA m' 1 (6 : Int32).toNatClampNeg nw) := by
      intro hfc
      rw [hfc] at hT
      subst hT
      have hok := dayOk_now (x := nw) hde hbnw
      refine hK _ (modR_oth hM1 (othM_trans ho (othM_A1 _ _ _)) ⟨n, _, hok, ?_⟩)
      rw [mA_at]
      exact relS_now (by rw [he11, List.length_map]; omega) hn hRe
    by_cases c : ws.length ≤ k
    · rw [if_pos (by rw [show ws.length - k = 0 by omega]; decide)]
      refine ⟨vp_in_nI (n := 6) (by omega) (by omega), ?_⟩
      rw [show ws.length - k = 0 by omega] at hca
      exact fin hca.symm
    · rw [if_neg (nI_nle (by omega) (by omega))]
      refine ⟨vp_in_nI (n := 0) (by omega) (by omega), ?_⟩
      rw [show m'.2 11 (0 : Int32).toNatClampNeg = sTime d (TK d ws k) (gN ws k) from h11' (by omega)]
      rw [show ws.length - k = (ws.length - (k + 1)) + 1 by omega] at hca
      unfold fCarryN at hca
      have etm : rAt ((TK d ws ws.length).1 0) (nI k) = sTime d (TK d ws k) (gN ws k) := by
        rw [rAt_gA (by omega)]
        exact (fb k (by omega)).1
      have enw : (rvI e 0 nw).2 0 = nw := rfl
      rw [etm, enw] at hca
      by_cases c3 : nw ≤ sTime d (TK d ws k) (gN ws k)
      · rw [if_pos c3]
        rw [if_neg (Int32.not_lt.mpr c3)] at hca
        exact ⟨vp_in_nI (n := 6) (by omega) (by omega), fin hca.symm⟩
      · rw [if_neg c3]
        rw [if_pos (Int32.not_le.mp c3)] at hca
        have hdk : ws.drop k = gN ws k :: ws.drop (k + 1) := by rw [List.drop_eq_getElem_cons (by omega), ← gN_get (by omega)]
        rw [hdk] at hde
        have hbt : bd (sTime d (TK d ws k) (gN ws k)) 0 2000 := by
          have hTk := tab_F (d := d) (by omega) hd.2.2.2.2.2.1.2.1 hd.2.1 hd.2.2.1 (bd_wide hd.2.2.2.1 (by omega) (by omega)) k (by omega)
          obtain ⟨-, -, -, -, -, -, fc, -⟩ := hTk
          have h1 := sTime_bd (v := gN ws k) hd.2.2.1.2.1 hd.2.2.1.2.2.1 fc (by omega)
          rw [fa_le] at c3
          exact ⟨h1.1, by have := hbnw.2; omega⟩
        have hvk : gN ws k < 34 := by
          have := hd.2.2.2.2.2.1.2.1.2.1 k (by omega)
          omega
        refine q_visits hde hRe (h11' (by omega)) ?_
        intro m2 g1 g2 g3
        have hok := visit_ok hde hbt
        obtain ⟨mo, -, -, -, -, mf0, mf1, mf2⟩ := mkV_eq (e := e) (ti := sTime d (TK d ws k) (gN ws k)) hvk
        obtain ⟨hm1, hm2, hm3, hm4⟩ := id hmid
        obtain ⟨t0, t1, -⟩ := TK_step (d := d) (ws := ws) (n := n) (k := k) (by omega) hd.2.2.2.2.2.1.2.1 (by omega)
        have hmid' : midP d (mkV e (gN ws k) (sTime d (TK d ws k) (gN ws k))) ws (k + 1) := by
          refine ⟨fun j hj => by rw [mo j (by omega) (by omega) (by omega) (by omega)]; exact hm1 j hj, by rw [mf0]; exact hm2, ?_, ?_⟩
          · rw [mf1, t0]
            unfold sSt f_X0_stopOf
            rw [hm1 3 (by omega), hm1 4 (by omega)]
          · rw [mf2, t1, hm1 0 (by omega)]
        refine q_drivesRoute hok g3 ?_
        rintro m3 ⟨hsc, -, -, -, harr⟩
        refine ⟨_, by omega, k + 1, mkV e (gN ws k) (sTime d (TK d ws k) (gN ws k)), m1, by omega, nI_1 k, rfl, c1, c2, hM1, othM_trans ho (othM_trans (othM_of1 g1 g2) (othM_scr2 (scr2_of hsc))), hok, by rw [scr_s hsc]; exact g3, hmid', ?_, ?_⟩
        · rw [← hca]
          have ed : fDo (TK d ws ws.length) (rvI e 0 nw) k = rvI (mkV e (gN ws k) (sTime d (TK d ws k) (gN ws k))) 0 nw := by
            rw [← mkV_now]
            unfold fDo mkV
            rw [etm]
            have ev : rAt ((rvI e 0 nw).1 11) 0 = nI (gN ws k) := by
              show rAt (e.1 11) (0 : Int32) = _
              rw [show rAt (e.1 11) (0 : Int32) = gA (e.1 11) 0 from rAt_gA (i := 0) (by omega), he11, hdk, List.map_cons]
              rfl
            rw [ev]
          rw [ed]
        · intro hk1
          have hgk : gN (ws.drop (k + 1)) 0 = gN ws (k + 1) := by
            unfold gN
            rw [List.getD_eq_getElem?_getD, List.getElem?_drop, List.getD_eq_getElem?_getD]
          have hz : 0 < (ws.drop (k + 1)).length := by rw [List.length_drop]; omega
          rw [(harr 0 hz).1, hgk]
          exact mid_time hmid'
  · unfold wp_X7_pass_0
    dsimp only [yl]
    have q0 : qst m (mI m 0 0) d n := qst_scr (qst_refl hR) (scr_I (scr_refl m) (by omega))
    have hM0 := modR_qst hM hd q0
    rw [show (mI m 0 0).2 1 (6 : Int32).toNatClampNeg = d.2 0 from hR.1.2.2.2.1]
    refine ⟨vp_in_nI (n := 6) (by omega) (by omega), ?_⟩
    by_cases c1 : nw ≤ d.2 0
    · rw [if_pos c1] at hT ⊢
      subst hT
      exact hK _ hM0
    rw [if_neg c1]
    by_cases c2 : nw ≤ 2000
    · rw [if_pos c2]
      refine q_records ⟨n, ws, hd, q0.1⟩ hM0.2.1 ?_
      intro m1 hr1
      have hM1 := modR_rec hM0 hr1
      have es : m1.2 1 = m.2 1 := hr1.2.1 1 (by omega)
      refine q_drivesRoute (d := d) hd (by rw [es]; exact hR) ?_
      rintro m2 ⟨hsc, -, -, -, harr⟩
      refine ⟨_, 0, d, m1, by omega, rfl, rfl, c1, c2, hM1, othM_scr2 (scr2_of hsc), by rw [List.drop_zero]; exact hd, by rw [scr_s hsc, es]; exact hR, ⟨fun _ _ => rfl, rfl, rfl, rfl⟩, ?_, fun hpos => (harr 0 hpos).1⟩
      unfold fCarry
      rw [show ((rvI d 0 nw).1 11).length = ws.length by show (d.1 11).length = _; rw [h11, List.length_map]]
      rfl
    · rw [if_neg c2]
      rw [if_neg c1, if_neg c2] at hT
      subst hT
      exact hK _ hM0
