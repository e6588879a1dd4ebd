/-! ===== what a booking would bring ===== -/
/-- what neither a question nor a booking writes: the history, the slots, the pad, what was read -/
def othM (a b : MV) : Prop := b.2 3 = a.2 3 ∧ b.2 5 = a.2 5 ∧ b.2 6 = a.2 6 ∧ b.2 7 = a.2 7 ∧ b.2 24 = a.2 24 ∧ b.1 4 = a.1 4 ∧ b.1 8 = a.1 8 ∧ b.1 25 = a.1 25
theorem othM_refl (a : MV) : othM a a := ⟨rfl, rfl, rfl, rfl, rfl, rfl, rfl, rfl⟩
theorem othM_trans {a b c : MV} (h : othM a b) (g : othM b c) : othM a c := ⟨g.1.trans h.1, g.2.1.trans h.2.1, g.2.2.1.trans h.2.2.1, g.2.2.2.1.trans h.2.2.2.1, g.2.2.2.2.1.trans h.2.2.2.2.1, g.2.2.2.2.2.1.trans h.2.2.2.2.2.1, g.2.2.2.2.2.2.1.trans h.2.2.2.2.2.2.1, g.2.2.2.2.2.2.2.trans h.2.2.2.2.2.2.2⟩
theorem othM_scr2 {a b : MV} (h2 : scr2 a b) : othM a b := ⟨h2.2 3 (by omega) (by omega) (by omega) (by omega), h2.2 5 (by omega) (by omega) (by omega) (by omega), h2.2 6 (by omega) (by omega) (by omega) (by omega), h2.2 7 (by omega) (by omega) (by omega) (by omega), h2.2 24 (by omega) (by omega) (by omega) (by omega), h2.1 4 (by omega) (by omega) (by omega), h2.1 8 (by omega) (by omega) (by omega), h2.1 25 (by omega) (by omega) (by omega)⟩
def qst (m m' : MV) (d : RV) (n : Nat) : Prop := relS (m'.2 1) d n ∧ othM m m'
theorem qst_refl {m : MV} {d : RV} {n : Nat} (h : relS (m.2 1) d n) : qst m m d n := ⟨h, othM_refl m⟩
theorem qst_scr2 {m a b : MV} {d : RV} {n : Nat} (h : qst m a d n) (h2 : scr2 a b) : qst m b d n := ⟨by rw [scr2_s h2]; exact h.1, othM_trans h.2 (othM_scr2 h2)⟩
theorem qst_scr {m a b : MV} {d : RV} {n : Nat} (h : qst m a d n) (h2 : scr a b) : qst m b d n := qst_scr2 h (scr2_of h2)
theorem qst_laid {m a b : MV} {d : RV} {n : Nat} {ws : List Nat} {fr to wa bt : Int32} (hd : dayOk d n ws) (h : qst m a d n) (h2 : laidR a b n fr to wa bt) : qst m b d n ∧ relD (b.2 1) (fDay1 d fr to wa bt) (n + 1) := by
  obtain ⟨g1, g2⟩ := laid_rel hd h.1 h2
  obtain ⟨e1, e2, -⟩ := h2
  exact ⟨⟨g1, othM_trans h.2 ⟨e2 3 (by omega), e2 5 (by omega), e2 6 (by omega), e2 7 (by omega), e2 24 (by omega), by rw [e1], by rw [e1], by rw [e1]⟩⟩, g2⟩
theorem err_arg {d : RV} {n : Nat} {ws : List Nat} {fr to wa bt : Int32} (hd : dayOk d n ws) (h : f_X6_errorOf d fr to wa bt = 0) : argOk d fr to wa bt := by
  unfold f_X6_errorOf at h
  dsimp only [yl] at h
  by_cases c1 : f_X0_hasStop d fr = 0
  · rw [if_pos c1] at h; exact absurd h (by decide)
  rw [if_neg c1] at h
  by_cases c2 : f_X0_hasStop d to = 0
  · rw [if_pos c2] at h; exact absurd h (by decide)
  rw [if_neg c2] at h
  by_cases c3 : fr = to
  · rw [if_pos c3] at h; exact absurd h (by decide)
  rw [if_neg c3] at h
  by_cases c4 : wa < 0
  · rw [if_pos c4] at h; exact absurd h (by decide)
  rw [if_neg c4] at h
  by_cases c5 : 600 < wa
  · rw [if_pos c5] at h; exact absurd h (by decide)
  rw [if_neg c5] at h
  by_cases c6 : bt < 0
  · rw [if_pos c6] at h; exact absurd h (by decide)
  rw [if_neg c6] at h
  by_cases c7 : bt ≤ 900
  · obtain ⟨a, ha, e1, hal⟩ := dayOk_stopF hd c1
    obtain ⟨b, hb, e2, hbl⟩ := dayOk_stopF hd c2
    rw [fa_lt, t32_0] at c4 c6
    rw [fa_lt] at c5
    rw [fa_le] at c7
    have t6 : (600 : Int32).toInt = 600 := by decide
    have t9 : (900 : Int32).toInt = 900 := by decide
    exact ⟨⟨a, b, ha, hb, e1, e2, hal, hbl⟩, ⟨by omega, by omega⟩, ⟨by omega, by omega⟩⟩
  · rw [if_neg c7] at h; exact absurd h (by decide)
theorem q_refuses {m : MV} {d : RV} {n : Nat} {ws : List Nat} {fr to wa bt : Int32} {K : Int32 → Prop} (hd : dayOk d n ws) (hR : relS (m.2 1) d n) (hK : K (f_X6_errorOf d fr to wa bt)) : PO_X7_refuses m fr to wa bt K := by
  have hl := hd.2.1.2.1
  unfold PO_X7_refuses wp_X7_refuses_0
  unfold f_X6_errorOf at hK
  dsimp only [yl] at hK ⊢
  refine q_isStop (d := d) hR.2.1 (by omega) ?_
  by_cases c1 : f_X0_hasStop d fr = 0
  · rw [if_pos c1] at hK ⊢; exact hK
  rw [if_neg c1] at hK ⊢
  refine q_isStop (d := d) hR.2.1 (by omega) ?_
  by_cases c2 : f_X0_hasStop d to = 0
  · rw [if_pos c2] at hK ⊢; exact hK
  rw [if_neg c2] at hK ⊢
  by_cases c3 : fr = to
  · rw [if_pos c3] at hK ⊢; exact hK
  rw [if_neg c3] at hK ⊢
  unfold f_X7_in
  by_cases c4 : wa < 0
  · rw [if_pos c4] at hK
    rw [if_pos c4, if_pos rfl]; exact hK
  rw [if_neg c4] at hK
  rw [if_neg c4]
  by_cases c5 : 600 < wa
  · rw [if_pos c5] at hK
    rw [if_pos c5, if_pos rfl]; exact hK
  rw [if_neg c5] at hK
  rw [if_neg c5, if_neg (by decide)]
  by_cases c6 : bt < 0
  · rw [if_pos c6] at hK
    rw [if_pos c6, if_pos rfl]; exact hK
  rw [if_neg c6] at hK
  rw [if_neg c6]
  by_cases c7 : bt ≤ 900
  · rw [if_pos c7] at hK
    rw [if_neg (Int32.not_lt.mpr c7), if_neg (by decide)]; exact hK
  · rw [if_neg c7] at hK
    rw [if_pos (Int32.not_le.mp c7), if_pos rfl]; exact hK
/-- what was found, in the class's words -/
def bestP (d : RV) (ws : List Nat) (n : Nat) (d1 : RV) (F : Int32 × RV × RV × RV) (m' : MV) (i j : Nat) : Prop := F.1 = 1 ∧ m'.1 20 = F.2.1.2 0 ∧ m'.1 21 = F.2.1.2 4 ∧ fP0 d ≤ i ∧ i < j ∧ j ≤ ws.length + 1 ∧ m'.1 17 = nI i ∧ m'.1 18 = nI j ∧ bestR d1 ws n i j F.2.1 ∧ F.2.2.1 = dayW2 d1 ws n i j
theorem found_E {d sv st : RV} {n : Nat} {ws : List Nat} {fr to wa bt : Int32} {m0 m' : MV} (hd : dayOk d n ws) (h : foundP d ws n fr to wa bt sv st m0 m') {F : Int32 × RV × RV × RV} (hFF : fFind d fr to wa bt sv st = F) : (F.1 = 0 ∧ F.2.1.2 0 = 0) ∨ ∃ i j, bestP d ws n (fDay1 d fr to wa bt) F m' i j := by
  subst hFF
  have hn := hd.1
  have hwl := hd.2.2.2.2.2.1.2.2.1
  have h11 := hd.2.2.2.2.2.1.1
  obtain ⟨hs, c, hc, ⟨w0, w20, w6, wb⟩, x, hx⟩ := h
  have hrd := day1_ride (fr := fr) (to := to) (wa := wa) (bt := bt) hd
  unfold bestP fFind fFindEnd
  rw [hrd]
  generalize fTried d fr to wa bt sv st = s at w0 w20 w6 wb hx
  by_cases c0 : c = 0
  · rw [w0, c0, if_pos (by decide)]
    refine Or.inl ⟨rfl, ?_⟩
    show s.1.2 0 = 0
    rw [w0, c0]
    rfl
  · rw [w0, if_neg (nI_nle (by omega) (by omega))]
    obtain ⟨g1, g2, g3, g4, i, j, g5, g6, g7, g8, g9, g10, g11, g12⟩ := wb (by omega)
    refine Or.inr ⟨i, j, rfl, by rw [w20, w0], g2, g5, g6, g7, g8, g10, g12, ?_⟩
    show f_X4_lay s.1 s.2.1 (d.1 11) (nI n) (s.1.2 5) (s.1.2 6) = _
    rw [g9, g11, h11, lay_eq (by omega) (by omega) (by omega) g7, hx, rvR_rvR]
    rfl
theorem z_earliestBy {m : MV} {d sv sd st : RV} {n : Nat} {ws : List Nat} {fr to wa : Int32} {K : Int32 → MV → Prop} (hd : dayOk d n ws) (hR : relS (m.2 1) d n) (hK : ∀ m', qst m m' d n → K (f_X6_earliestBy d sv sd st fr to wa).1 m') : PO_X7_earliestBy fr to wa K m := by
  have hn := hd.1
  unfold PO_X7_earliestBy wp_X7_earliestBy_0
  dsimp only [yl]
  have q0 : qst m (mI m 0 0) d n := qst_scr (qst_refl hR) (scr_I (scr_refl m) (by omega))
  refine q_refuses (d := d) hd q0.1 ?_
  have e : f_X6_errorOf d fr to wa 0 = f_X6_errorOf d fr to wa 900 := rfl
  rw [e]
  unfold f_X6_earliestBy at hK
  dsimp only [yl] at hK
  generalize hFF : fFind d fr to wa 900 sv st = F at hK
  by_cases c : f_X6_errorOf d fr to wa 900 = 0
  · simp only [if_pos c] at hK ⊢
    have ha := err_arg hd c
    refine q_laysRide (n := n) (by omega) (dayOk_s4 hd q0.1) ?_
    intro m1 hm1
    obtain ⟨q1, r1⟩ := qst_laid hd q0 hm1
    refine q_findsWay (sv := sv) (st := st) hd ha q1.1 r1 rfl ?_
    intro m2 hm2
    rw [hFF]
    have h := hK m2 (qst_scr2 q1 hm2.1)
    rcases found_E hd hm2 hFF with ⟨e1, -⟩ | ⟨i, j, e1, -, e21, -⟩
    · rw [e1, if_pos rfl] at h
      rw [e1, if_pos rfl]
      exact h
    · rw [e1, if_neg (by decide)] at h
      rw [e1, if_neg (by decide), e21]
      exact h
  · simp only [if_neg c] at hK ⊢
    exact hK _ q0
theorem z_ifBooked {m : MV} {d t sv sd st : RV} {n : Nat} {ws : List Nat} {fr to wa bt wh : Int32} {K : Int32 → MV → Prop} (hd : dayOk d n ws) (hR : relS (m.2 1) d n) (hK : ∀ m', qst m m' d n → K (f_X6_ifBooked d t sv sd st fr to wa bt wh).1 m') : PO_X7_ifBooked fr to wa bt wh K m := by
  have hn := hd.1
  have hw := hd.2.2.2.2.2.1.2.1
  have hwl := hd.2.2.2.2.2.1.2.2.1
  have h11 := hd.2.2.2.2.2.1.1
  obtain ⟨hF0, hfo⟩ := dayTab hd
  unfold PO_X7_ifBooked wp_X7_ifBooked_0
  dsimp only [yl]
  have q0 : qst m (mI m 0 0) d n := qst_scr (qst_refl hR) (scr_I (scr_refl m) (by omega))
  refine q_refuses (d := d) hd q0.1 ?_
  unfold f_X6_ifBooked f_X6_overOf at hK
  dsimp only [yl] at hK
  generalize hFF : fFind d fr to wa bt sv st = F at hK
  by_cases c : f_X6_errorOf d fr to wa bt = 0
  · simp only [if_pos c] at hK ⊢
    have ha := err_arg hd c
    unfold f_X7_in
    by_cases c1 : wh < 0
    · simp only [if_pos c1] at hK ⊢
      exact hK _ q0
    simp only [if_neg c1] at hK ⊢
    by_cases c2 : wh ≤ 3
    · simp only [if_pos c2] at hK
      rw [if_neg (Int32.not_lt.mpr c2), if_neg (by decide)]
      refine q_drivesRoute (d := d) hd q0.1 ?_
      intro m1 hm1
      have q1 := qst_scr q0 hm1.1
      refine q_laysRide (n := n) (by omega) (dayOk_s4 hd q1.1) ?_
      intro m2 hm2
      obtain ⟨q2, r2⟩ := qst_laid hd q1 hm2
      refine q_findsWay (sv := sv) (st := st) hd ha q2.1 r2 rfl ?_
      intro m3 hm3
      rw [hFF]
      have q3 := qst_scr2 q2 hm3.1
      rcases found_E hd hm3 hFF with ⟨e1, e2⟩ | ⟨i, j, e1, e20, -, hp0, hij, hj, e17, e18, ⟨b1, b2, b3, -⟩, -⟩
      · have h := hK m3 q3
        rw [e1, if_pos rfl] at h
        rw [e1, if_pos rfl]
        by_cases c3 : wh = 3
        · rw [if_pos c3] at h ⊢
          rw [e2] at h
          exact h
        · rw [if_neg c3] at h ⊢
          exact h
      · rw [e1, if_neg (by decide)]
        obtain ⟨h5, hr⟩ := dayOk_way hd q3.1
        refine q_laysWay i j (by omega) rfl e17 e18 (by omega) hij hj h5 hr ?_
        intro m4 hs4 hway
        have q4 := qst_scr q3 hs4
        have hll : (d.1 11).length = ws.length := by rw [h11, List.length_map]
        refine q_leaving (d := d) (by rw [hll]; omega) q4.1.2.2.2.1 q4.1.1.2.2.2.1 q4.1.2.2.2.2.1 ?_
        obtain ⟨e0, _, _, _, _, _, _, _, _, _, _, e11, f0, f1, f2, -⟩ := day1_eq (d := d) (fr := fr) (to := to) (wa := wa) (bt := bt) (by rw [hll]; omega)
        obtain ⟨st1, st2⟩ := day1_stand (fr := fr) (to := to) (wa := wa) (bt := bt) hd
        have hF := wayW_F hd ha hij hj
        have hlen := wayOf_len (n := n) (i := i) (j := j) (ws := ws) (by omega) hj
        have r4 : relD (m4.2 1) (fDay1 d fr to wa bt) (n + 1) := by
          rw [scr_s hs4, scr2_s hm3.1]
          exact r2
        refine q_drives (d := dayW2 (fDay1 d fr to wa bt) ws n i j) (ws := wayOf ws n i j) (n := n + 1) n (by omega) (by omega) (wayOf_ok hw (by omega) hij hj) (dayW2_len (day1_len hd)) (dayW2_bd (day1_bd hd ha)) (dayW2_rel r4) hway (dayOk_s4 hd q4.1) st1 f2.symm (by show bd ((fDay1 d fr to wa bt).2 2) 0 3000; rw [f2]; exact bd_wide (leaveT_bd hd) (by omega) (by omega)) ?_
        rintro m5 ⟨⟨hfr, -, harr, -⟩, h15⟩
        have q5 := qst_scr q4 (scr_of_fr hfr)
        have h := hK m5 q5
        have k17 : m5.1 17 = nI i := by rw [hfr.1 17 (by omega) (by omega) (by omega), hs4.1 17 (by omega) (by omega) (by omega) (by omega) (by omega), e17]
        have k18 : m5.1 18 = nI j := by rw [hfr.1 18 (by omega) (by omega) (by omega), hs4.1 18 (by omega) (by omega) (by omega) (by omega) (by omega), e18]
        have k20 : m5.1 20 = m3.1 20 := by rw [hfr.1 20 (by omega) (by omega) (by omega), hs4.1 20 (by omega) (by omega) (by omega) (by omega) (by omega)]
        obtain ⟨-, -, -, -, -, -, -, -, -, -, ff2, -, fg2⟩ := hF
        have gi : gN (wayOf ws n i j) i = 2 * n := by rw [gN_wayOf (by omega) hj, if_pos hij, if_neg (by omega), if_pos rfl]
        have gj : gN (wayOf ws n i j) j = 2 * n + 1 := by rw [gN_wayOf (by omega) hj, if_neg (by omega), if_pos rfl]
        have ti : m5.2 11 i = F.2.1.2 2 := by
          rw [b2, (harr i (by omega)).1, gi]
          exact (ff2 n i (by omega) gi).symm
        have tj : m5.2 11 j = F.2.1.2 3 := by
          rw [b3, (harr j (by omega)).1, gj]
          exact (fg2 n j (by omega) gj).symm
        have to_ : m5.1 15 = F.2.1.2 1 := by rw [h15, b1]; rfl
        rw [k17, k18, nI_clamp (by omega), nI_clamp (by omega), ti, tj, to_, hm1.2.2.2.1, ← hfo, k20, e20]
        have hin : ∀ k, k < 36 → vp_in (nI k) 36 := fun k hk => vp_in_nI hk (by omega)
        rw [e1] at h
        by_cases c3 : wh = 3
        · subst c3
          rw [if_pos rfl] at h
          rw [if_neg (by decide), if_neg (by decide), if_neg (by decide)]
          exact h
        rw [if_neg c3, if_neg (by decide)] at h
        by_cases d0 : wh = 0
        · rw [if_pos d0] at h ⊢; exact h
        rw [if_neg d0] at h ⊢
        by_cases d1 : wh = 1
        · rw [if_pos d1] at h ⊢; exact ⟨hin i (by omega), h⟩
        rw [if_neg d1] at h ⊢
        by_cases d2 : wh = 2
        · rw [if_pos d2]; exact ⟨hin j (by omega), h⟩
        exfalso
        rw [fa_lt, t32_0] at c1
        have t3 : (3 : Int32).toInt = 3 := by decide
        rw [fa_le, t3] at c2
        obtain ⟨w, hw3, e⟩ := bd_nat (x := wh) (hi := 3) ⟨by omega, by omega⟩
        rcases (show w = 0 ∨ w = 1 ∨ w = 2 ∨ w = 3 by omega) with q | q | q | q <;> subst q
        · exact d0 e
        · exact d1 e
        · exact d2 e
        · exact c3 e
    · simp only [if_neg c2] at hK
      rw [if_pos (Int32.not_le.mp c2), if_pos rfl]
      exact hK _ q0
  · simp only [if_neg c] at hK ⊢
    exact hK _ q0
