/-! ===== booking ===== -/
theorem flags_load {d : RV} {ws : List Nat} {n : Nat} (hn : n ≤ 17) (hw : wsOk ws n) (hb : bdS d) (hF : ∀ k, k ≤ ws.length → tabF d ws n k) (h0 : ¬ gA (d.1 0) 0 < (TK d ws 0).2 2) (hfl : ∀ j, j < ws.length → flagK d ws j ≠ 0) : ∀ k, k ≤ ws.length → ¬ gA (d.1 0) 0 < (TK d ws k).2 2 := by
  intro k
  induction k with
  | zero => exact fun _ => h0
  | succ k ih =>
    intro hk
    have h1 := ih (by omega)
    have hv := hw.2.1 k (by omega)
    have hwl := hw.1
    obtain ⟨-, -, s2, -⟩ := TK_step (d := d) hn hw (k := k) (by omega)
    rw [s2]
    unfold sAb
    by_cases ev : gN ws k % 2 = 0
    · rw [if_pos ev]
      have h2 := hfl k (by omega)
      have h3 : flagK d ws k = _ := step_flag0 (d := d) (t := TK d ws k) (v := gN ws k) (by omega) ev
      rw [h3] at h2
      intro c
      rw [if_pos c] at h2
      exact h2 rfl
    · rw [if_neg ev]
      exact ab_down (hF k (by omega)) (by omega) hb h1
theorem load_from {d : RV} {ws : List Nat} {n : Nat} (hn : n ≤ 17) (hw : wsOk ws n) (hF : ∀ k, k ≤ ws.length → tabF d ws n k) (hl : ∀ k, k ≤ ws.length → ¬ gA (d.1 0) 0 < (TK d ws k).2 2) : ∀ r k, k + r = ws.length → ldOk (gA (d.1 0) 0).toInt ((TK d ws k).2 2).toInt (ws.drop k) := by
  intro r
  induction r with
  | zero =>
    intro k hk
    rw [List.drop_of_length_le (by omega)]
    have h := hl k (by omega)
    rw [fa_lt] at h
    show ((TK d ws k).2 2).toInt ≤ _
    omega
  | succ r ih =>
    intro k hk
    rw [List.drop_eq_getElem_cons (by omega), ← gN_get (by omega)]
    have h := hl k (by omega)
    rw [fa_lt] at h
    refine ⟨by omega, ?_⟩
    have h2 := ih (k + 1) (by omega)
    have hwl := hw.1
    obtain ⟨-, -, s2, -⟩ := TK_step (d := d) hn hw (k := k) (by omega)
    obtain ⟨-, -, -, -, -, -, -, -, fe, -⟩ := hF k (by omega)
    rw [s2] at h2
    unfold sAb at h2
    by_cases ev : gN ws k % 2 = 0
    · rw [if_pos ev] at h2 ⊢
      rw [(bd_add (y := 1) (c := 1) (e := 1) fe ⟨by rw [t32_1]; omega, by rw [t32_1]; omega⟩ (by omega) (by omega)).2, t32_1] at h2
      exact h2
    · rw [if_neg ev] at h2 ⊢
      rw [(bd_add (y := -1) (c := -1) (e := -1) fe ⟨by rw [t32_m1]; omega, by rw [t32_m1]; omega⟩ (by omega) (by omega)).2, t32_m1] at h2
      exact h2
/-- the day as it is booked is a day -/
theorem booked_ok {d : RV} {n i j : Nat} {ws : List Nat} {fr to wa bt : Int32} (hd : dayOk d n ws) (ha : argOk d fr to wa bt) (hn16 : n < 16) (hij : i < j) (hj : j ≤ ws.length + 1) (hfl : wayFl (fDay1 d fr to wa bt) ws n i j) : dayOk (dayW2 (fDay1 d fr to wa bt) ws n i j) (n + 1) (wayOf ws n i j) := by
  have hw := hd.2.2.2.2.2.1.2.1
  have hwl := hd.2.2.2.2.2.1.2.2.1
  have hmem := hd.2.2.2.2.2.1.2.2.2
  have h11 := hd.2.2.2.2.2.1.1
  have l8 := dayOk_l8 hd
  have hlen := wayOf_len (n := n) (i := i) (j := j) (ws := ws) (by omega) hj
  have hwk := wayOf_ok (n := n) (i := i) (j := j) hw (by omega) hij hj
  obtain ⟨e0, e1, e2, e3, e4, e5, e6, e7, e8, e9, e10, e11, f0, f1, f2, -⟩ := day1_eq (d := d) (fr := fr) (to := to) (wa := wa) (bt := bt) (by rw [h11, List.length_map]; omega)
  obtain ⟨st1, st2⟩ := day1_stand (fr := fr) (to := to) (wa := wa) (bt := bt) hd
  have hb1 := day1_bd hd ha
  have hf2 : bd ((fDay1 d fr to wa bt).2 2) 0 2100 := by rw [f2]; exact leaveT_bd hd
  have hT := tab_F (d := dayW2 (fDay1 d fr to wa bt) ws n i j) (by omega) hwk (dayW2_len (day1_len hd)) (dayW2_bd hb1) (bd_wide hf2 (by omega) (by omega))
  have hbeg : ¬ gA ((dayW2 (fDay1 d fr to wa bt) ws n i j).1 0) 0 < (TK (dayW2 (fDay1 d fr to wa bt) ws n i j) (wayOf ws n i j) 0).2 2 := by
    show ¬ gA ((fDay1 d fr to wa bt).1 0) 0 < nStand ((fDay1 d fr to wa bt).1 8) 1
    rw [e0, st2, fa_lt]
    have := ldOk_head hd.2.2.2.2.2.2
    omega
  have hload := load_from (d := dayW2 (fDay1 d fr to wa bt) ws n i j) (by omega) hwk hT (flags_load (by omega) hwk hb1.1 hT hbeg hfl) (wayOf ws n i j).length 0 (by omega)
  refine ⟨by omega, dayW2_len (day1_len hd), dayW2_bd hb1, hf2, ?_, ⟨rvR_eq _ _ _, hwk, by omega, ?_⟩, ?_⟩
  · show bd ((fDay1 d fr to wa bt).2 0) 0 2000
    rw [f0]
    exact hd.2.2.2.2.1
  · intro r hr
    show (2 * r ∈ _ ↔ gA ((fDay1 d fr to wa bt).1 8) r = 0) ∧ (2 * r + 1 ∈ _ ↔ (gA ((fDay1 d fr to wa bt).1 8) r = 0 ∨ gA ((fDay1 d fr to wa bt).1 8) r = 1))
    rw [e8, gA_add l8 (by omega), mem_wayOf, mem_wayOf]
    by_cases c : r < n
    · rw [if_pos c]
      obtain ⟨h1, h2⟩ := hmem r c
      exact ⟨⟨fun z => h1.mp (z.elim (fun q => absurd q (by omega)) (fun q => q.elim (fun q => absurd q (by omega)) id)), fun z => Or.inr (Or.inr (h1.mpr z))⟩, ⟨fun z => h2.mp (z.elim (fun q => absurd q (by omega)) (fun q => q.elim (fun q => absurd q (by omega)) id)), fun z => Or.inr (Or.inr (h2.mpr z))⟩⟩
    · have e : r = n := by omega
      subst e
      rw [if_neg c, if_pos rfl]
      exact ⟨⟨fun _ => rfl, fun _ => Or.inr (Or.inl rfl)⟩, ⟨fun _ => Or.inl rfl, fun _ => Or.inl rfl⟩⟩
  · rw [List.drop_zero] at hload
    exact hload
def tryP (d : RV) (ws : List Nat) (n : Nat) (fr to wa bt : Int32) (T : Int32 × RV × RV × RV) (m' : MV) (i j : Nat) : Prop := argOk d fr to wa bt ∧ n < 16 ∧ T.1 = nI n ∧ T.2.2.1 = dayW2 (fDay1 d fr to wa bt) ws n i j ∧ wayFl (fDay1 d fr to wa bt) ws n i j ∧ i < j ∧ j ≤ ws.length + 1 ∧ m'.1 17 = nI i ∧ m'.1 18 = nI j ∧ relD (m'.2 1) (fDay1 d fr to wa bt) (n + 1)
theorem err_neg {d : RV} {fr to wa bt : Int32} (h : f_X6_errorOf d fr to wa bt ≠ 0) : f_X6_errorOf d fr to wa bt < 0 := by
  unfold f_X6_errorOf at h ⊢
  dsimp only [yl] at h ⊢
  split
  · decide
  rename_i c1
  rw [if_neg c1] at h
  split
  · decide
  rename_i c2
  rw [if_neg c2] at h
  split
  · decide
  rename_i c3
  rw [if_neg c3] at h
  split
  · decide
  rename_i c4
  rw [if_neg c4] at h
  split
  · decide
  rename_i c5
  rw [if_neg c5] at h
  split
  · decide
  rename_i c6
  rw [if_neg c6] at h
  split
  · rename_i c7
    rw [if_pos c7] at h
    exact absurd rfl h
  · decide
theorem q_refusesBook {m : MV} {d sv sd st : RV} {n : Nat} {ws : List Nat} {fr to wa bt : Int32} {K : Int32 → MV → Prop} {T : Int32 × RV × RV × RV} (hT : f_X6_tryToBook d sv sd st fr to wa bt = T) (hd : dayOk d n ws) (hR : relS (m.2 1) d n) (hK1 : ∀ m', qst m m' d n → T.1 < 0 → K T.1 m') (hK2 : ∀ m' i j, qst m m' d n → tryP d ws n fr to wa bt T m' i j → K 0 m') : PO_X7_refusesBook fr to wa bt K m := by
  have hn := hd.1
  have l8 := dayOk_l8 hd
  unfold PO_X7_refusesBook wp_X7_refusesBook_0
  refine q_refuses (d := d) hd hR ?_
  unfold f_X6_tryToBook rLen at hT
  dsimp only [yl] at hT
  generalize hFF : fFind d fr to wa bt sv st = F at hT
  by_cases c : f_X6_errorOf d fr to wa bt = 0
  · rw [if_pos c] at hT ⊢
    have ha := err_arg hd c
    refine ⟨vp_in_nI (n := 4) (by omega) (by omega), ?_⟩
    rw [show m.2 1 (4 : Int32).toNatClampNeg = nI n from dayOk_s4 hd hR]
    rw [l8] at hT
    by_cases c16 : n < 16
    · rw [if_pos (show nI n < 16 from (nI_ltI (b := 16) (by omega) (by omega)).mpr c16)] at hT
      rw [if_neg (fun (z : nI n = 16) => absurd ((nI_eq (b := 16) (by omega) (by omega)).mp z) (by omega))]
      refine q_laysRide (n := n) (by omega) (dayOk_s4 hd hR) ?_
      intro m1 hm1
      obtain ⟨q1, r1⟩ := qst_laid hd (qst_refl hR) hm1
      refine q_findsWay (sv := sv) (st := st) hd ha q1.1 r1 rfl ?_
      intro m2 hm2
      rw [hFF]
      have q2 := qst_scr2 q1 hm2.1
      rcases found_E hd hm2 hFF with ⟨e1, -⟩ | ⟨i, j, e1, -, -, -, hij, hj, e17, e18, ⟨-, -, -, hfl⟩, eD⟩
      · rw [e1, if_pos rfl] at hT
        rw [e1, if_pos rfl]
        subst hT
        exact hK1 m2 q2 (show (-5 : Int32) < 0 by decide)
      · rw [e1, if_neg (by decide)] at hT
        rw [e1, if_neg (by decide)]
        subst hT
        refine hK2 m2 i j q2 ⟨ha, c16, rfl, eD, hfl, hij, hj, e17, e18, ?_⟩
        rw [scr2_s hm2.1]
        exact r1
    · have e16 : n = 16 := by omega
      rw [if_neg (fun (z : nI n < 16) => c16 ((nI_ltI (b := 16) (by omega) (by omega)).mp z))] at hT
      rw [if_pos (show nI n = 16 by rw [e16]; rfl)]
      subst hT
      exact hK1 m (qst_refl hR) (show (-4 : Int32) < 0 by decide)
  · rw [if_neg c] at hT ⊢
    subst hT
    exact hK1 m (qst_refl hR) (err_neg c)
theorem othM_A1 (m : MV) (i : Nat) (x : Int32) : othM m (mA m 1 i x) := ⟨rfl, rfl, rfl, rfl, rfl, rfl, rfl, rfl⟩
/-- the best way is laid down -/
theorem q_books {m : MV} {d : RV} {n i j : Nat} {ws : List Nat} {fr to wa bt : Int32} {K : Int32 → MV → Prop} (hd : dayOk d n ws) (hR : relS (m.2 1) d n) (ha : argOk d fr to wa bt) (hn16 : n < 16) (hij : i < j) (hj : j ≤ ws.length + 1) (h17 : m.1 17 = nI i) (h18 : m.1 18 = nI j) (hfl : wayFl (fDay1 d fr to wa bt) ws n i j) (hD : relD (m.2 1) (fDay1 d fr to wa bt) (n + 1)) (hK : ∀ m', othM m m' → dayS (m'.2 1) (dayW2 (fDay1 d fr to wa bt) ws n i j) → K (nI n) m') : PO_X7_books K m := by
  have hok := booked_ok hd ha hn16 hij hj hfl
  have hw := hd.2.2.2.2.2.1.2.1
  have hwl := hd.2.2.2.2.2.1.2.2.1
  have h11 := hd.2.2.2.2.2.1.1
  have hll : (d.1 11).length = ws.length := by rw [h11, List.length_map]
  obtain ⟨h5, hr⟩ := dayOk_way hd hR
  have h4 := dayOk_s4 hd hR
  have hlen := wayOf_len (n := n) (i := i) (j := j) (ws := ws) (by omega) hj
  obtain ⟨e0, e1, e2, e3, e4, e5, e6, e7, e8, e9, e10, e11, f0, f1, f2, -⟩ := day1_eq (d := d) (fr := fr) (to := to) (wa := wa) (bt := bt) (by rw [hll]; omega)
  -- the state at the loop: way laid, FREE told
  refine ⟨fun w m' x1 => ∃ k, k ≤ ws.length + 2 ∧ x1 = nI k ∧ w = ws.length + 2 - k ∧ othM m m' ∧ wayR m' (wayOf ws n i j) ∧ m'.2 1 8 = leaveT d ∧ (∀ x, x < 152 → x ≠ 8 → m'.2 1 x = m.2 1 x) ∧ (∀ x, x < k → m'.2 1 (152 + x) = nI (gN (wayOf ws n i j) x)), ?_, ?_⟩
  · rintro w m' x1 ⟨k, hk, rfl, rfl, hp, hway, h8, hsm, hrt⟩
    unfold wp_X7_books_31
    rw [hway.1, hlen]
    by_cases c : ws.length + 2 ≤ k
    · rw [if_pos ((nI_leI (by omega) (by omega)).mpr c)]
      refine ⟨vp_in_nI (n := 5) (by omega) (by omega), ?_⟩
      dsimp only [yl]
      obtain ⟨m5, em5⟩ : ∃ z, z = mA m' 1 (5 : Int32).toNatClampNeg (nI (ws.length + 2)) := ⟨_, rfl⟩
      rw [← em5]
      have g4 : m5.2 1 4 = nI n := by rw [em5, mA_at, upd_ne (by decide), hsm 4 (by omega) (by omega)]; exact h4
      refine ⟨vp_in_nI (n := 4) (by omega) (by omega), vp_in_nI (n := 4) (by omega) (by omega), vp_in_nI (n := 4) (by omega) (by omega), ?_⟩
      obtain ⟨m6, em6⟩ : ∃ z, z = mA m5 1 (4 : Int32).toNatClampNeg (m5.2 1 (4 : Int32).toNatClampNeg + 1) := ⟨_, rfl⟩
      rw [← em6]
      have g4' : m6.2 1 4 = nI (n + 1) := by
        rw [em6, mA_at]
        show upd (m5.2 1) 4 _ 4 = _
        rw [upd_at]
        show m5.2 1 4 + 1 = _
        rw [g4, nI_1]
      have hans : m6.2 1 (4 : Int32).toNatClampNeg - 1 = nI n := by
        show m6.2 1 4 - 1 = _
        rw [g4', nI_pred]
      rw [hans]
      have ho : ∀ x, x ≠ 4 → x ≠ 5 → m6.2 1 x = m'.2 1 x := by
        intro x hx4 hx5
        rw [em6, mA_at]
        show upd (m5.2 1) 4 _ x = _
        rw [upd_ne hx4, em5, mA_at]
        show upd (m'.2 1) 5 _ x = _
        rw [upd_ne hx5]
      have g5 : m6.2 1 5 = nI (ws.length + 2) := by
        rw [em6, mA_at]
        show upd (m5.2 1) 4 _ 5 = _
        rw [upd_ne (by omega), em5, mA_at]
        show upd (m'.2 1) 5 _ 5 = _
        rw [upd_at]
      have hsm' : ∀ x, x < 152 → x ≠ 8 → x ≠ 4 → x ≠ 5 → m6.2 1 x = m.2 1 x := fun x h1 h2 h3 h4 => (ho x h3 h4).trans (hsm x h1 h2)
      refine hK m6 (othM_trans hp (by rw [em6, em5]; exact othM_trans (othM_A1 _ _ _) (othM_A1 _ _ _))) ⟨n + 1, wayOf ws n i j, hok, ?_, ?_⟩
      · obtain ⟨⟨s0, s1, s2⟩, hst, hri, s6, s7⟩ := hD
        refine ⟨⟨by rw [hsm' _ (by omega) (by omega) (by omega) (by omega)]; exact s0, by rw [hsm' _ (by omega) (by omega) (by omega) (by omega)]; exact s1, by rw [hsm' _ (by omega) (by omega) (by omega) (by omega)]; exact s2⟩, fun q hq => by rw [hsm' _ (by omega) (by omega) (by omega) (by omega), hsm' _ (by omega) (by omega) (by omega) (by omega)]; exact hst q hq, fun r hr' => ?_, by rw [hsm' _ (by omega) (by omega) (by omega) (by omega)]; exact s6, by rw [hsm' _ (by omega) (by omega) (by omega) (by omega)]; exact s7⟩
        rw [hsm' _ (by omega) (by omega) (by omega) (by omega), hsm' _ (by omega) (by omega) (by omega) (by omega), hsm' _ (by omega) (by omega) (by omega) (by omega), hsm' _ (by omega) (by omega) (by omega) (by omega), hsm' _ (by omega) (by omega) (by omega) (by omega), hsm' _ (by omega) (by omega) (by omega) (by omega), hsm' _ (by omega) (by omega) (by omega) (by omega)]
        exact hri r hr'
      · have e11' : (dayW2 (fDay1 d fr to wa bt) ws n i j).1 11 = (wayOf ws n i j).map nI := rvR_eq _ _ _
        refine ⟨?_, ?_, ?_, ?_, ?_⟩
        · rw [hsm' _ (by omega) (by omega) (by omega) (by omega)]
          show m.2 1 3 = nI ((fDay1 d fr to wa bt).1 1).length
          rw [e1]
          exact hR.2.1
        · rw [g4']
          show _ = nI ((fDay1 d fr to wa bt).1 8).length
          rw [(day1_len (fr := fr) (to := to) (wa := wa) (bt := bt) hd).2.2.2.2.2.2.2.2.1]
        · rw [e11', List.length_map, hlen]
          exact g5
        · rw [ho 8 (by omega) (by omega), h8]
          exact f2.symm
        · intro q hq
          rw [e11', List.length_map, hlen] at hq
          rw [e11', gA_map (by rw [hlen]; exact hq), ho _ (by omega) (by omega)]
          exact hrt q (by omega)
    · rw [if_neg (fun z => c ((nI_leI (by omega) (by omega)).mp z))]
      rw [show (152 : Int32) + nI k = nI (152 + k) by rw [show (152 : Int32) = nI 152 from rfl, nI_add], nI_clamp (by omega), nI_clamp (by omega), hway.2.2 k (by omega)]
      refine ⟨vp_in_nI (by omega) (by omega), vp_in_nI (by omega) (by omega), ?_⟩
      dsimp only [yl]
      refine ⟨_, by omega, k + 1, by omega, nI_1 k, rfl, othM_trans hp (othM_A1 _ _ _), ⟨hway.1, hway.2.1, fun q hq => by rw [mA_ne (by omega)]; exact hway.2.2 q hq⟩, ?_, fun x h1 h2 => ?_, fun x hx => ?_⟩
      · rw [mA_at, upd_ne (by omega)]; exact h8
      · rw [mA_at, upd_ne (by omega)]; exact hsm x h1 h2
      · rw [mA_at]
        by_cases cx : x = k
        · rw [cx, upd_at]
        · rw [upd_ne (by omega)]; exact hrt x (by omega)
  · unfold wp_X7_books_0
    refine ⟨vp_in_nI (n := 4) (by omega) (by omega), ?_⟩
    refine q_laysWay i j (by omega) h4 h17 h18 (by omega) hij hj h5 hr ?_
    intro m1 hs1 hway
    have es := scr_s hs1
    refine q_leaving (d := d) (by rw [hll]; omega) (by rw [es]; exact hR.2.2.2.1) (by rw [es]; exact hR.1.2.2.2.1) (by rw [es]; exact hR.2.2.2.2.1) ?_
    refine ⟨vp_in_nI (n := 8) (by omega) (by omega), ?_⟩
    dsimp only [yl]
    refine ⟨_, 0, by omega, rfl, rfl, othM_trans (othM_scr2 (scr2_of hs1)) (othM_A1 _ _ _), ⟨hway.1, hway.2.1, fun q hq => by rw [mA_ne (by omega)]; exact hway.2.2 q hq⟩, ?_, fun x h1 h2 => ?_, fun x hx => absurd hx (Nat.not_lt_zero x)⟩
    · rw [mA_at]
      show upd (m1.2 1) 8 _ 8 = _
      rw [upd_at]
    · rw [mA_at]
      show upd (m1.2 1) 8 _ x = _
      rw [upd_ne h2, es]
