/-! ===== a day with one ride more ===== -/
def leaveT (d : RV) : Int32 := if (d.1 11).length = 0 then (if d.2 2 < d.2 0 then d.2 0 else d.2 2) else d.2 2
theorem ready_eq {d : RV} (hl : (d.1 11).length < 1000) : (f_X0_beReady d).1 = d.1 ∧ (f_X0_beReady d).2 0 = d.2 0 ∧ (f_X0_beReady d).2 1 = d.2 1 ∧ (f_X0_beReady d).2 2 = leaveT d := by
  unfold f_X0_beReady rLen leaveT
  dsimp only [yl]
  by_cases c : (d.1 11).length = 0
  · rw [if_pos ((nI0_iff (by omega)).mpr c), if_pos c]
    exact ⟨rfl, rfl, rfl, rfl⟩
  · rw [if_neg (fun z => c ((nI0_iff (by omega)).mp z)), if_neg c]
    exact ⟨rfl, rfl, rfl, rfl⟩
theorem day1_eq {d : RV} {fr to wa bt : Int32} (hl : (d.1 11).length < 1000) : (fDay1 d fr to wa bt).1 0 = d.1 0 ∧ (fDay1 d fr to wa bt).1 1 = d.1 1 ∧ (fDay1 d fr to wa bt).1 2 = d.1 2 ∧ (fDay1 d fr to wa bt).1 3 = rAdd 17 (d.1 3) fr ∧ (fDay1 d fr to wa bt).1 4 = rAdd 17 (d.1 4) to ∧ (fDay1 d fr to wa bt).1 5 = rAdd 17 (d.1 5) wa ∧ (fDay1 d fr to wa bt).1 6 = rAdd 17 (d.1 6) bt ∧ (fDay1 d fr to wa bt).1 7 = rAdd 17 (d.1 7) (f_X0_minutes d fr to) ∧ (fDay1 d fr to wa bt).1 8 = rAdd 17 (d.1 8) 0 ∧ (fDay1 d fr to wa bt).1 9 = rAdd 17 (d.1 9) (-6) ∧ (fDay1 d fr to wa bt).1 10 = rAdd 17 (d.1 10) (-6) ∧ (fDay1 d fr to wa bt).1 11 = d.1 11 ∧ (fDay1 d fr to wa bt).2 0 = d.2 0 ∧ (fDay1 d fr to wa bt).2 1 = d.2 1 ∧ (fDay1 d fr to wa bt).2 2 = leaveT d ∧ fRide d fr to wa bt = rLen (rAdd 17 (d.1 8) 0) - 1 := by
  obtain ⟨h1, h2, h3, h4⟩ := ready_eq hl
  have hm : f_X0_minutes (f_X0_beReady d) fr to = f_X0_minutes d fr to := by unfold f_X0_minutes; rw [h1]
  unfold fDay1 fRide
  generalize f_X0_beReady d = b at h1 h2 h3 h4 hm
  rw [← h1, ← h2, ← h3, ← h4, ← hm]
  exact ⟨rfl, rfl, rfl, rfl, rfl, rfl, rfl, rfl, rfl, rfl, rfl, rfl, rfl, rfl, rfl, rfl⟩
def argOk (d : RV) (fr to wa bt : Int32) : Prop := (∃ a b, a < 12 ∧ b < 12 ∧ fr = nI a ∧ to = nI b ∧ a < (d.1 1).length ∧ b < (d.1 1).length) ∧ bd wa 0 600 ∧ bd bt 0 900
theorem gA_add {xs : List Int32} {v : Int32} {n i : Nat} (h : xs.length = n) (hn : n < 17) : gA (rAdd 17 xs v) i = if i < n then gA xs i else if i = n then v else 0 := by
  subst h
  rw [rAdd_app hn, gA_app]
theorem bd_row {xs : List Int32} {v : Int32} {lo hi : Int} (hx : ∀ i, bd (gA xs i) lo hi) (hv : bd v lo hi) (h0 : lo ≤ 0) (h1 : 0 ≤ hi) (hn : xs.length < 17) (i : Nat) : bd (gA (rAdd 17 xs v) i) lo hi := by
  rw [gA_add rfl hn]
  split
  · exact hx i
  · split
    · exact hv
    · exact bd0 h0 h1
theorem day1_len {d : RV} {n : Nat} {ws : List Nat} {fr to wa bt : Int32} (hd : dayOk d n ws) : lenD (fDay1 d fr to wa bt) (n + 1) := by
  have hw := hd.2.2.2.2.2.1.2.1.1
  have h11 := hd.2.2.2.2.2.1.1
  have hn := hd.1
  obtain ⟨e0, e1, e2, e3, e4, e5, e6, e7, e8, e9, e10, -⟩ := day1_eq (d := d) (fr := fr) (to := to) (wa := wa) (bt := bt) (by rw [h11, List.length_map]; omega)
  obtain ⟨l0, l1, l2, l3, l4, l5, l6, l7, l8, l9, l10⟩ := hd.2.1
  unfold lenD
  rw [e0, e1, e2, e3, e4, e5, e6, e7, e8, e9, e10, rAdd_app (by omega), rAdd_app (by omega), rAdd_app (by omega), rAdd_app (by omega), rAdd_app (by omega), rAdd_app (by omega), rAdd_app (by omega), rAdd_app (by omega)]
  simp only [List.length_append, List.length_singleton, l0, l2, l3, l4, l5, l6, l7, l8, l9, l10, l1, and_self]
theorem day1_min {d : RV} {fr to wa bt : Int32} (hl : (d.1 11).length < 1000) (i j : Int32) : f_X0_minutes (fDay1 d fr to wa bt) i j = f_X0_minutes d i j := by
  obtain ⟨-, e1, e2, -⟩ := day1_eq (d := d) (fr := fr) (to := to) (wa := wa) (bt := bt) hl
  unfold f_X0_minutes
  rw [e1, e2]
theorem day1_bd {d : RV} {n : Nat} {ws : List Nat} {fr to wa bt : Int32} (hd : dayOk d n ws) (ha : argOk d fr to wa bt) : bdD (fDay1 d fr to wa bt) (n + 1) := by
  have hw := hd.2.2.2.2.2.1.2.1.1
  have h11 := hd.2.2.2.2.2.1.1
  have hn := hd.1
  have hll : (d.1 11).length < 1000 := by rw [h11, List.length_map]; omega
  obtain ⟨e0, e1, e2, e3, e4, e5, e6, e7, e8, e9, e10, -, -, e12, -⟩ := day1_eq (d := d) (fr := fr) (to := to) (wa := wa) (bt := bt) hll
  obtain ⟨l0, l1, l2, l3, l4, l5, l6, l7, l8, l9, l10⟩ := hd.2.1
  obtain ⟨b0, b1, b2, b3, b4⟩ := hd.2.2.1
  obtain ⟨⟨a, b, ha1, hb1, rfl, rfl, hal, hbl⟩, hwa, hbt⟩ := ha
  refine ⟨?_, ?_, ?_, ?_, ?_⟩
  · unfold bdS; rw [e0]; exact b0
  · unfold bdX; rw [e1, e2]; exact b1
  · unfold bdT
    rw [e5, e6, e9]
    refine ⟨bd_row b2.1 hwa (by omega) (by omega) (by omega), bd_row b2.2.1 hbt (by omega) (by omega) (by omega), bd_row b2.2.2 ⟨by decide, by decide⟩ (by omega) (by omega) (by omega)⟩
  · intro r hr
    rw [e3, e4, e7, gA_add l3 (by omega), gA_add l4 (by omega), gA_add l7 (by omega)]
    by_cases c : r < n
    · obtain ⟨i, j, hi, hj, f3, f4, f7, hil, hjl⟩ := b3 r c
      rw [if_pos c, if_pos c, if_pos c]
      exact ⟨i, j, hi, hj, f3, f4, by rw [day1_min hll]; exact f7, by rw [e1]; exact hil, by rw [e1]; exact hjl⟩
    · rw [if_neg c, if_neg c, if_neg c, if_pos (by omega), if_pos (by omega), if_pos (by omega)]
      exact ⟨a, b, ha1, hb1, rfl, rfl, by rw [day1_min hll], by rw [e1]; exact hal, by rw [e1]; exact hbl⟩
  · rw [e12]; exact b4
theorem leaveT_bd {d : RV} {n : Nat} {ws : List Nat} (hd : dayOk d n ws) : bd (leaveT d) 0 2100 := by
  obtain ⟨-, -, -, hf, hnw, -⟩ := hd
  unfold leaveT
  split
  · split
    · exact bd_wide hnw (by omega) (by omega)
    · exact hf
  · exact hf
theorem day1_ride {d : RV} {n : Nat} {ws : List Nat} {fr to wa bt : Int32} (hd : dayOk d n ws) : fRide d fr to wa bt = nI n := by
  have hw := hd.2.2.2.2.2.1.2.1.1
  have h11 := hd.2.2.2.2.2.1.1
  have hn := hd.1
  obtain ⟨-, -, -, -, -, -, -, -, -, -, -, -, -, -, -, e⟩ := day1_eq (d := d) (fr := fr) (to := to) (wa := wa) (bt := bt) (by rw [h11, List.length_map]; omega)
  rw [e, rAdd_app (by rw [dayOk_l8 hd]; omega)]
  unfold rLen
  rw [List.length_append, List.length_singleton, dayOk_l8 hd, nI_pred]
theorem day1_stand {d : RV} {n : Nat} {ws : List Nat} {fr to wa bt : Int32} (hd : dayOk d n ws) : nStand (((fDay1 d fr to wa bt).1 8).take n) 1 = nStand ((fDay1 d fr to wa bt).1 8) 1 ∧ nStand ((fDay1 d fr to wa bt).1 8) 1 = nStand (d.1 8) 1 := by
  have hw := hd.2.2.2.2.2.1.2.1.1
  have h11 := hd.2.2.2.2.2.1.1
  have hn := hd.1
  have l8 := dayOk_l8 hd
  obtain ⟨-, -, -, -, -, -, -, -, e8, -⟩ := day1_eq (d := d) (fr := fr) (to := to) (wa := wa) (bt := bt) (by rw [h11, List.length_map]; omega)
  rw [e8, rAdd_app (by omega)]
  have h1 : nStand (d.1 8 ++ [0]) 1 = nStand (d.1 8) 1 := by
    unfold nStand cntOf
    rw [List.countP_append]
    simp
  refine ⟨?_, h1⟩
  rw [List.take_append_of_le_length (by omega), List.take_of_length_le (by omega), h1]
/-- what laysRide writes -/
def laidR (m m' : MV) (n : Nat) (fr to wa bt : Int32) : Prop := m'.1 = m.1 ∧ (∀ j, j ≠ 1 → m'.2 j = m.2 j) ∧ (∀ x, (x < 33 + 7 * n ∨ 33 + 7 * n + 7 ≤ x) → m'.2 1 x = m.2 1 x) ∧ m'.2 1 (33 + 7 * n + 0) = fr ∧ m'.2 1 (33 + 7 * n + 1) = to ∧ m'.2 1 (33 + 7 * n + 2) = wa ∧ m'.2 1 (33 + 7 * n + 3) = bt ∧ m'.2 1 (33 + 7 * n + 4) = 0 ∧ m'.2 1 (33 + 7 * n + 5) = -6 ∧ m'.2 1 (33 + 7 * n + 6) = -6
theorem q_laysRide {m : MV} {n : Nat} {fr to wa bt : Int32} {K : Int32 → MV → Prop} (hn : n < 17) (h4 : m.2 1 4 = nI n) (hK : ∀ m', laidR m m' n fr to wa bt → K (nI n) m') : PO_X7_laysRide fr to wa bt K m := by
  unfold PO_X7_laysRide wp_X7_laysRide_0
  rw [show m.2 1 (4 : Int32).toNatClampNeg = nI n from h4]
  refine ⟨vp_in_nI (n := 4) (by omega) (by omega), ?_⟩
  refine q_lay n 0 hn (by omega) rfl rfl ?_
  refine q_lay n 1 hn (by omega) rfl rfl ?_
  refine q_lay n 2 hn (by omega) rfl rfl ?_
  refine q_lay n 3 hn (by omega) rfl rfl ?_
  refine q_lay n 4 hn (by omega) rfl rfl ?_
  refine q_lay n 5 hn (by omega) rfl rfl ?_
  refine q_lay n 6 hn (by omega) rfl rfl ?_
  refine hK _ ⟨rfl, fun j hj => ?_, fun x hx => ?_, ?_, ?_, ?_, ?_, ?_, ?_, ?_⟩
  · rw [mA_ne hj, mA_ne hj, mA_ne hj, mA_ne hj, mA_ne hj, mA_ne hj, mA_ne hj]
  · simp only [mA_at, upd, if_true]; rw [if_neg (by omega), if_neg (by omega), if_neg (by omega), if_neg (by omega), if_neg (by omega), if_neg (by omega), if_neg (by omega)]
  · simp only [mA_at, upd, if_true]; rw [if_neg (by omega), if_neg (by omega), if_neg (by omega), if_neg (by omega), if_neg (by omega), if_neg (by omega)]
  · simp only [mA_at, upd, if_true]; rw [if_neg (by omega), if_neg (by omega), if_neg (by omega), if_neg (by omega), if_neg (by omega)]
  · simp only [mA_at, upd, if_true]; rw [if_neg (by omega), if_neg (by omega), if_neg (by omega), if_neg (by omega)]
  · simp only [mA_at, upd, if_true]; rw [if_neg (by omega), if_neg (by omega), if_neg (by omega)]
  · simp only [mA_at, upd, if_true]; rw [if_neg (by omega), if_neg (by omega)]
  · simp only [mA_at, upd, if_true]; rw [if_neg (by omega)]
  · simp only [mA_at, upd, if_true]
theorem laid_rel {m m' : MV} {d : RV} {n : Nat} {ws : List Nat} {fr to wa bt : Int32} (hd : dayOk d n ws) (hR : relS (m.2 1) d n) (hL : laidR m m' n fr to wa bt) : relS (m'.2 1) d n ∧ relD (m'.2 1) (fDay1 d fr to wa bt) (n + 1) := by
  have hw := hd.2.2.2.2.2.1.2.1.1
  have h11 := hd.2.2.2.2.2.1.1
  have hn := hd.1
  have hll : (d.1 11).length < 1000 := by rw [h11, List.length_map]; omega
  obtain ⟨e0, e1, e2, e3, e4, e5, e6, e7, e8, e9, e10, e11, f0, f1, f2, -⟩ := day1_eq (d := d) (fr := fr) (to := to) (wa := wa) (bt := bt) hll
  obtain ⟨l0, l1, l2, l3, l4, l5, l6, l7, l8, l9, l10⟩ := hd.2.1
  obtain ⟨⟨⟨s0, s1, s2⟩, hst, hri, s6, s7⟩, c3, c4, c5, c8, crt⟩ := hR
  obtain ⟨-, -, hsame, g0, g1, g2, g3, g4, g5, g6⟩ := hL
  have hst' : stopR (m'.2 1) d := fun i hi => by rw [hsame _ (by omega), hsame _ (by omega)]; exact hst i hi
  refine ⟨⟨⟨⟨by rw [hsame _ (by omega)]; exact s0, by rw [hsame _ (by omega)]; exact s1, by rw [hsame _ (by omega)]; exact s2⟩, hst', ?_, by rw [hsame _ (by omega)]; exact s6, by rw [hsame _ (by omega)]; exact s7⟩, by rw [hsame _ (by omega)]; exact c3, by rw [hsame _ (by omega)]; exact c4, by rw [hsame _ (by omega)]; exact c5, by rw [hsame _ (by omega)]; exact c8, fun k hk => by rw [hsame _ (by omega)]; exact crt k hk⟩, ?_, ?_, ?_, ?_, ?_⟩
  · intro r hr
    rw [hsame _ (by omega), hsame _ (by omega), hsame _ (by omega), hsame _ (by omega), hsame _ (by omega), hsame _ (by omega), hsame _ (by omega)]
    exact hri r hr
  · unfold setR
    rw [e0, hsame _ (by omega), hsame _ (by omega), hsame _ (by omega)]
    exact ⟨s0, s1, s2⟩
  · unfold stopR
    rw [e1, e2]
    exact hst'
  · intro r hr
    rw [e3, e4, e5, e6, e8, e9, e10, gA_add l3 (by omega), gA_add l4 (by omega), gA_add l5 (by omega), gA_add l6 (by omega), gA_add l8 (by omega), gA_add l9 (by omega), gA_add l10 (by omega)]
    by_cases c : r < n
    · rw [if_pos c, if_pos c, if_pos c, if_pos c, if_pos c, if_pos c, if_pos c, hsame _ (by omega), hsame _ (by omega), hsame _ (by omega), hsame _ (by omega), hsame _ (by omega), hsame _ (by omega), hsame _ (by omega)]
      exact hri r c
    · have e : r = n := by omega
      subst e
      rw [if_neg c, if_neg c, if_neg c, if_neg c, if_neg c, if_neg c, if_neg c]
      simp only [if_true]
      exact ⟨g0, g1, g2, g3, g4, g5, g6⟩
  · rw [hsame _ (by omega), f0]; exact s6
  · rw [hsame _ (by omega), f1]; exact s7
