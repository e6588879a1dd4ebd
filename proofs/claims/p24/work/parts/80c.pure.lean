theorem mem_wayOf {ws : List Nat} {n i j x : Nat} : x ∈ wayOf ws n i j ↔ x = 2 * n + 1 ∨ x = 2 * n ∨ x ∈ ws := by
  unfold wayOf
  rw [mem_insA, mem_insA]
/-! ===== a day with one ride more ===== -/
def leaveT (d : RV) : Int32 := if (d.1 11).length = 0 then (if d.2 2 < d.2 0 then d.2 0 else d.2 2) else d.2 2
theorem ready_eq {d : RV} (hl : (d.1 11).length < 1000) : (f_X0_beReady d).1 = d.1 ∧ (f_X0_beReady d).2 0 = d.2 0 ∧ (f_X0_beReady d).2 1 = d.2 1 ∧ (f_X0_beReady d).2 2 = leaveT d := by
  unfold f_X0_beReady rLen leaveT
  dsimp only [yl]
  by_cases c : (d.1 11).length = 0
  · rw [if_pos ((nI0_iff (by omega)).mpr c), if_pos c]
    exact ⟨rfl, rfl, rfl, rfl⟩
  · rw [if_neg (fun z => c ((nI0_iff (by omega)).mp z)), if_neg c]
    exact ⟨rfl, rfl, rfl, rfl⟩
theorem day1_eq {d : RV} {fr to wa bt : Int32} (hl : (d.1 11).length < 1000) : (fDay1 d fr to wa bt).1 0 = d.1 0 ∧ (fDay1 d fr to wa bt).1 1 = d.1 1 ∧ (fDay1 d fr to wa bt).1 2 = d.1 2 ∧ (fDay1 d fr to wa bt).1 3 = rAdd 17 (d.1 3) fr ∧ (fDay1 d fr to wa bt).1 4 = rAdd 17 (d.1 4) to ∧ (fDay1 d fr to wa bt).1 5 = rAdd 17 (d.1 5) wa ∧ (fDay1 d fr to wa bt).1 6 = rAdd 17 (d.1 6) bt ∧ (fDay1 d fr to wa bt).1 7 = rAdd 17 (d.1 7) (f_X0_minutes d fr to) ∧ (fDay1 d fr to wa bt).1 8 = rAdd 17 (d.1 8) 0 ∧ (fDay1 d fr to wa bt).1 9 = rAdd 17 (d.1 9) (-6) ∧ (fDay1 d fr to wa bt).1 10 = rAdd 17 (d.1 10) (-6) ∧ (fDay1 d fr to wa bt).1 11 = d.1 11 ∧ (fDay1 d fr to wa bt).2 0 = d.2 0 ∧ (fDay1 d fr to wa bt).2 1 = d.2 1 ∧ (fDay1 d fr to wa bt).2 2 = leaveT d ∧ fRide d fr to wa bt = rLen (rAdd 17 (d.1 8) 0) - 1 := by
  obtain ⟨h1, h2, h3, h4⟩ := ready_eq hl
  have hm : f_X0_minutes (f_X0_beReady d) fr to = f_X0_minutes d fr to := by unfold f_X0_minutes; rw [h1]
  unfold fDay1 fRide
  generalize f_X0_beReady d = b at h1 h2 h3 h4 hm
  rw [← h1, ← h2, ← h3, ← h4, ← hm]
  exact ⟨rfl, rfl, rfl, rfl, rfl, rfl, rfl, rfl, rfl, rfl, rfl, rfl, rfl, rfl, rfl, rfl⟩
def argOk (d : RV) (fr to wa bt : Int32) : Prop := (∃ a b, a < 12 ∧ b < 12 ∧ fr = nI a ∧ to = nI b ∧ a < (d.1 1).length ∧ b < (d.1 1).length) ∧ bd wa 0 600 ∧ bd bt 0 900
theorem gA_add {xs : List Int32} {v : Int32} {n i : Nat} (h : xs.length = n) (hn : n < 17) : gA (rAdd 17 xs v) i = if i < n then gA xs i else if i = n then v else 0 := by
  subst h
  rw [rAdd_app hn, gA_app]
theorem bd_row {xs : List Int32} {v : Int32} {lo hi : Int} (hx : ∀ i, bd (gA xs i) lo hi) (hv : bd v lo hi) (h0 : lo ≤ 0) (h1 : 0 ≤ hi) (hn : xs.length < 17) (i : Nat) : bd (gA (rAdd 17 xs v) i) lo hi := by
  rw [gA_add rfl hn]
  split
  · exact hx i
  · split
    · exact hv
    · exact bd0 h0 h1
theorem day1_len {d : RV} {n : Nat} {ws : List Nat} {fr to wa bt : Int32} (hd : dayOk d n ws) : lenD (fDay1 d fr to wa bt) (n + 1) := by
  have hw := hd.2.2.2.2.2.1.2.1.1
  have h11 := hd.2.2.2.2.2.1.1
  have hn := hd.1
  obtain ⟨e0, e1, e2, e3, e4, e5, e6, e7, e8, e9, e10, -⟩ := day1_eq (d := d) (fr := fr) (to := to) (wa := wa) (bt := bt) (by rw [h11, List.length_map]; omega)
  obtain ⟨l0, l1, l2, l3, l4, l5, l6, l7, l8, l9, l10⟩ := hd.2.1
  unfold lenD
  rw [e0, e1, e2, e3, e4, e5, e6, e7, e8, e9, e10, rAdd_app (by omega), rAdd_app (by omega), rAdd_app (by omega), rAdd_app (by omega), rAdd_app (by omega), rAdd_app (by omega), rAdd_app (by omega), rAdd_app (by omega)]
  simp only [List.length_append, List.length_singleton, l0, l2, l3, l4, l5, l6, l7, l8, l9, l10, l1, and_self]
theorem day1_min {d : RV} {fr to wa bt : Int32} (hl : (d.1 11).length < 1000) (i j : Int32) : f_X0_minutes (fDay1 d fr to wa bt) i j = f_X0_minutes d i j := by
  obtain ⟨-, e1, e2, -⟩ := day1_eq (d := d) (fr := fr) (to := to) (wa := wa) (bt := bt) hl
  unfold f_X0_minutes
  rw [e1, e2]
theorem day1_bd {d : RV} {n : Nat} {ws : List Nat} {fr to wa bt : Int32} (hd : dayOk d n ws) (ha : argOk d fr to wa bt) : bdD (fDay1 d fr to wa bt) (n + 1) := by
  have hw := hd.2.2.2.2.2.1.2.1.1
  have h11 := hd.2.2.2.2.2.1.1
  have hn := hd.1
  have hll : (d.1 11).length < 1000 := by rw [h11, List.length_map]; omega
  obtain ⟨e0, e1, e2, e3, e4, e5, e6, e7, e8, e9, e10, -, -, e12, -⟩ := day1_eq (d := d) (fr := fr) (to := to) (wa := wa) (bt := bt) hll
  obtain ⟨l0, l1, l2, l3, l4, l5, l6, l7, l8, l9, l10⟩ := hd.2.1
  obtain ⟨b0, b1, b2, b3, b4⟩ := hd.2.2.1
  obtain ⟨⟨a, b, ha1, hb1, rfl, rfl, hal, hbl⟩, hwa, hbt⟩ := ha
  refine ⟨?_, ?_, ?_, ?_, ?_⟩
  · unfold bdS; rw [e0]; exact b0
  · unfold bdX; rw [e1, e2]; exact b1
  · unfold bdT
    rw [e5, e6, e9]
    refine ⟨bd_row b2.1 hwa (by omega) (by omega) (by omega), bd_row b2.2.1 hbt (by omega) (by omega) (by omega), bd_row b2.2.2 ⟨by decide, by decide⟩ (by omega) (by omega) (by omega)⟩
  · intro r hr
    rw [e3, e4, e7, gA_add l3 (by omega), gA_add l4 (by omega), gA_add l7 (by omega)]
    by_cases c : r < n
    · obtain ⟨i, j, hi, hj, f3, f4, f7, hil, hjl⟩ := b3 r c
      rw [if_pos c, if_pos c, if_pos c]
      exact ⟨i, j, hi, hj, f3, f4, by rw [day1_min hll]; exact f7, by rw [e1]; exact hil, by rw [e1]; exact hjl⟩
    · rw [if_neg c, if_neg c, if_neg c, if_pos (by omega), if_pos (by omega), if_pos (by omega)]
      exact ⟨a, b, ha1, hb1, rfl, rfl, by rw [day1_min hll], by rw [e1]; exact hal, by rw [e1]; exact hbl⟩
  · rw [e12]; exact b4
theorem leaveT_bd {d : RV} {n : Nat} {ws : List Nat} (hd : dayOk d n ws) : bd (leaveT d) 0 2100 := by
  obtain ⟨-, -, -, hf, hnw, -⟩ := hd
  unfold leaveT
  split
  · split
    · exact bd_wide hnw (by omega) (by omega)
    · exact hf
  · exact hf
theorem day1_ride {d : RV} {n : Nat} {ws : List Nat} {fr to wa bt : Int32} (hd : dayOk d n ws) : fRide d fr to wa bt = nI n := by
  have hw := hd.2.2.2.2.2.1.2.1.1
  have h11 := hd.2.2.2.2.2.1.1
  have hn := hd.1
  obtain ⟨-, -, -, -, -, -, -, -, -, -, -, -, -, -, -, e⟩ := day1_eq (d := d) (fr := fr) (to := to) (wa := wa) (bt := bt) (by rw [h11, List.length_map]; omega)
  rw [e, rAdd_app (by rw [dayOk_l8 hd]; omega)]
  unfold rLen
  rw [List.length_append, List.length_singleton, dayOk_l8 hd, nI_pred]
theorem day1_stand {d : RV} {n : Nat} {ws : List Nat} {fr to wa bt : Int32} (hd : dayOk d n ws) : nStand (((fDay1 d fr to wa bt).1 8).take n) 1 = nStand ((fDay1 d fr to wa bt).1 8) 1 ∧ nStand ((fDay1 d fr to wa bt).1 8) 1 = nStand (d.1 8) 1 := by
  have hw := hd.2.2.2.2.2.1.2.1.1
  have h11 := hd.2.2.2.2.2.1.1
  have hn := hd.1
  have l8 := dayOk_l8 hd
  obtain ⟨-, -, -, -, -, -, -, -, e8, -⟩ := day1_eq (d := d) (fr := fr) (to := to) (wa := wa) (bt := bt) (by rw [h11, List.length_map]; omega)
  rw [e8, rAdd_app (by omega)]
  have h1 : nStand (d.1 8 ++ [0]) 1 = nStand (d.1 8) 1 := by
    unfold nStand cntOf
    rw [List.countP_append]
    simp
  refine ⟨?_, h1⟩
  rw [List.take_append_of_le_length (by omega), List.take_of_length_le (by omega), h1]
/-- the day with the way (i, j), its table -/
def dayW2 (d1 : RV) (ws : List Nat) (n i j : Nat) : RV := rvR d1 11 ((wayOf ws n i j).map nI)
def tabW2 (d1 : RV) (ws : List Nat) (n i j : Nat) : RV := TK (dayW2 d1 ws n i j) (wayOf ws n i j) (wayOf ws n i j).length
def wayFl (d1 : RV) (ws : List Nat) (n i j : Nat) : Prop := ∀ k, k < (wayOf ws n i j).length → flagK (dayW2 d1 ws n i j) (wayOf ws n i j) k ≠ 0
/-- taking a way, the first and a later one -/
theorem take_first {sv st : RV} {ri pk dn : Int32} (h : sv.2 0 = 0) : (f_X4_takeWay sv st ri pk dn).2 0 = sv.2 0 + 1 ∧ (f_X4_takeWay sv st ri pk dn).2 1 = st.2 1 ∧ (f_X4_takeWay sv st ri pk dn).2 2 = rAt (st.1 3) ri ∧ (f_X4_takeWay sv st ri pk dn).2 3 = rAt (st.1 4) ri ∧ (f_X4_takeWay sv st ri pk dn).2 4 = rAt (st.1 4) ri ∧ (f_X4_takeWay sv st ri pk dn).2 5 = pk ∧ (f_X4_takeWay sv st ri pk dn).2 6 = dn := by
  unfold f_X4_takeWay
  dsimp only [yl]
  have h2 : (rvI sv 4 (rAt (st.1 4) ri)).2 0 = 0 := h
  rw [if_pos h, if_pos h2]
  exact ⟨rfl, rfl, rfl, rfl, rfl, rfl, rfl⟩
theorem take_more {sv st : RV} {ri pk dn : Int32} (h : sv.2 0 ≠ 0) : (f_X4_takeWay sv st ri pk dn).2 0 = sv.2 0 + 1 ∧ (f_X4_takeWay sv st ri pk dn).2 4 = (if rAt (st.1 4) ri < sv.2 4 then rAt (st.1 4) ri else sv.2 4) ∧ (if sv.2 1 ≤ st.2 1 then (f_X4_takeWay sv st ri pk dn).2 1 = sv.2 1 ∧ (f_X4_takeWay sv st ri pk dn).2 2 = sv.2 2 ∧ (f_X4_takeWay sv st ri pk dn).2 3 = sv.2 3 ∧ (f_X4_takeWay sv st ri pk dn).2 5 = sv.2 5 ∧ (f_X4_takeWay sv st ri pk dn).2 6 = sv.2 6 else (f_X4_takeWay sv st ri pk dn).2 1 = st.2 1 ∧ (f_X4_takeWay sv st ri pk dn).2 2 = rAt (st.1 3) ri ∧ (f_X4_takeWay sv st ri pk dn).2 3 = rAt (st.1 4) ri ∧ (f_X4_takeWay sv st ri pk dn).2 5 = pk ∧ (f_X4_takeWay sv st ri pk dn).2 6 = dn) := by
  unfold f_X4_takeWay
  dsimp only [yl]
  have h2 : ∀ x, (rvI sv 4 x).2 0 ≠ 0 := fun x => h
  have h1 : ∀ x, (rvI sv 4 x).2 1 = sv.2 1 := fun x => rfl
  rw [if_neg h, if_neg (h2 _), h1]
  by_cases c : sv.2 1 ≤ st.2 1
  · simp only [if_pos c]
    exact ⟨rfl, rfl, rfl, rfl, rfl, rfl, rfl⟩
  · simp only [if_neg c]
    exact ⟨rfl, rfl, rfl, rfl, rfl, rfl, rfl⟩
theorem ldOk_head {S a : Int} {ws : List Nat} (h : ldOk S a ws) : a ≤ S := by
  cases ws with
  | nil => exact h
  | cons v l => exact h.1
theorem dayW2_len {d1 : RV} {ws : List Nat} {n i j N : Nat} (h : lenD d1 N) : lenD (dayW2 d1 ws n i j) N := h
theorem dayW2_bd {d1 : RV} {ws : List Nat} {n i j N : Nat} (h : bdD d1 N) : bdD (dayW2 d1 ws n i j) N := h
theorem wayW_F {d : RV} {n i j : Nat} {ws : List Nat} {fr to wa bt : Int32} (hd : dayOk d n ws) (ha : argOk d fr to wa bt) (hij : i < j) (hj : j ≤ ws.length + 1) : tabF (dayW2 (fDay1 d fr to wa bt) ws n i j) (wayOf ws n i j) (n + 1) (wayOf ws n i j).length := by
  have hn := hd.1
  have hw := hd.2.2.2.2.2.1.2.1
  have hwl := hd.2.2.2.2.2.1.2.2.1
  have h11 := hd.2.2.2.2.2.1.1
  obtain ⟨-, -, -, -, -, -, -, -, -, -, -, -, -, -, e22, -⟩ := day1_eq (d := d) (fr := fr) (to := to) (wa := wa) (bt := bt) (by rw [h11, List.length_map]; omega)
  refine tab_F (by omega) (wayOf_ok hw (by omega) hij hj) (dayW2_len (day1_len hd)) (dayW2_bd (day1_bd hd ha)) ?_ _ (Nat.le_refl _)
  show bd ((fDay1 d fr to wa bt).2 2) 0 3000
  rw [e22]
  exact bd_wide (leaveT_bd hd) (by omega) (by omega)
theorem err_arg {d : RV} {n : Nat} {ws : List Nat} {fr to wa bt : Int32} (hd : dayOk d n ws) (h : f_X6_errorOf d fr to wa bt = 0) : argOk d fr to wa bt := by
  unfold f_X6_errorOf at h
  dsimp only [yl] at h
  by_cases c1 : f_X0_hasStop d fr = 0
  · rw [if_pos c1] at h; exact absurd h (by decide)
  rw [if_neg c1] at h
  by_cases c2 : f_X0_hasStop d to = 0
  · rw [if_pos c2] at h; exact absurd h (by decide)
  rw [if_neg c2] at h
  by_cases c3 : fr = to
  · rw [if_pos c3] at h; exact absurd h (by decide)
  rw [if_neg c3] at h
  by_cases c4 : wa < 0
  · rw [if_pos c4] at h; exact absurd h (by decide)
  rw [if_neg c4] at h
  by_cases c5 : 600 < wa
  · rw [if_pos c5] at h; exact absurd h (by decide)
  rw [if_neg c5] at h
  by_cases c6 : bt < 0
  · rw [if_pos c6] at h; exact absurd h (by decide)
  rw [if_neg c6] at h
  by_cases c7 : bt ≤ 900
  · obtain ⟨a, ha, e1, hal⟩ := dayOk_stopF hd c1
    obtain ⟨b, hb, e2, hbl⟩ := dayOk_stopF hd c2
    rw [fa_lt, t32_0] at c4 c6
    rw [fa_lt] at c5
    rw [fa_le] at c7
    have t6 : (600 : Int32).toInt = 600 := by decide
    have t9 : (900 : Int32).toInt = 900 := by decide
    exact ⟨⟨a, b, ha, hb, e1, e2, hal, hbl⟩, ⟨by omega, by omega⟩, ⟨by omega, by omega⟩⟩
  · rw [if_neg c7] at h; exact absurd h (by decide)
def gV (xs : List RV) (k : Nat) : RV := xs.getD k T0
/-! ===== booking ===== -/
theorem flags_load {d : RV} {ws : List Nat} {n : Nat} (hn : n ≤ 17) (hw : wsOk ws n) (hb : bdS d) (hF : ∀ k, k ≤ ws.length → tabF d ws n k) (h0 : ¬ gA (d.1 0) 0 < (TK d ws 0).2 2) (hfl : ∀ j, j < ws.length → flagK d ws j ≠ 0) : ∀ k, k ≤ ws.length → ¬ gA (d.1 0) 0 < (TK d ws k).2 2 := by
  intro k
  induction k with
  | zero => exact fun _ => h0
  | succ k ih =>
    intro hk
    have h1 := ih (by omega)
    have hv := hw.2.1 k (by omega)
    have hwl := hw.1
    obtain ⟨-, -, s2, -⟩ := TK_step (d := d) hn hw (k := k) (by omega)
    rw [s2]
    unfold sAb
    by_cases ev : gN ws k % 2 = 0
    · rw [if_pos ev]
      have h2 := hfl k (by omega)
      have h3 : flagK d ws k = _ := step_flag0 (d := d) (t := TK d ws k) (v := gN ws k) (by omega) ev
      rw [h3] at h2
      intro c
      rw [if_pos c] at h2
      exact h2 rfl
    · rw [if_neg ev]
      exact ab_down (hF k (by omega)) (by omega) hb h1
theorem load_from {d : RV} {ws : List Nat} {n : Nat} (hn : n ≤ 17) (hw : wsOk ws n) (hF : ∀ k, k ≤ ws.length → tabF d ws n k) (hl : ∀ k, k ≤ ws.length → ¬ gA (d.1 0) 0 < (TK d ws k).2 2) : ∀ r k, k + r = ws.length → ldOk (gA (d.1 0) 0).toInt ((TK d ws k).2 2).toInt (ws.drop k) := by
  intro r
  induction r with
  | zero =>
    intro k hk
    rw [List.drop_of_length_le (by omega)]
    have h := hl k (by omega)
    rw [fa_lt] at h
    show ((TK d ws k).2 2).toInt ≤ _
    omega
  | succ r ih =>
    intro k hk
    rw [List.drop_eq_getElem_cons (by omega), ← gN_get (by omega)]
    have h := hl k (by omega)
    rw [fa_lt] at h
    refine ⟨by omega, ?_⟩
    have h2 := ih (k + 1) (by omega)
    have hwl := hw.1
    obtain ⟨-, -, s2, -⟩ := TK_step (d := d) hn hw (k := k) (by omega)
    obtain ⟨-, -, -, -, -, -, -, -, fe, -⟩ := hF k (by omega)
    rw [s2] at h2
    unfold sAb at h2
    by_cases ev : gN ws k % 2 = 0
    · rw [if_pos ev] at h2 ⊢
      rw [(bd_add (y := 1) (c := 1) (e := 1) fe ⟨by rw [t32_1]; omega, by rw [t32_1]; omega⟩ (by omega) (by omega)).2, t32_1] at h2
      exact h2
    · rw [if_neg ev] at h2 ⊢
      rw [(bd_add (y := -1) (c := -1) (e := -1) fe ⟨by rw [t32_m1]; omega, by rw [t32_m1]; omega⟩ (by omega) (by omega)).2, t32_m1] at h2
      exact h2
/-- the day as it is booked is a day -/
theorem booked_ok {d : RV} {n i j : Nat} {ws : List Nat} {fr to wa bt : Int32} (hd : dayOk d n ws) (ha : argOk d fr to wa bt) (hn16 : n < 16) (hij : i < j) (hj : j ≤ ws.length + 1) (hfl : wayFl (fDay1 d fr to wa bt) ws n i j) : dayOk (dayW2 (fDay1 d fr to wa bt) ws n i j) (n + 1) (wayOf ws n i j) := by
  have hw := hd.2.2.2.2.2.1.2.1
  have hwl := hd.2.2.2.2.2.1.2.2.1
  have hmem := hd.2.2.2.2.2.1.2.2.2
  have h11 := hd.2.2.2.2.2.1.1
  have l8 := dayOk_l8 hd
  have hlen := wayOf_len (n := n) (i := i) (j := j) (ws := ws) (by omega) hj
  have hwk := wayOf_ok (n := n) (i := i) (j := j) hw (by omega) hij hj
  obtain ⟨e0, e1, e2, e3, e4, e5, e6, e7, e8, e9, e10, e11, f0, f1, f2, -⟩ := day1_eq (d := d) (fr := fr) (to := to) (wa := wa) (bt := bt) (by rw [h11, List.length_map]; omega)
  obtain ⟨st1, st2⟩ := day1_stand (fr := fr) (to := to) (wa := wa) (bt := bt) hd
  have hb1 := day1_bd hd ha
  have hf2 : bd ((fDay1 d fr to wa bt).2 2) 0 2100 := by rw [f2]; exact leaveT_bd hd
  have hT := tab_F (d := dayW2 (fDay1 d fr to wa bt) ws n i j) (by omega) hwk (dayW2_len (day1_len hd)) (dayW2_bd hb1) (bd_wide hf2 (by omega) (by omega))
  have hbeg : ¬ gA ((dayW2 (fDay1 d fr to wa bt) ws n i j).1 0) 0 < (TK (dayW2 (fDay1 d fr to wa bt) ws n i j) (wayOf ws n i j) 0).2 2 := by
    show ¬ gA ((fDay1 d fr to wa bt).1 0) 0 < nStand ((fDay1 d fr to wa bt).1 8) 1
    rw [e0, st2, fa_lt]
    have := ldOk_head hd.2.2.2.2.2.2
    omega
  have hload := load_from (d := dayW2 (fDay1 d fr to wa bt) ws n i j) (by omega) hwk hT (flags_load (by omega) hwk hb1.1 hT hbeg hfl) (wayOf ws n i j).length 0 (by omega)
  refine ⟨by omega, dayW2_len (day1_len hd), dayW2_bd hb1, hf2, ?_, ⟨rvR_eq _ _ _, hwk, by omega, ?_⟩, ?_⟩
  · show bd ((fDay1 d fr to wa bt).2 0) 0 2000
    rw [f0]
    exact hd.2.2.2.2.1
  · intro r hr
    show (2 * r ∈ _ ↔ gA ((fDay1 d fr to wa bt).1 8) r = 0) ∧ (2 * r + 1 ∈ _ ↔ (gA ((fDay1 d fr to wa bt).1 8) r = 0 ∨ gA ((fDay1 d fr to wa bt).1 8) r = 1))
    rw [e8, gA_add l8 (by omega), mem_wayOf, mem_wayOf]
    by_cases c : r < n
    · rw [if_pos c]
      obtain ⟨h1, h2⟩ := hmem r c
      exact ⟨⟨fun z => h1.mp (z.elim (fun q => absurd q (by omega)) (fun q => q.elim (fun q => absurd q (by omega)) id)), fun z => Or.inr (Or.inr (h1.mpr z))⟩, ⟨fun z => h2.mp (z.elim (fun q => absurd q (by omega)) (fun q => q.elim (fun q => absurd q (by omega)) id)), fun z => Or.inr (Or.inr (h2.mpr z))⟩⟩
    · have e : r = n := by omega
      subst e
      rw [if_neg c, if_pos rfl]
      exact ⟨⟨fun _ => rfl, fun _ => Or.inr (Or.inl rfl)⟩, ⟨fun _ => Or.inl rfl, fun _ => Or.inl rfl⟩⟩
  · rw [List.drop_zero] at hload
    exact hload
