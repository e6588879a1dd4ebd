/-- a ride leaves: a day again -/
theorem leave_ok {d : RV} {n r : Nat} {ws : List Nat} {how : Int32} (hd : dayOk d n ws) (hr : r < n) (h0 : how ≠ 0) (h1 : how ≠ 1) (hs : gA (d.1 8) r = 0 ∨ gA (d.1 8) r = 1) : dayOk (fLeave d (nI r) how) n (offN ws r) := by
  obtain ⟨b1, b2, b3, b4⟩ := base_eq hd hr
  have l8 := dayOk_l8 hd
  obtain ⟨hn, hl, hb, hf, hnow, ⟨h11, hw, hwl, hm⟩, hld⟩ := hd
  have hw2 := wsOk_iff.mp hw
  have hol := offN_len (ws := ws) (r := r)
  have e8 : (fLeave d (nI r) how).1 8 = (d.1 8).set r how := by
    show rSet (d.1 8) (nI r) how = _
    rw [rSet_nI (by omega)]
  have e11 : (fLeave d (nI r) how).1 11 = (offN ws r).map nI := by
    show fOff (d.1 11) (nI r) = _
    rw [h11, fOff_map (by omega) (fun v hv => by have := hw2.2.1 v hv; omega)]
  have eo : ∀ k, k ≠ 8 → k ≠ 11 → (fLeave d (nI r) how).1 k = d.1 k := by
    intro k h8 h11'
    unfold fLeave
    rw [rvR_ne h8, rvR_ne h11', b1]
  have e2 : (fLeave d (nI r) how).2 = (fBase d (nI r)).2 := rfl
  have emin : ∀ i j, f_X0_minutes (fLeave d (nI r) how) i j = f_X0_minutes d i j := by
    intro i j
    unfold f_X0_minutes
    rw [eo 1 (by omega) (by omega), eo 2 (by omega) (by omega)]
  refine ⟨hn, ?_, ⟨?_, ?_, ?_, ?_, ?_⟩, ?_, ?_, ⟨e11, offN_ok hw, by omega, ?_⟩, ?_⟩
  · obtain ⟨l0, l1, l2, l3, l4, l5, l6, l7, l8, l9, l10⟩ := hl
    unfold lenD
    rw [e8, eo 0 (by omega) (by omega), eo 1 (by omega) (by omega), eo 2 (by omega) (by omega), eo 3 (by omega) (by omega), eo 4 (by omega) (by omega), eo 5 (by omega) (by omega), eo 6 (by omega) (by omega), eo 7 (by omega) (by omega), eo 9 (by omega) (by omega), eo 10 (by omega) (by omega), List.length_set]
    exact ⟨l0, l1, l2, l3, l4, l5, l6, l7, l8, l9, l10⟩
  · unfold bdS; rw [eo 0 (by omega) (by omega)]; exact hb.1
  · unfold bdX; rw [eo 1 (by omega) (by omega), eo 2 (by omega) (by omega)]; exact hb.2.1
  · unfold bdT; rw [eo 5 (by omega) (by omega), eo 6 (by omega) (by omega), eo 9 (by omega) (by omega)]; exact hb.2.2.1
  · intro q hq
    obtain ⟨i, j, hi, hj, f3, f4, f7, hil, hjl⟩ := hb.2.2.2.1 q hq
    rw [eo 3 (by omega) (by omega), eo 4 (by omega) (by omega), eo 7 (by omega) (by omega), eo 1 (by omega) (by omega)]
    exact ⟨i, j, hi, hj, f3, f4, by rw [emin]; exact f7, hil, hjl⟩
  · rw [e2]; exact b4
  · rw [e2]; exact b3
  · rw [e2, b2]; exact hnow
  · intro q hq
    rw [e8, gA_set (by omega), offN_mem, offN_mem]
    by_cases c : q = r
    · rw [if_pos c]
      refine ⟨⟨fun z => absurd z.2 (by omega), fun z => absurd z h0⟩, ⟨fun z => absurd z.2 (by omega), fun z => z.elim (fun z => absurd z h0) (fun z => absurd z h1)⟩⟩
    · rw [if_neg c]
      obtain ⟨g1, g2⟩ := hm q hq
      exact ⟨⟨fun z => g1.mp z.1, fun z => ⟨g1.mpr z, by omega⟩⟩, ⟨fun z => g2.mp z.1, fun z => ⟨g2.mpr z, by omega⟩⟩⟩
  · rw [e8, eo 0 (by omega) (by omega), nStand_set (by omega) (by omega) h1]
    refine ld_off hw2.2.2 hld ?_
    obtain ⟨g1, g2⟩ := hm r hr
    rcases hs with e | e
    · rw [e, if_neg (by decide)]
      exact Or.inl ⟨by omega, fun _ => g1.mpr e⟩
    · rw [e, if_pos rfl]
      exact Or.inr ⟨rfl, fun z => absurd (g1.mp z) (by rw [e]; decide)⟩
/-! ===== a visit is made ===== -/
def mkV (e : RV) (v : Nat) (ti : Int32) : RV := rvR (f_X0_make e (nI v) ti) 11 (rDel ((f_X0_make e (nI v) ti).1 11) 0)
theorem mkV_eq {e : RV} {v : Nat} {ti : Int32} (hv : v < 34) : (∀ k, k ≠ 8 → k ≠ 9 → k ≠ 10 → k ≠ 11 → (mkV e v ti).1 k = e.1 k) ∧ (mkV e v ti).1 8 = rSet (e.1 8) (nI (v / 2)) (if v % 2 = 0 then 1 else 2) ∧ (mkV e v ti).1 9 = (if v % 2 = 0 then rSet (e.1 9) (nI (v / 2)) ti else e.1 9) ∧ (mkV e v ti).1 10 = (if v % 2 = 0 then e.1 10 else rSet (e.1 10) (nI (v / 2)) ti) ∧ (mkV e v ti).1 11 = rDel (e.1 11) 0 ∧ (mkV e v ti).2 0 = e.2 0 ∧ (mkV e v ti).2 1 = sSt e v ∧ (mkV e v ti).2 2 = ti + gA (e.1 0) 2 := by
  unfold mkV f_X0_make sSt
  dsimp only [yl]
  have e2 : ∀ d3 : RV, d3.1 = e.1 → rAt (d3.1 0) (2 : Int32) = gA (e.1 0) 2 := fun d3 h => by rw [h]; exact rAt_gA (i := 2) (by omega)
  rw [vis_ride hv, vis_down hv, e2 (rvI e 1 (f_X0_stopOf e (nI v))) rfl]
  by_cases ev : v % 2 = 0
  · rw [if_pos ((nI0_iff (n := v % 2) (by omega)).mpr ev), if_pos ev, if_pos ev, if_pos ev]
    refine ⟨fun k h8 h9 h10 h11 => ?_, rfl, rfl, rfl, rfl, rfl, rfl, rfl⟩
    rw [rvR_ne h11, rvR_ne h8, rvR_ne h9]
    rfl
  · rw [if_neg (fun z => ev ((nI0_iff (n := v % 2) (by omega)).mp z)), if_neg ev, if_neg ev, if_neg ev]
    refine ⟨fun k h8 h9 h10 h11 => ?_, rfl, rfl, rfl, rfl, rfl, rfl, rfl⟩
    rw [rvR_ne h11, rvR_ne h8, rvR_ne h10]
    rfl
theorem mkV_now {e : RV} {v : Nat} {ti x : Int32} : mkV (rvI e 0 x) v ti = rvI (mkV e v ti) 0 x := by
  have hst : f_X0_stopOf (rvI e 0 x) (nI v) = f_X0_stopOf e (nI v) := rfl
  unfold mkV f_X0_make
  dsimp only [yl]
  rw [hst]
  split
  · refine Prod.ext rfl (funext fun j => ?_)
    simp only [rvR, rvI]
    by_cases c0 : j = 0
    · subst c0; rfl
    · rw [if_neg c0, if_neg c0]
  · refine Prod.ext rfl (funext fun j => ?_)
    simp only [rvR, rvI]
    by_cases c0 : j = 0
    · subst c0; rfl
    · rw [if_neg c0, if_neg c0]
theorem nStand_up {xs : List Int32} {r : Nat} (h : r < xs.length) (hl : xs.length < 1000) (h1 : gA xs r ≠ 1) : (nStand (xs.set r 1) 1).toInt = (nStand xs 1).toInt + 1 := by
  have e : xs[r] = gA xs r := by unfold gA; rw [List.getD_eq_getElem?_getD, List.getElem?_eq_getElem h]; rfl
  have hc1 : cntOf xs 1 ≤ xs.length := List.countP_le_length
  have hc2 : cntOf (xs.set r 1) 1 ≤ (xs.set r 1).length := List.countP_le_length
  rw [List.length_set] at hc2
  unfold nStand
  rw [nI_toInt (by omega), nI_toInt (by omega)]
  have hs : cntOf (xs.set r 1) 1 = cntOf xs 1 + 1 := by
    unfold cntOf
    rw [List.countP_set h, e]
    simp only [decide_eq_true_eq, if_neg h1, if_true, Nat.sub_zero]
  rw [hs]
  omega
/-- the first visit is made: a day again -/
theorem visit_ok {e : RV} {n v : Nat} {l : List Nat} {ti : Int32} (hd : dayOk e n (v :: l)) (ht : bd ti 0 2000) : dayOk (mkV e v ti) n l := by
  have l8' := dayOk_l8 hd
  obtain ⟨hn, hl, hb, hf, hnow, ⟨h11, hw, hwl, hm⟩, hld⟩ := hd
  have hw2 := wsOk_iff.mp hw
  have hv : v < 2 * n := hw2.2.1 v List.mem_cons_self
  obtain ⟨eo, e8, e9, e10, e11, f0, f1, f2⟩ := mkV_eq (e := e) (ti := ti) (v := v) (by omega)
  rw [rSet_nI (by omega)] at e8 e9 e10
  obtain ⟨l0, l1, l2, l3, l4, l5, l6, l7, l8, l9, l10⟩ := hl
  have hp := hw2.2.2
  rw [List.pairwise_cons] at hp
  have emin : ∀ i j, f_X0_minutes (mkV e v ti) i j = f_X0_minutes e i j := by
    intro i j
    unfold f_X0_minutes
    rw [eo 1 (by omega) (by omega) (by omega) (by omega), eo 2 (by omega) (by omega) (by omega) (by omega)]
  have e11' : (mkV e v ti).1 11 = l.map nI := by
    rw [e11, h11, List.map_cons]
    rfl
  have hlen := hw2.1
  rw [List.length_cons] at hlen hwl
  obtain ⟨m1, m2⟩ := hm (v / 2) (by omega)
  -- how the ride stood
  have hstood : gA (e.1 8) (v / 2) = (if v % 2 = 0 then 0 else 1) := by
    by_cases ev : v % 2 = 0
    · rw [if_pos ev]
      exact m1.mp (by rw [show 2 * (v / 2) = v by omega]; exact List.mem_cons_self)
    · rw [if_neg ev]
      rcases m2.mp (by rw [show 2 * (v / 2) + 1 = v by omega]; exact List.mem_cons_self) with z | z
      · have h1 := m1.mpr z
        rw [List.mem_cons] at h1
        rcases h1 with h1 | h1
        · omega
        · exact absurd ⟨by omega, by omega⟩ (hp.1 _ h1).2
      · exact z
  refine ⟨hn, ?_, ⟨?_, ?_, ?_, ?_, ?_⟩, ?_, ?_, ⟨e11', wsOk_iff.mpr ⟨by omega, fun x hx => hw2.2.1 x (List.mem_cons_of_mem _ hx), hp.2⟩, by omega, ?_⟩, ?_⟩
  · unfold lenD
    rw [e8, e9, e10, eo 0 (by omega) (by omega) (by omega) (by omega), eo 1 (by omega) (by omega) (by omega) (by omega), eo 2 (by omega) (by omega) (by omega) (by omega), eo 3 (by omega) (by omega) (by omega) (by omega), eo 4 (by omega) (by omega) (by omega) (by omega), eo 5 (by omega) (by omega) (by omega) (by omega), eo 6 (by omega) (by omega) (by omega) (by omega), eo 7 (by omega) (by omega) (by omega) (by omega), List.length_set]
    refine ⟨l0, l1, l2, l3, l4, l5, l6, l7, l8, ?_, ?_⟩
    · split
      · rw [List.length_set]; exact l9
      · exact l9
    · split
      · exact l10
      · rw [List.length_set]; exact l10
  · unfold bdS; rw [eo 0 (by omega) (by omega) (by omega) (by omega)]; exact hb.1
  · unfold bdX; rw [eo 1 (by omega) (by omega) (by omega) (by omega), eo 2 (by omega) (by omega) (by omega) (by omega)]; exact hb.2.1
  · unfold bdT
    rw [eo 5 (by omega) (by omega) (by omega) (by omega), eo 6 (by omega) (by omega) (by omega) (by omega), e9]
    refine ⟨hb.2.2.1.1, hb.2.2.1.2.1, fun i => ?_⟩
    split
    · rw [gA_set (by omega)]
      split
      · exact bd_wide ht (by omega) (by omega)
      · exact hb.2.2.1.2.2 i
    · exact hb.2.2.1.2.2 i
  · intro q hq
    obtain ⟨i, j, hi, hj, f3, f4, f7, hil, hjl⟩ := hb.2.2.2.1 q hq
    rw [eo 3 (by omega) (by omega) (by omega) (by omega), eo 4 (by omega) (by omega) (by omega) (by omega), eo 7 (by omega) (by omega) (by omega) (by omega), eo 1 (by omega) (by omega) (by omega) (by omega)]
    exact ⟨i, j, hi, hj, f3, f4, by rw [emin]; exact f7, hil, hjl⟩
  · rw [f1]; exact sSt_at hb.2.2.2.1 hv (by omega)
  · rw [f2]; exact bd_wide (bd_add ht hb.1.2.2 (by omega) (by omega)).1 (by omega) (by omega)
  · rw [f0]; exact hnow
  · intro q hq
    rw [e8, gA_set (by omega)]
    obtain ⟨g1, g2⟩ := hm q hq
    by_cases c : q = v / 2
    · rw [if_pos c]
      by_cases ev : v % 2 = 0
      · rw [if_pos ev]
        have hv2 : v = 2 * q := by omega
        refine ⟨⟨fun z => absurd hv2 (hp.1 _ z).1, fun z => absurd z (by decide)⟩, ⟨fun _ => Or.inr rfl, fun _ => ?_⟩⟩
        rw [c] at g2 ⊢
        have h2 := g2.mpr (Or.inl (by rw [hstood, if_pos ev]))
        rw [List.mem_cons] at h2
        exact h2.elim (fun z => absurd z (by omega)) id
      · rw [if_neg ev]
        have hv2 : v = 2 * q + 1 := by omega
        refine ⟨⟨fun z => absurd ⟨by omega, hv2⟩ (hp.1 _ z).2, fun z => absurd z (by decide)⟩, ⟨fun z => absurd hv2 (hp.1 _ z).1, fun z => z.elim (fun z => absurd z (by decide)) (fun z => absurd z (by decide))⟩⟩
    · rw [if_neg c]
      rw [List.mem_cons] at g1 g2
      exact ⟨⟨fun z => g1.mp (Or.inr z), fun z => (g1.mpr z).elim (fun y => absurd y (by omega)) id⟩, ⟨fun z => g2.mp (Or.inr z), fun z => (g2.mpr z).elim (fun y => absurd y (by omega)) id⟩⟩
  · rw [e8, eo 0 (by omega) (by omega) (by omega) (by omega)]
    have h2 := hld.2
    by_cases ev : v % 2 = 0
    · rw [if_pos ev] at h2 hstood ⊢
      rw [nStand_up (by omega) (by omega) (by rw [hstood]; decide)]
      exact h2
    · rw [if_neg ev] at h2 hstood ⊢
      rw [nStand_set (by omega) (by omega) (by decide), hstood, if_pos rfl]
      exact h2
/-! ===== time goes by ===== -/
theorem step_now {d t : RV} {x v : Int32} : f_X5_step t (rvI d 0 x) v = f_X5_step t d v := rfl
theorem TK_now {d : RV} {ws : List Nat} {x : Int32} : ∀ k, TK (rvI d 0 x) ws k = TK d ws k := by
  intro k
  induction k with
  | zero => rfl
  | succ k ih =>
    show (f_X5_step (TK (rvI d 0 x) ws k) (rvI d 0 x) _).2 = (f_X5_step (TK d ws k) d _).2
    rw [ih, step_now]
/-- the day in the midst of passing: behind k visits -/
def midP (d e : RV) (ws : List Nat) (k : Nat) : Prop := (∀ j, j < 8 → e.1 j = d.1 j) ∧ e.2 0 = d.2 0 ∧ e.2 1 = (TK d ws k).2 0 ∧ e.2 2 = (TK d ws k).2 1
theorem mid_time {d e : RV} {ws l : List Nat} {k v : Nat} (hm : midP d e ws k) : sTime e (TK e l 0) v = sTime d (TK d ws k) v := by
  obtain ⟨h1, -, h3, h4⟩ := hm
  have e0 : (TK e l 0).2 0 = e.2 1 := rfl
  have e1 : (TK e l 0).2 1 = e.2 2 := rfl
  unfold sTime sCome sMin sSt f_X0_stopOf f_X0_minutes
  rw [e0, e1, h3, h4, h1 1 (by omega), h1 2 (by omega), h1 3 (by omega), h1 4 (by omega), h1 5 (by omega)]
theorem dayOk_now {d : RV} {n : Nat} {ws : List Nat} {x : Int32} (hd : dayOk d n ws) (hx : bd x 0 2000) : dayOk (rvI d 0 x) n ws := by
  obtain ⟨h1, h2, h3, h4, -, h6, h7⟩ := hd
  exact ⟨h1, h2, h3, h4, hx, h6, h7⟩
