/-! ===== the reference's cells hold a day: settings, stops, rides ===== -/
def setR (s : Nat → Int32) (d : RV) : Prop := s 0 = gA (d.1 0) 0 ∧ s 1 = gA (d.1 0) 1 ∧ s 2 = gA (d.1 0) 2
def stopR (s : Nat → Int32) (d : RV) : Prop := ∀ i, i < 12 → s (9 + 2 * i) = gA (d.1 1) i ∧ s (9 + 2 * i + 1) = gA (d.1 2) i
def rideR (s : Nat → Int32) (d : RV) (n : Nat) : Prop := ∀ r, r < n → s (33 + 7 * r + 0) = gA (d.1 3) r ∧ s (33 + 7 * r + 1) = gA (d.1 4) r ∧ s (33 + 7 * r + 2) = gA (d.1 5) r ∧ s (33 + 7 * r + 3) = gA (d.1 6) r ∧ s (33 + 7 * r + 4) = gA (d.1 8) r ∧ s (33 + 7 * r + 5) = gA (d.1 9) r ∧ s (33 + 7 * r + 6) = gA (d.1 10) r
def relD (s : Nat → Int32) (d : RV) (n : Nat) : Prop := setR s d ∧ stopR s d ∧ rideR s d n ∧ s 6 = d.2 0 ∧ s 7 = d.2 1
/-- a day's numbers are in their ranges -/
def bdS (d : RV) : Prop := bd (gA (d.1 0) 0) 1 8 ∧ bd (gA (d.1 0) 1) 0 60 ∧ bd (gA (d.1 0) 2) 0 5
def bdX (d : RV) : Prop := (∀ i, bd (gA (d.1 1) i) 0 30) ∧ (∀ i, bd (gA (d.1 2) i) 0 30)
def bdT (d : RV) : Prop := (∀ i, bd (gA (d.1 5) i) 0 600) ∧ (∀ i, bd (gA (d.1 6) i) 0 900) ∧ (∀ i, bd (gA (d.1 9) i) (-6) 30000)
def bdN (d : RV) (n : Nat) : Prop := ∀ r, r < n → ∃ i j, i < 12 ∧ j < 12 ∧ gA (d.1 3) r = nI i ∧ gA (d.1 4) r = nI j ∧ gA (d.1 7) r = f_X0_minutes d (nI i) (nI j) ∧ i < (d.1 1).length ∧ j < (d.1 1).length
def bdD (d : RV) (n : Nat) : Prop := bdS d ∧ bdX d ∧ bdT d ∧ bdN d n ∧ ∃ i, i < 12 ∧ d.2 1 = nI i
/-! ===== the reference's small methods ===== -/
theorem q_of {m : MV} {ri wh : Int32} {K : Int32 → Prop} (r w : Nat) (h1 : r < 17) (h2 : w < 7) (hr : ri = nI r) (hw : wh = nI w) (hK : K (m.2 1 (33 + 7 * r + w))) : PO_X7_of m ri wh K := by
  subst hr hw
  unfold PO_X7_of wp_X7_of_0
  rw [ixR, nI_clamp (by omega)]
  exact ⟨vp_in_nI (by omega) (by omega), hK⟩
theorem q_lay {m : MV} {ri wh va : Int32} {K : MV → Prop} (r w : Nat) (h1 : r < 17) (h2 : w < 7) (hr : ri = nI r) (hw : wh = nI w) (hK : K (mA m 1 (33 + 7 * r + w) va)) : PO_X7_lay ri wh va K m := by
  subst hr hw
  unfold PO_X7_lay wp_X7_lay_0
  rw [ixR, nI_clamp (by omega)]
  exact ⟨vp_in_nI (by omega) (by omega), hK⟩
theorem stopOf_eq {d : RV} {v : Nat} (h : v < 34) : f_X0_stopOf d (nI v) = if v % 2 = 0 then gA (d.1 3) (v / 2) else gA (d.1 4) (v / 2) := by
  unfold f_X0_stopOf
  dsimp only [yl]
  rw [vis_ride h, vis_down h, rAt_gA (by omega), rAt_gA (by omega)]
  by_cases e : v % 2 = 0
  · rw [if_pos e, if_pos ((nI0_iff (by omega)).mpr e)]
  · rw [if_neg e, if_neg (fun z => e ((nI0_iff (by omega)).mp z))]
theorem q_stopOf {m : MV} {d : RV} {n : Nat} {vi : Int32} {K : Int32 → Prop} (v : Nat) (hn : n ≤ 17) (hv : v < 2 * n) (hR : rideR (m.2 1) d n) (e : vi = nI v) (hK : K (f_X0_stopOf d (nI v))) : PO_X7_stopOf m vi K := by
  subst e
  unfold PO_X7_stopOf wp_X7_stopOf_0
  rw [vis_mod (by omega), vis_half (by omega)]
  rw [stopOf_eq (by omega)] at hK
  obtain ⟨h3, h4, -⟩ := hR (v / 2) (by omega)
  by_cases e : v % 2 = 0
  · rw [if_pos e] at hK
    rw [if_pos ((nI0_iff (by omega)).mpr e)]
    exact q_of (v / 2) 0 (by omega) (by omega) rfl rfl (by rw [h3]; exact hK)
  · rw [if_neg e] at hK
    rw [if_neg (fun z => e ((nI0_iff (by omega)).mp z))]
    exact q_of (v / 2) 1 (by omega) (by omega) rfl rfl (by rw [h4]; exact hK)
theorem q_drive {m : MV} {d : RV} {K : Int32 → Prop} (i j : Nat) (hi : i < 12) (hj : j < 12) {a b : Int32} (ha : a = nI i) (hb : b = nI j) (hR : stopR (m.2 1) d) (hx : bdX d) (hK : K (f_X0_minutes d (nI i) (nI j))) : PO_X7_drive m a b K := by
  subst ha hb
  unfold PO_X7_drive wp_X7_drive_0
  dsimp only [yl]
  have e1 : nI (9 + 2 * i) + 1 = nI (9 + 2 * i + 1) := nI_1 _
  have e2 : nI (9 + 2 * j) + 1 = nI (9 + 2 * j + 1) := nI_1 _
  rw [ixS, ixS, e1, e2, nI_clamp (by omega), nI_clamp (by omega), nI_clamp (by omega), nI_clamp (by omega)]
  rw [(hR i hi).1, (hR i hi).2, (hR j hj).1, (hR j hj).2]
  refine ⟨vp_in_nI (by omega) (by omega), vp_in_nI (by omega) (by omega), vp_in_nI (by omega) (by omega), vp_in_nI (by omega) (by omega), ?_⟩
  rw [(abs_bd (hx.1 i) (hx.1 j)).2, (abs_bd (hx.2 i) (hx.2 j)).2]
  unfold f_X0_minutes at hK
  dsimp only [yl] at hK
  rw [rAt_gA (by omega), rAt_gA (by omega), rAt_gA (by omega), rAt_gA (by omega)] at hK
  exact hK
theorem q_straight {m : MV} {d : RV} {n : Nat} {ri : Int32} {K : Int32 → Prop} (r : Nat) (hn : n ≤ 17) (hr : r < n) (e : ri = nI r) (hR : rideR (m.2 1) d n) (hS : stopR (m.2 1) d) (hx : bdX d) (hN : bdN d n) (hK : K (gA (d.1 7) r)) : PO_X7_straight m ri K := by
  subst e
  unfold PO_X7_straight wp_X7_straight_0
  obtain ⟨i, j, hi, hj, e3, e4, e7, -⟩ := hN r hr
  obtain ⟨h3, h4, -⟩ := hR r hr
  refine q_of r 0 (by omega) (by omega) rfl rfl ?_
  refine q_of r 1 (by omega) (by omega) rfl rfl ?_
  refine q_drive i j hi hj (by rw [h3, e3]) (by rw [h4, e4]) hS hx ?_
  rw [← e7]
  exact hK
/-- the counting of rides that stand so -/
theorem cnt_step {xs : List Int32} {how : Int32} {k : Nat} (h : k < xs.length) : nI (cntOf (xs.take (k + 1)) how) = (if gA xs k = how then nI (cntOf (xs.take k) how) + 1 else nI (cntOf (xs.take k) how)) := by
  rw [cntOf_take_succ h]
  have e : xs[k] = gA xs k := by unfold gA; rw [List.getD_eq_getElem?_getD, List.getElem?_eq_getElem h]; rfl
  rw [e]
  split
  · rw [nI_1]
  · rfl
theorem q_aboardNow {m : MV} {K : Int32 → Prop} (xs : List Int32) (n : Nat) (hn : n ≤ 17) (hl : n ≤ xs.length) (h4 : m.2 1 4 = nI n) (hR : ∀ r, r < n → m.2 1 (33 + 7 * r + 4) = gA xs r) (hK : K (nStand (xs.take n) 1)) : PO_X7_aboardNow m K := by
  refine ⟨fun w x1 x2 => ∃ k, k ≤ n ∧ x2 = nI k ∧ x1 = nI (cntOf (xs.take k) 1) ∧ w = n - k, ?_, ⟨n, 0, by omega, rfl, rfl, rfl⟩⟩
  rintro w x1 x2 ⟨k, hk, rfl, rfl, rfl⟩
  unfold wp_X7_aboardNow_4
  refine ⟨vp_in_nI (n := 4) (by omega) (by omega), ?_⟩
  rw [show ((4 : Int32).toNatClampNeg) = 4 from rfl, h4]
  by_cases c : n ≤ k
  · rw [if_pos ((nI_leI (by omega) (by omega)).mpr c)]
    rw [show k = n by omega]
    exact hK
  · rw [if_neg (fun z => c ((nI_leI (by omega) (by omega)).mp z))]
    refine q_of k 4 (by omega) (by omega) rfl rfl ?_
    rw [hR k (by omega)]
    have hs := cnt_step (xs := xs) (how := 1) (k := k) (by omega)
    by_cases c2 : gA xs k = 1
    · rw [if_pos c2] at hs ⊢
      exact ⟨_, by omega, k + 1, by omega, nI_1 k, hs.symm, rfl⟩
    · rw [if_neg c2] at hs ⊢
      exact ⟨_, by omega, k + 1, by omega, nI_1 k, by rw [hs, Int32.add_zero], rfl⟩
theorem q_standing {m : MV} {how : Int32} {K : Int32 → Prop} (xs : List Int32) (n : Nat) (hn : n ≤ 17) (hl : n = xs.length) (h4 : m.2 1 4 = nI n) (hR : ∀ r, r < n → m.2 1 (33 + 7 * r + 4) = gA xs r) (hK : K (nStand xs how)) : PO_X7_standing m how K := by
  refine ⟨fun w x2 x3 => ∃ k, k ≤ n ∧ x3 = nI k ∧ x2 = nI (cntOf (xs.take k) how) ∧ w = n - k, ?_, ⟨n, 0, by omega, rfl, rfl, rfl⟩⟩
  rintro w x2 x3 ⟨k, hk, rfl, rfl, rfl⟩
  unfold wp_X7_standing_4
  refine ⟨vp_in_nI (n := 4) (by omega) (by omega), ?_⟩
  rw [show ((4 : Int32).toNatClampNeg) = 4 from rfl, h4]
  by_cases c : n ≤ k
  · rw [if_pos ((nI_leI (by omega) (by omega)).mpr c)]
    rw [List.take_of_length_le (by omega)]
    exact hK
  · rw [if_neg (fun z => c ((nI_leI (by omega) (by omega)).mp z))]
    refine q_of k 4 (by omega) (by omega) rfl rfl ?_
    rw [hR k (by omega)]
    have hs := cnt_step (xs := xs) (how := how) (k := k) (by omega)
    by_cases c2 : gA xs k = how
    · rw [if_pos c2] at hs ⊢
      exact ⟨_, by omega, k + 1, by omega, nI_1 k, hs.symm, rfl⟩
    · rw [if_neg c2] at hs ⊢
      exact ⟨_, by omega, k + 1, by omega, nI_1 k, by rw [hs, Int32.add_zero], rfl⟩
/-! ===== the way ===== -/
def gN (ws : List Nat) (i : Nat) : Nat := ws.getD i 0
def wayR (m : MV) (ws : List Nat) : Prop := m.1 10 = nI ws.length ∧ ws.length ≤ 34 ∧ ∀ j, j < ws.length → m.2 9 j = nI (gN ws j)
theorem q_placeOf {m : MV} {vi : Int32} {K : Int32 → Prop} (ws : List Nat) (v : Nat) (hv : v < 1000) (hws : ∀ j, j < ws.length → gN ws j < 1000) (hw : wayR m ws) (e : vi = nI v) (hK1 : ∀ p, p < ws.length → gN ws p = v → (∀ j, j < p → gN ws j ≠ v) → K (nI p)) (hK2 : (∀ j, j < ws.length → gN ws j ≠ v) → K (-6)) : PO_X7_placeOf m vi K := by
  subst e
  obtain ⟨h1, h2, h3⟩ := hw
  refine ⟨fun w x2 => ∃ k, k ≤ ws.length ∧ x2 = nI k ∧ w = ws.length - k ∧ ∀ j, j < k → gN ws j ≠ v, ?_, ⟨_, 0, by omega, rfl, rfl, fun j hj => absurd hj (Nat.not_lt_zero j)⟩⟩
  rintro w x2 ⟨k, hk, rfl, rfl, hne⟩
  unfold wp_X7_placeOf_2
  rw [h1]
  by_cases c : ws.length ≤ k
  · rw [if_pos ((nI_leI (by omega) (by omega)).mpr c)]
    exact hK2 (fun j hj => hne j (by omega))
  · rw [if_neg (fun z => c ((nI_leI (by omega) (by omega)).mp z)), nI_clamp (by omega), h3 k (by omega)]
    refine ⟨vp_in_nI (by omega) (by omega), ?_⟩
    by_cases c2 : gN ws k = v
    · rw [c2, if_pos rfl]
      exact hK1 k (by omega) c2 hne
    · rw [if_neg (fun z => c2 ((nI_eq (by have := hws k (by omega); omega) (by omega)).mp z))]
      refine ⟨_, by omega, k + 1, by omega, nI_1 k, rfl, fun j hj => ?_⟩
      by_cases c3 : j = k
      · rw [c3]; exact c2
      · exact hne j (by omega)
