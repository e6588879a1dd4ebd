/-! ===== a booking ===== -/
theorem leaveT_I {d : RV} {n : Nat} {ws : List Nat} (hd : dayOk d n ws) : (d.2 2).toInt ≤ (leaveT d).toInt ∧ (ws = [] → (d.2 0).toInt ≤ (leaveT d).toInt) ∧ (ws ≠ [] → leaveT d = d.2 2) := by
  have h11 := hd.2.2.2.2.2.1.1
  have hlen : (d.1 11).length = ws.length := by rw [h11, List.length_map]
  unfold leaveT
  rw [hlen]
  by_cases c : ws.length = 0
  · rw [if_pos c]
    have e : ws = [] := List.eq_nil_of_length_eq_zero c
    by_cases c2 : d.2 2 < d.2 0
    · rw [if_pos c2]
      rw [fa_lt] at c2
      exact ⟨by omega, fun _ => Int.le_refl _, fun z => absurd e z⟩
    · rw [if_neg c2]
      rw [fa_lt] at c2
      exact ⟨Int.le_refl _, fun _ => by omega, fun _ => rfl⟩
  · rw [if_neg c]
    exact ⟨Int.le_refl _, fun z => absurd (by rw [z]; rfl) c, fun _ => rfl⟩
theorem flag_down {d : RV} {ws : List Nat} {n k : Nat} (hn : n ≤ 17) (hw : wsOk ws n) (hk : k < ws.length) (hb : bdD d n) (hF : tabF d ws n k) (ev : gN ws k % 2 = 1) (hfl : flagK d ws k ≠ 0) : tK d ws k ≤ byI d (gN ws k / 2) ∧ tK d ws k ≤ (sLate d (TK d ws k) (gN ws k)).toInt := by
  have hv := hw.2.1 k hk
  have hwl := hw.1
  have h3 : flagK d ws k = _ := step_flag1 (d := d) (t := TK d ws k) (v := gN ws k) (by omega) (by omega)
  have ht : sTime d (TK d ws k) (gN ws k) = sCome d (TK d ws k) (gN ws k) := by
    unfold sTime
    rw [if_neg (by omega)]
  have hI := time_K hb hF (by omega)
  rw [ht] at hI
  rw [h3] at hfl
  by_cases c : gA (d.1 6) (gN ws k / 2) < sCome d (TK d ws k) (gN ws k)
  · rw [if_pos c] at hfl
    exact absurd rfl hfl
  · rw [if_neg c] at hfl
    by_cases c2 : sLate d (TK d ws k) (gN ws k) < sCome d (TK d ws k) (gN ws k)
    · rw [if_pos c2] at hfl
      exact absurd rfl hfl
    · rw [fa_lt, hI] at c
      rw [fa_lt, hI] at c2
      unfold byI
      omega
theorem inv_book {d : RV} {n i j : Nat} {ws : List Nat} {fr to wa bt : Int32} (h : invP d n ws) (ha : argOk d fr to wa bt) (hn16 : n < 16) (hp : fP0 d ≤ i) (hij : i < j) (hj : j ≤ ws.length + 1) (hfl : wayFl (fDay1 d fr to wa bt) ws n i j) : invP (dayW2 (fDay1 d fr to wa bt) ws n i j) (n + 1) (wayOf ws n i j) := by
  obtain ⟨⟨hd, hlt, hrf, hst⟩, hft⟩ := h
  have hok := booked_ok hd ha hn16 hij hj hfl
  have hw := hd.2.2.2.2.2.1.2.1
  have hwl := hd.2.2.2.2.2.1.2.2.1
  have h11 := hd.2.2.2.2.2.1.1
  have hX := hd.2.2.1.2.1
  have hlen := wayOf_len (n := n) (i := i) (j := j) (ws := ws) (by omega) hj
  have hwk := wayOf_ok (n := n) (i := i) (j := j) hw (by omega) hij hj
  obtain ⟨e0, e1, e2, e3, e4, e5, e6, e7, e8, e9, e10, -, f0, f1, f2, -⟩ := day1_eq (d := d) (fr := fr) (to := to) (wa := wa) (bt := bt) (by rw [h11, List.length_map]; omega)
  obtain ⟨l0, l1, l2, l3, l4, l5, l6, l7, l8, l9, l10⟩ := hd.2.1
  obtain ⟨L1, L2, L3⟩ := leaveT_I hd
  have hg0 : 0 < i → gN (wayOf ws n i j) 0 = gN ws 0 := fun hi => by rw [gN_wayOf (by omega) hj, if_pos (by omega), if_pos hi]
  unfold wayFl at hfl
  have g0 : (dayW2 (fDay1 d fr to wa bt) ws n i j).1 0 = d.1 0 := e0
  have g1 : (dayW2 (fDay1 d fr to wa bt) ws n i j).1 1 = d.1 1 := e1
  have g2 : (dayW2 (fDay1 d fr to wa bt) ws n i j).1 2 = d.1 2 := e2
  have g3 : (dayW2 (fDay1 d fr to wa bt) ws n i j).1 3 = rAdd 17 (d.1 3) fr := e3
  have g4 : (dayW2 (fDay1 d fr to wa bt) ws n i j).1 4 = rAdd 17 (d.1 4) to := e4
  have g5 : (dayW2 (fDay1 d fr to wa bt) ws n i j).1 5 = rAdd 17 (d.1 5) wa := e5
  have g7 : (dayW2 (fDay1 d fr to wa bt) ws n i j).1 7 = rAdd 17 (d.1 7) (f_X0_minutes d fr to) := e7
  have g8 : (dayW2 (fDay1 d fr to wa bt) ws n i j).1 8 = rAdd 17 (d.1 8) 0 := e8
  have g9 : (dayW2 (fDay1 d fr to wa bt) ws n i j).1 9 = rAdd 17 (d.1 9) (-6) := e9
  have g10 : (dayW2 (fDay1 d fr to wa bt) ws n i j).1 10 = rAdd 17 (d.1 10) (-6) := e10
  have k0 : (dayW2 (fDay1 d fr to wa bt) ws n i j).2 0 = d.2 0 := f0
  have k1 : (dayW2 (fDay1 d fr to wa bt) ws n i j).2 1 = d.2 1 := f1
  have k2 : (dayW2 (fDay1 d fr to wa bt) ws n i j).2 2 = leaveT d := f2
  generalize dayW2 (fDay1 d fr to wa bt) ws n i j = E at *
  generalize hW : wayOf ws n i j = W at *
  have eD : ∀ p q, dI E p q = dI d p q := fun p q => dI_same g1 g2 p q
  have at_ : ∀ (r : Nat), r < n → gA (E.1 3) r = gA (d.1 3) r ∧ gA (E.1 4) r = gA (d.1 4) r ∧ wtI E r = wtI d r ∧ skI E r = skI d r ∧ gA (E.1 8) r = gA (d.1 8) r ∧ gA (E.1 9) r = gA (d.1 9) r ∧ gA (E.1 10) r = gA (d.1 10) r := by
    intro r hr
    unfold wtI skI
    rw [g3, g4, g5, g7, g8, g9, g10, gA_add l3 (by omega), gA_add l4 (by omega), gA_add l5 (by omega), gA_add l7 (by omega), gA_add l8 (by omega), gA_add l9 (by omega), gA_add l10 (by omega), if_pos hr, if_pos hr, if_pos hr, if_pos hr, if_pos hr, if_pos hr, if_pos hr]
    exact ⟨rfl, rfl, rfl, rfl, rfl, rfl, rfl⟩
  refine ⟨⟨hok, ?_, ?_, ?_⟩, ?_⟩
  · exact late_of (by omega) hwk hok.2.2.1 (dayTF hok) (fun k hk ev => (flag_down (by omega) hwk hk hok.2.2.1 (dayTF hok k (by omega)) ev (hfl k hk)).1)
  · intro r hr
    by_cases c : r < n
    · obtain ⟨a3, a4, a5, a7, a8, a9, a10⟩ := at_ r c
      refine rideF_same (d := d) a5 a7 a8 a9 a10 (fun _ => ?_) (hrf r c)
      rw [eD, a4, k1, k2]
      omega
    · have e : r = n := by omega
      subst e
      unfold rideF
      rw [g8, g9, g10, gA_add l8 (by omega), gA_add l9 (by omega), gA_add l10 (by omega), if_neg c, if_neg c, if_neg c, if_pos rfl, if_pos rfl]
      exact Or.inl ⟨rfl, rfl, rfl⟩
  · rw [k1, g1]
    exact hst
  · rw [k0, k1, k2]
    have hXE : bdX E := hok.2.2.1.2.1
    rcases way_cases hd with ⟨c, hc⟩ | ⟨c, hne, -⟩
    · refine fst_of_le hXE ?_ _
      rcases hc with hc | hc
      · exact L2 hc
      · omega
    · have hi : 0 < i := by
        unfold fP0 at hp
        rw [if_neg (by rw [c]; decide)] at hp
        omega
      have hcons := drop_cons (ws := W) (k := 0) (by omega)
      rw [List.drop_zero, hg0 hi] at hcons
      rw [hcons, L3 hne]
      show (d.2 0).toInt ≤ tmI E (d.2 1) (d.2 2).toInt (gN ws 0)
      have hl0 : 0 < ws.length := List.length_pos_iff.mpr hne
      have hv := hw.2.1 0 hl0
      obtain ⟨a3, a4, a5, -⟩ := at_ (gN ws 0 / 2) (by omega)
      have hsS : sSt E (gN ws 0) = sSt d (gN ws 0) := by
        unfold sSt
        rw [stopOf_eq (by omega), stopOf_eq (by omega), a3, a4]
      have ht : tmI E (d.2 1) (d.2 2).toInt (gN ws 0) = tmI d (d.2 1) (d.2 2).toInt (gN ws 0) := by
        unfold tmI
        rw [hsS, eD, a5]
      rw [ht]
      have hcons2 := drop_cons (ws := ws) (k := 0) hl0
      rw [List.drop_zero] at hcons2
      rw [hcons2] at hft
      exact hft
/-! ===== what a change answers and leaves ===== -/
def okR (d : RV) (xs : List RV) (r : Int32) (d' : RV) (xs' : List RV) : Prop := (r < 0 ∧ d' = d ∧ xs' = xs) ∨ (0 ≤ r ∧ xs' = ((if 6 ≤ xs.length then xs.drop 1 else xs) ++ [d]) ∧ invD d')
def keptD (d : RV) : Prop := ∃ n ws, invP d n ws ∧ ∀ k, k < ws.length → flagK d ws k ≠ 0
theorem ok_set {d : RV} {xs : List RV} {se va : Int32} (h : invD d) : okR d xs (f_X6_set d xs se va).1 (f_X6_set d xs se va).2.1 (f_X6_set d xs se va).2.2 ∧ (f_X6_set d xs se va).1 = (f_X6_set d [] se va).1 ∧ (f_X6_set d xs se va).2.1 = (f_X6_set d [] se va).2.1 := by
  obtain ⟨n, ws, h⟩ := h
  have hd := h.1.1
  have h11 := hd.2.2.2.2.2.1.1
  have hwl := hd.2.2.2.2.2.1.2.1.1
  have bad : ∀ (x : Int32), x < 0 → okR d xs x d xs := fun x hx => Or.inl ⟨hx, rfl, rfl⟩
  unfold f_X6_set rLen
  dsimp only [yl]
  rw [h11, List.length_map]
  by_cases c1 : se < 0
  · simp only [if_pos c1]
    exact ⟨bad _ (by decide), by trivial, by trivial⟩
  simp only [if_neg c1]
  rcases (Decidable.em (se < 3)).symm with c2 | c2
  · simp only [if_neg c2]
    exact ⟨bad _ (by decide), by trivial, by trivial⟩
  simp only [if_pos c2]
  by_cases c3 : va < f_X6_leastOf se
  · simp only [if_pos c3]
    exact ⟨bad _ (by decide), by trivial, by trivial⟩
  simp only [if_neg c3]
  rcases (Decidable.em (va ≤ f_X6_mostOf se)).symm with c4 | c4
  · simp only [if_neg c4]
    exact ⟨bad _ (by decide), by trivial, by trivial⟩
  simp only [if_pos c4]
  rcases (Decidable.em (nI ws.length ≤ 0)).symm with c5 | c5
  · simp only [if_neg c5]
    exact ⟨bad _ (by decide), by trivial, by trivial⟩
  simp only [if_pos c5]
  rw [fa_le, nI_toInt (by omega), t32_0] at c5
  have ew : ws = [] := List.eq_nil_of_length_eq_zero (by omega)
  subst ew
  obtain ⟨b0, b1, b2⟩ := hd.2.2.1.1
  rw [fa_lt, t32_0] at c1
  rw [fa_lt, show (3 : Int32).toInt = 3 by decide] at c2
  rw [fa_lt] at c3
  rw [fa_le] at c4
  obtain ⟨k, hk, rfl⟩ := bd_nat (x := se) (hi := 2) ⟨by omega, by omega⟩
  have hat : rAt (d.1 0) (nI k) = gA (d.1 0) k := rAt_gA (by omega)
  refine ⟨Or.inr ⟨?_, rfl, n, [], inv_set k (by omega) h ?_⟩, by trivial, by trivial⟩
  · rw [fa_le, t32_0, hat]
    rcases (show k = 0 ∨ k = 1 ∨ k = 2 by omega) with rfl | rfl | rfl
    · have := b0.1; omega
    · exact b1.1
    · exact b2.1
  · rcases (show k = 0 ∨ k = 1 ∨ k = 2 by omega) with rfl | rfl | rfl
    · refine Or.inl ⟨rfl, ?_, ?_⟩
      · have e : (f_X6_leastOf (nI 0)).toInt = 1 := by decide
        omega
      · have e : (f_X6_mostOf (nI 0)).toInt = 8 := by decide
        omega
    · refine Or.inr (Or.inl ⟨rfl, ?_, ?_⟩)
      · have e : (f_X6_leastOf (nI 1)).toInt = 0 := by decide
        omega
      · have e : (f_X6_mostOf (nI 1)).toInt = 60 := by decide
        omega
    · refine Or.inr (Or.inr ⟨rfl, ?_, ?_⟩)
      · have e : (f_X6_leastOf (nI 2)).toInt = 0 := by decide
        omega
      · have e : (f_X6_mostOf (nI 2)).toInt = 5 := by decide
        omega
theorem ok_stop {d : RV} {xs : List RV} {px py : Int32} (h : invD d) : okR d xs (f_X6_stop d xs px py).1 (f_X6_stop d xs px py).2.1 (f_X6_stop d xs px py).2.2 ∧ (f_X6_stop d xs px py).1 = (f_X6_stop d [] px py).1 ∧ (f_X6_stop d xs px py).2.1 = (f_X6_stop d [] px py).2.1 := by
  obtain ⟨n, ws, h⟩ := h
  have hd := h.1.1
  have bad : ∀ (x : Int32), x < 0 → okR d xs x d xs := fun x hx => Or.inl ⟨hx, rfl, rfl⟩
  have l1 := hd.2.1.2.1
  unfold f_X6_stop rLen
  dsimp only [yl]
  by_cases c1 : px < 0
  · simp only [if_pos c1]
    exact ⟨bad _ (by decide), by trivial, by trivial⟩
  simp only [if_neg c1]
  by_cases c2 : 30 < px
  · simp only [if_pos c2]
    exact ⟨bad _ (by decide), by trivial, by trivial⟩
  simp only [if_neg c2]
  by_cases c3 : py < 0
  · simp only [if_pos c3]
    exact ⟨bad _ (by decide), by trivial, by trivial⟩
  simp only [if_neg c3]
  rcases (Decidable.em (py ≤ 30)).symm with c4 | c4
  · simp only [if_neg c4]
    exact ⟨bad _ (by decide), by trivial, by trivial⟩
  simp only [if_pos c4]
  rcases (Decidable.em (nI (d.1 1).length < 12)).symm with c5 | c5
  · simp only [if_neg c5]
    exact ⟨bad _ (by decide), by trivial, by trivial⟩
  simp only [if_pos c5]
  rw [fa_lt, t32_0] at c1 c3
  rw [fa_lt, show (30 : Int32).toInt = 30 by decide] at c2
  rw [fa_le, show (30 : Int32).toInt = 30 by decide] at c4
  rw [fa_lt, nI_toInt (by omega), show (12 : Int32).toInt = 12 by decide] at c5
  refine ⟨Or.inr ⟨?_, rfl, n, ws, inv_stop h ⟨by omega, by omega⟩ ⟨by omega, by omega⟩ (by omega)⟩, by trivial, by trivial⟩
  rw [rvR_ne (show 1 ≠ 2 by decide), rvR_eq, rAdd_app (by omega), List.length_append, List.length_singleton, nI_pred]
  exact nI_pos' (by omega)
theorem ok_leave {d : RV} {xs : List RV} {n r : Nat} {ws : List Nat} {how : Int32} (h : invP d n ws) (hr : r < n) (hh : (gA (d.1 8) r = 0 ∧ how = 3) ∨ (gA (d.1 8) r = 1 ∧ how = 4)) : okR d xs (rLen ((fLeave d (nI r) how).1 11)) (fLeave d (nI r) how) ((if 6 ≤ xs.length then xs.drop 1 else xs) ++ [d]) := by
  have hi := inv_leave h hr hh
  refine Or.inr ⟨?_, rfl, n, _, hi⟩
  have h11 := hi.1.1.2.2.2.2.2.1.1
  have hwl := hi.1.1.2.2.2.2.2.1.2.1.1
  unfold rLen
  rw [h11, List.length_map]
  exact nI_pos' (by omega)
theorem ok_cancel {d : RV} {xs : List RV} {ri : Int32} (h : invD d) : okR d xs (f_X6_cancel d xs ri).1 (f_X6_cancel d xs ri).2.1 (f_X6_cancel d xs ri).2.2 ∧ (f_X6_cancel d xs ri).1 = (f_X6_cancel d [] ri).1 ∧ (f_X6_cancel d xs ri).2.1 = (f_X6_cancel d [] ri).2.1 := by
  obtain ⟨n, ws, h⟩ := h
  have hd := h.1.1
  have hn := hd.1
  have bad : ∀ (x : Int32), x < 0 → okR d xs x d xs := fun x hx => Or.inl ⟨hx, rfl, rfl⟩
  unfold f_X6_cancel
  dsimp only [yl]
  by_cases c1 : f_X0_hasRide d ri = 0
  · simp only [if_pos c1]
    exact ⟨bad _ (by decide), by trivial, by trivial⟩
  simp only [if_neg c1]
  obtain ⟨r, hr, rfl⟩ := dayOk_rideF hd c1
  rcases (Decidable.em (rAt (d.1 8) (nI r) = 0)).symm with c2 | c2
  · simp only [if_neg c2]
    exact ⟨bad _ (by decide), by trivial, by trivial⟩
  simp only [if_pos c2]
  rw [rAt_gA (by omega)] at c2
  exact ⟨ok_leave h hr (Or.inl ⟨c2, rfl⟩), by trivial, by trivial⟩
theorem ok_miss {d : RV} {xs : List RV} {ri : Int32} (h : invD d) : okR d xs (f_X6_miss d xs ri).1 (f_X6_miss d xs ri).2.1 (f_X6_miss d xs ri).2.2 ∧ (f_X6_miss d xs ri).1 = (f_X6_miss d [] ri).1 ∧ (f_X6_miss d xs ri).2.1 = (f_X6_miss d [] ri).2.1 := by
  obtain ⟨n, ws, h⟩ := h
  have hd := h.1.1
  have hn := hd.1
  have bad : ∀ (x : Int32), x < 0 → okR d xs x d xs := fun x hx => Or.inl ⟨hx, rfl, rfl⟩
  unfold f_X6_miss
  dsimp only [yl]
  by_cases c1 : f_X0_hasRide d ri = 0
  · simp only [if_pos c1]
    exact ⟨bad _ (by decide), by trivial, by trivial⟩
  simp only [if_neg c1]
  obtain ⟨r, hr, rfl⟩ := dayOk_rideF hd c1
  rcases (Decidable.em (rAt (d.1 8) (nI r) = 1)).symm with c2 | c2
  · simp only [if_neg c2]
    exact ⟨bad _ (by decide), by trivial, by trivial⟩
  simp only [if_pos c2]
  rw [rAt_gA (by omega)] at c2
  exact ⟨ok_leave h hr (Or.inr ⟨c2, rfl⟩), by trivial, by trivial⟩
theorem ok_pass {d t t2 : RV} {xs : List RV} {nw : Int32} (h : invD d) : okR d xs (f_X6_pass d t xs nw).1 (f_X6_pass d t xs nw).2.1 (f_X6_pass d t xs nw).2.2.2 ∧ (f_X6_pass d t xs nw).1 = (f_X6_pass d t2 [] nw).1 ∧ (f_X6_pass d t xs nw).2.1 = (f_X6_pass d t2 [] nw).2.1 := by
  obtain ⟨n, ws, h⟩ := h
  have hd := h.1.1
  have bad : ∀ (x : Int32), x < 0 → okR d xs x d xs := fun x hx => Or.inl ⟨hx, rfl, rfl⟩
  unfold f_X6_pass
  dsimp only [yl]
  by_cases c1 : nw ≤ d.2 0
  · simp only [if_pos c1]
    exact ⟨bad _ (by decide), by trivial, by trivial⟩
  simp only [if_neg c1]
  rcases (Decidable.em (nw ≤ 2000)).symm with c2 | c2
  · simp only [if_neg c2]
    exact ⟨bad _ (by decide), by trivial, by trivial⟩
  simp only [if_pos c2]
  rw [fa_le] at c1
  rw [fa_le, show (2000 : Int32).toInt = 2000 by decide] at c2
  have hnow := hd.2.2.2.2.1.1
  obtain ⟨k', hk, e1, e2⟩ := inv_pass (nw := nw) h ⟨by omega, by omega⟩
  have hwl := hd.2.2.2.2.2.1.2.1.1
  refine ⟨Or.inr ⟨?_, rfl, n, _, e2⟩, by trivial, by trivial⟩
  rw [e1]
  exact nI_pos' (by omega)
/-- what book answers and leaves, whatever the search held -/
def fBk (d : RV) (fr to wa bt : Int32) : Int32 × RV := ((f_X6_tryToBook d T0 T0 T0 fr to wa bt).1, if 0 ≤ (f_X6_tryToBook d T0 T0 T0 fr to wa bt).1 then (f_X6_tryToBook d T0 T0 T0 fr to wa bt).2.2.1 else d)
theorem try_E {d sv sd st : RV} {n : Nat} {ws : List Nat} {fr to wa bt : Int32} (h : invP d n ws) : ((f_X6_tryToBook d sv sd st fr to wa bt).1 < 0 ∨ ((f_X6_tryToBook d sv sd st fr to wa bt).1 = nI n ∧ keptD (f_X6_tryToBook d sv sd st fr to wa bt).2.2.1)) ∧ (f_X6_tryToBook d sv sd st fr to wa bt).1 = (f_X6_tryToBook d T0 T0 T0 fr to wa bt).1 ∧ (0 ≤ (f_X6_tryToBook d sv sd st fr to wa bt).1 → (f_X6_tryToBook d sv sd st fr to wa bt).2.2.1 = (f_X6_tryToBook d T0 T0 T0 fr to wa bt).2.2.1) := by
  have hd := h.1.1
  have hn := hd.1
  have l8 := dayOk_l8 hd
  unfold f_X6_tryToBook rLen
  dsimp only [yl]
  rcases (Decidable.em (f_X6_errorOf d fr to wa bt = 0)).symm with c | c
  · simp only [if_neg c]
    have hneg := err_neg c
    exact ⟨Or.inl hneg, by trivial, fun z => absurd hneg (Int32.not_lt.mpr z)⟩
  simp only [if_pos c]
  rw [l8]
  rcases (Decidable.em (nI n < 16)).symm with c16 | c16
  · simp only [if_neg c16]
    exact ⟨Or.inl (by decide), by trivial, fun z => absurd z (by decide)⟩
  simp only [if_pos c16]
  rw [fa_lt, nI_toInt (by omega), show (16 : Int32).toInt = 16 by decide] at c16
  obtain ⟨s1, s2⟩ := find_same d fr to wa bt sv st T0 T0
  rw [← s1]
  rcases find_E (sv := sv) (st := st) (fr := fr) (to := to) (wa := wa) (bt := bt) hd with f1 | ⟨f1, i, j, hp, hij, hj, hfl, eD⟩
  · simp only [if_pos f1]
    exact ⟨Or.inl (by decide), by trivial, fun z => absurd z (by decide)⟩
  · have f0 : ¬ (fFind d fr to wa bt sv st).1 = 0 := by rw [f1]; decide
    simp only [if_neg f0]
    refine ⟨Or.inr ⟨by trivial, ?_⟩, by trivial, fun _ => s2 f0⟩
    rw [eD]
    exact ⟨n + 1, _, inv_book h (err_arg hd c) (by omega) hp hij hj hfl, hfl⟩
theorem ok_book {d sv sd st : RV} {xs : List RV} {fr to wa bt : Int32} (h : invD d) : okR d xs (f_X6_book d sv sd st xs fr to wa bt).1 (f_X6_book d sv sd st xs fr to wa bt).2.1 (f_X6_book d sv sd st xs fr to wa bt).2.2.2.2.2 ∧ (f_X6_book d sv sd st xs fr to wa bt).1 = (fBk d fr to wa bt).1 ∧ (f_X6_book d sv sd st xs fr to wa bt).2.1 = (fBk d fr to wa bt).2 ∧ (0 ≤ (fBk d fr to wa bt).1 → keptD (fBk d fr to wa bt).2) := by
  obtain ⟨n, ws, h⟩ := h
  have hn := h.1.1.1
  obtain ⟨h1, h2, h3⟩ := try_E (sv := sv) (sd := sd) (st := st) (fr := fr) (to := to) (wa := wa) (bt := bt) h
  unfold f_X6_book fBk
  dsimp only [yl]
  rw [← h2]
  by_cases c : 0 ≤ (f_X6_tryToBook d sv sd st fr to wa bt).1
  · simp only [if_pos c]
    rcases h1 with h1 | ⟨h1, h4⟩
    · exact absurd h1 (Int32.not_lt.mpr c)
    · have h5 := h3 c
      refine ⟨Or.inr ⟨c, rfl, ?_⟩, by trivial, h5, fun _ => by rw [← h5]; exact h4⟩
      obtain ⟨n', ws', h6, -⟩ := h4
      exact ⟨n', ws', h6⟩
  · simp only [if_neg c]
    exact ⟨Or.inl ⟨Int32.not_le.mp c, rfl, rfl⟩, by trivial, by trivial, fun z => absurd z c⟩
