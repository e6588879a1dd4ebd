/-! ===== what holds of every day ===== -/
def rideF (d : RV) (r : Nat) : Prop :=
  (gA (d.1 8) r = 0 ∧ gA (d.1 9) r = -6 ∧ gA (d.1 10) r = -6) ∨ (gA (d.1 8) r = 1 ∧ wtI d r ≤ pkI d r ∧ pkI d r + skI d r ≤ (d.2 2).toInt + dI d (d.2 1) (gA (d.1 4) r) ∧ gA (d.1 10) r = -6) ∨ (gA (d.1 8) r = 2 ∧ wtI d r ≤ pkI d r ∧ pkI d r + skI d r ≤ dnI d r) ∨ (gA (d.1 8) r = 3 ∧ gA (d.1 9) r = -6 ∧ gA (d.1 10) r = -6) ∨ (gA (d.1 8) r = 4 ∧ 0 ≤ pkI d r ∧ gA (d.1 10) r = -6)
def invQ (d : RV) (n : Nat) (ws : List Nat) : Prop := dayOk d n ws ∧ lateP d (d.2 1) (d.2 2).toInt ws ∧ (∀ r, r < n → rideF d r) ∧ ∃ i, d.2 1 = nI i ∧ (i = 0 ∨ i < (d.1 1).length)
def invP (d : RV) (n : Nat) (ws : List Nat) : Prop := invQ d n ws ∧ fstP d (d.2 1) (d.2 2).toInt (d.2 0).toInt ws
def invD (d : RV) : Prop := ∃ n ws, invP d n ws
theorem rideF_same {d e : RV} {r : Nat} (h5 : wtI e r = wtI d r) (h7 : skI e r = skI d r) (h8 : gA (e.1 8) r = gA (d.1 8) r) (h9 : gA (e.1 9) r = gA (d.1 9) r) (h10 : gA (e.1 10) r = gA (d.1 10) r) (hm : gA (d.1 8) r = 1 → (d.2 2).toInt + dI d (d.2 1) (gA (d.1 4) r) ≤ (e.2 2).toInt + dI e (e.2 1) (gA (e.1 4) r)) (h : rideF d r) : rideF e r := by
  have h9' : pkI e r = pkI d r := by unfold pkI; rw [h9]
  have h10' : dnI e r = dnI d r := by unfold dnI; rw [h10]
  unfold rideF at h ⊢
  rw [h5, h7, h8, h9, h10, h9', h10']
  rcases h with h | h | h | h | h
  · exact Or.inl h
  · obtain ⟨h1, h2, h3, h4⟩ := h
    have := hm h1
    exact Or.inr (Or.inl ⟨h1, h2, by omega, h4⟩)
  · exact Or.inr (Or.inr (Or.inl h))
  · exact Or.inr (Or.inr (Or.inr (Or.inl h)))
  · exact Or.inr (Or.inr (Or.inr (Or.inr h)))
theorem day0_ok : dayOk D0 0 [] := by
  have hz : ∀ (k : Nat) (i : Nat), k ≠ 0 → gA (D0.1 k) i = 0 := fun k i hk => by
    show gA (if k = 0 then [3, 10, 1] else []) i = 0
    rw [if_neg hk]
    rfl
  refine ⟨by omega, ⟨rfl, by decide, rfl, rfl, rfl, rfl, rfl, rfl, rfl, rfl, rfl⟩, ⟨⟨?_, ?_, ?_⟩, ⟨fun i => ?_, fun i => ?_⟩, ⟨fun i => ?_, fun i => ?_, fun i => ?_⟩, fun r hr => absurd hr (Nat.not_lt_zero r), ⟨0, by omega, rfl⟩⟩, bd0 (by omega) (by omega), bd0 (by omega) (by omega), ⟨rfl, ⟨by decide, fun j hj => absurd hj (Nat.not_lt_zero j), fun p q _ hq => absurd hq (Nat.not_lt_zero q), fun p q _ hq => absurd hq (Nat.not_lt_zero q)⟩, by decide, fun r hr => absurd hr (Nat.not_lt_zero r)⟩, ?_⟩
  · unfold bd; decide
  · unfold bd; decide
  · unfold bd; decide
  · rw [hz _ _ (by omega)]; exact bd0 (by omega) (by omega)
  · rw [hz _ _ (by omega)]; exact bd0 (by omega) (by omega)
  · rw [hz _ _ (by omega)]; exact bd0 (by omega) (by omega)
  · rw [hz _ _ (by omega)]; exact bd0 (by omega) (by omega)
  · rw [hz _ _ (by omega)]; exact bd0 (by omega) (by omega)
  · show (nStand (D0.1 8) 1).toInt ≤ (gA (D0.1 0) 0).toInt
    decide
theorem inv_0 : invD D0 := ⟨0, [], ⟨day0_ok, trivial, fun r hr => absurd hr (Nat.not_lt_zero r), 0, rfl, Or.inl rfl⟩, trivial⟩
/-! ===== a setting, a stop ===== -/
theorem set_day {d : RV} {n : Nat} {va : Int32} (k : Nat) (hk : k < 3) (hd : dayOk d n []) (hv : (k = 0 ∧ bd va 1 8) ∨ (k = 1 ∧ bd va 0 60) ∨ (k = 2 ∧ bd va 0 5)) : dayOk (rvR d 0 (rSet (d.1 0) (nI k) va)) n [] := by
  have h0 := no_route hd rfl
  obtain ⟨hn, hl, hb, hf, hnow, hrt, hld⟩ := hd
  obtain ⟨l0, l1, l2, l3, l4, l5, l6, l7, l8, l9, l10⟩ := hl
  have es : rSet (d.1 0) (nI k) va = (d.1 0).set k va := rSet_nI (by omega)
  have e0 : (rvR d 0 (rSet (d.1 0) (nI k) va)).1 0 = (d.1 0).set k va := by rw [rvR_eq, es]
  have eg : ∀ j, gA ((rvR d 0 (rSet (d.1 0) (nI k) va)).1 0) j = if j = k then va else gA (d.1 0) j := fun j => by rw [e0, gA_set (by omega)]
  obtain ⟨⟨b0, b1, b2⟩, hbr⟩ := hb
  refine ⟨hn, ⟨by rw [e0]; simp [l0], l1, l2, l3, l4, l5, l6, l7, l8, l9, l10⟩, ⟨⟨?_, ?_, ?_⟩, hbr⟩, hf, hnow, hrt, ?_⟩
  · rw [eg]
    split
    · rcases hv with ⟨e1, e2⟩ | ⟨e1, e2⟩ | ⟨e1, e2⟩
      · exact e2
      · omega
      · omega
    · exact b0
  · rw [eg]
    split
    · rcases hv with ⟨e1, e2⟩ | ⟨e1, e2⟩ | ⟨e1, e2⟩
      · omega
      · exact e2
      · omega
    · exact b1
  · rw [eg]
    split
    · rcases hv with ⟨e1, e2⟩ | ⟨e1, e2⟩ | ⟨e1, e2⟩
      · omega
      · omega
      · exact e2
    · exact b2
  · show (nStand (d.1 8) 1).toInt ≤ _
    rw [h0, t32_0, eg]
    split
    · rcases hv with ⟨e1, e2⟩ | ⟨e1, e2⟩ | ⟨e1, e2⟩
      · have := e2.1; omega
      · omega
      · omega
    · have := b0.1; omega
theorem inv_set {d : RV} {n : Nat} {va : Int32} (k : Nat) (hk : k < 3) (h : invP d n []) (hv : (k = 0 ∧ bd va 1 8) ∨ (k = 1 ∧ bd va 0 60) ∨ (k = 2 ∧ bd va 0 5)) : invP (rvR d 0 (rSet (d.1 0) (nI k) va)) n [] := by
  obtain ⟨⟨hd, -, hr, hs⟩, -⟩ := h
  exact ⟨⟨set_day k hk hd hv, trivial, fun r hq => rideF_same rfl rfl rfl rfl rfl (fun _ => Int.le_refl _) (hr r hq), hs⟩, trivial⟩
theorem stop_day {d D : RV} {n : Nat} {ws : List Nat} {px py : Int32} (hd : dayOk d n ws) (hx : bd px 0 30) (hy : bd py 0 30) (hl : (d.1 1).length < 12) (hD : D = rvR (rvR d 1 (rAdd 12 (d.1 1) px)) 2 (rAdd 12 (d.1 2) py)) : dayOk D n ws ∧ (∀ k, k ≠ 1 → k ≠ 2 → D.1 k = d.1 k) ∧ D.2 = d.2 ∧ (∀ i j, i < (d.1 1).length → j < (d.1 1).length → dI D (nI i) (nI j) = dI d (nI i) (nI j)) ∧ (D.1 1).length = (d.1 1).length + 1 := by
  obtain ⟨hn, hl', hb, hf, hnow, hrt, hld⟩ := hd
  obtain ⟨l0, l1, l2, l3, l4, l5, l6, l7, l8, l9, l10⟩ := hl'
  obtain ⟨hbS, ⟨bx, by_⟩, hbT, hbN, hat⟩ := hb
  have e1 : D.1 1 = d.1 1 ++ [px] := by
    rw [hD]
    show rAdd 12 (d.1 1) px = _
    rw [rAdd_app hl]
  have e2 : D.1 2 = d.1 2 ++ [py] := by
    rw [hD]
    show rAdd 12 (d.1 2) py = _
    rw [rAdd_app (by omega)]
  have hDr : ∀ k, k ≠ 1 → k ≠ 2 → D.1 k = d.1 k := fun k h1 h2 => by rw [hD, rvR_ne h2, rvR_ne h1]
  have hD2 : D.2 = d.2 := by rw [hD]; rfl
  have hmin : ∀ i j, i < (d.1 1).length → j < (d.1 1).length → f_X0_minutes D (nI i) (nI j) = f_X0_minutes d (nI i) (nI j) := by
    intro i j hi hj
    unfold f_X0_minutes
    rw [e1, e2, rAt_gA (by omega), rAt_gA (by omega), rAt_gA (by omega), rAt_gA (by omega), rAt_gA (by omega), rAt_gA (by omega), rAt_gA (by omega), rAt_gA (by omega), gA_app, gA_app, gA_app, gA_app, if_pos hi, if_pos hj, if_pos (by omega), if_pos (by omega)]
  have hbd : ∀ (xs : List Int32) (v : Int32), (∀ i, bd (gA xs i) 0 30) → bd v 0 30 → ∀ i, bd (gA (xs ++ [v]) i) 0 30 := by
    intro xs v hxs hv i
    rw [gA_app]
    split
    · exact hxs i
    · split
      · exact hv
      · exact bd0 (by omega) (by omega)
  have r0 := hDr 0 (by omega) (by omega)
  have r3 := hDr 3 (by omega) (by omega)
  have r4 := hDr 4 (by omega) (by omega)
  have r5 := hDr 5 (by omega) (by omega)
  have r6 := hDr 6 (by omega) (by omega)
  have r7 := hDr 7 (by omega) (by omega)
  have r8 := hDr 8 (by omega) (by omega)
  have r9 := hDr 9 (by omega) (by omega)
  have r10 := hDr 10 (by omega) (by omega)
  have r11 := hDr 11 (by omega) (by omega)
  refine ⟨⟨hn, ?_, ⟨?_, ?_, ?_, ?_, ?_⟩, ?_, ?_, ?_, ?_⟩, hDr, hD2, fun i j hi hj => by unfold dI; rw [hmin i j hi hj], by rw [e1]; simp⟩
  · unfold lenD
    rw [r0, e1, e2, r3, r4, r5, r6, r7, r8, r9, r10]
    simp only [List.length_append, List.length_singleton]
    exact ⟨l0, by omega, by omega, l3, l4, l5, l6, l7, l8, l9, l10⟩
  · unfold bdS; rw [r0]; exact hbS
  · unfold bdX
    rw [e1, e2]
    exact ⟨hbd _ _ bx hx, hbd _ _ by_ hy⟩
  · unfold bdT; rw [r5, r6, r9]; exact hbT
  · intro r hr
    obtain ⟨i, j, hi, hj, f3, f4, f7, hil, hjl⟩ := hbN r hr
    rw [r3, r4, r7, e1]
    simp only [List.length_append, List.length_singleton]
    exact ⟨i, j, hi, hj, f3, f4, by rw [hmin i j hil hjl]; exact f7, by omega, by omega⟩
  · rw [hD2]; exact hat
  · rw [hD2]; exact hf
  · rw [hD2]; exact hnow
  · unfold rtOk; rw [r11, r8]; exact hrt
  · rw [r0, r8]; exact hld
/-- a stop that was told -/
def vS (d : RV) (p : Int32) : Prop := ∃ i, i < (d.1 1).length ∧ p = nI i
theorem sSt_vS {d : RV} {n v : Nat} (hN : bdN d n) (hv : v < 2 * n) (hn : n ≤ 17) : vS d (sSt d v) := by
  unfold sSt
  rw [stopOf_eq (by omega)]
  obtain ⟨i, j, hi, hj, e3, e4, -, h1, h2⟩ := hN (v / 2) (by omega)
  split
  · exact ⟨i, h1, e3⟩
  · exact ⟨j, h2, e4⟩
theorem late_vS {d e : RV} (h0 : e.1 0 = d.1 0) (h : ∀ j, 3 ≤ j → j < 7 → e.1 j = d.1 j) (hD : ∀ p q, vS d p → vS d q → dI e p q = dI d p q) : ∀ (l : List Nat) (p : Int32) (f : Int), vS d p → (∀ v, v ∈ l → vS d (sSt d v)) → lateP d p f l → lateP e p f l := by
  intro l
  induction l with
  | nil => exact fun _ _ _ _ _ => trivial
  | cons v l ih =>
    intro p f hp hl hh
    obtain ⟨h1, h2⟩ := hh
    have hv := hl v List.mem_cons_self
    have hs : sSt e v = sSt d v := sSt_same (h 3 (by omega) (by omega)) (h 4 (by omega) (by omega)) v
    have ht : tmI e p f v = tmI d p f v := by
      unfold tmI wtI
      rw [hs, hD p _ hp hv, h 5 (by omega) (by omega)]
    have hS : S3 e = S3 d := by unfold S3; rw [h0]
    have hb : byI e (v / 2) = byI d (v / 2) := by unfold byI; rw [h 6 (by omega) (by omega)]
    refine ⟨fun q => by rw [ht, hb]; exact h1 q, ?_⟩
    rw [ht, hs, hS]
    exact ih _ _ hv (fun w hw => hl w (List.mem_cons_of_mem _ hw)) h2
theorem inv_stop {d : RV} {n : Nat} {ws : List Nat} {px py : Int32} (h : invP d n ws) (hx : bd px 0 30) (hy : bd py 0 30) (hl : (d.1 1).length < 12) : invP (rvR (rvR d 1 (rAdd 12 (d.1 1) px)) 2 (rAdd 12 (d.1 2) py)) n ws := by
  obtain ⟨⟨hd, hlt, hr, i, hi1, hi2⟩, hft⟩ := h
  obtain ⟨D, hD⟩ : ∃ D, D = rvR (rvR d 1 (rAdd 12 (d.1 1) px)) 2 (rAdd 12 (d.1 2) py) := ⟨_, rfl⟩
  obtain ⟨k1, k2, k3, k4, k5⟩ := stop_day hd hx hy hl hD
  rw [← hD]
  have hst : ∃ i, D.2 1 = nI i ∧ (i = 0 ∨ i < (D.1 1).length) := ⟨i, by rw [k3]; exact hi1, by omega⟩
  have hwl := hd.2.2.2.2.2.1.2.2.1
  by_cases hn0 : n = 0
  · subst hn0
    have e : ws = [] := List.eq_nil_of_length_eq_zero (by omega)
    subst e
    exact ⟨⟨k1, trivial, fun r hq => absurd hq (Nat.not_lt_zero r), hst⟩, trivial⟩
  · have hN := hd.2.2.1.2.2.2.1
    have hw := hd.2.2.2.2.2.1.2.1
    have hn := hd.1
    obtain ⟨a, b, -, -, -, -, -, ha, -⟩ := hN 0 (by omega)
    have hp : vS d (d.2 1) := ⟨i, by omega, hi1⟩
    have hv : ∀ v, v ∈ ws → vS d (sSt d v) := by
      intro v hv
      obtain ⟨q, hq, e⟩ := mem_gN hv
      exact sSt_vS hN (by rw [← e]; exact hw.2.1 q hq) (by omega)
    have hDD : ∀ p q, vS d p → vS d q → dI D p q = dI d p q := by
      rintro p q ⟨i1, h1, rfl⟩ ⟨i2, h2, rfl⟩
      exact k4 i1 i2 h1 h2
    have e0 := k2 0 (by omega) (by omega)
    have eR : ∀ j, 3 ≤ j → D.1 j = d.1 j := fun j hj => k2 j (by omega) (by omega)
    refine ⟨⟨k1, ?_, ?_, hst⟩, ?_⟩
    · rw [k3]
      exact late_vS e0 (fun j hj _ => eR j hj) hDD ws _ _ hp hv hlt
    · intro r hq
      refine rideF_same (d := d) ?_ ?_ ?_ ?_ ?_ (fun hq1 => ?_) (hr r hq)
      · unfold wtI; rw [eR 5 (by omega)]
      · unfold skI; rw [eR 7 (by omega)]
      · rw [eR 8 (by omega)]
      · rw [eR 9 (by omega)]
      · rw [eR 10 (by omega)]
      · rw [k3, eR 4 (by omega)]
        obtain ⟨a, b, -, -, -, f4, -, -, hb⟩ := hN r hq
        rw [hDD _ _ hp ⟨b, hb, f4⟩]
        exact Int.le_refl _
    · rw [k3]
      cases ws with
      | nil => trivial
      | cons v l =>
        have hs : sSt D v = sSt d v := sSt_same (eR 3 (by omega)) (eR 4 (by omega)) v
        show _ ≤ tmI D _ _ v
        have ht : tmI D (d.2 1) (d.2 2).toInt v = tmI d (d.2 1) (d.2 2).toInt v := by
          unfold tmI wtI
          rw [hs, hDD _ _ hp (hv v List.mem_cons_self), eR 5 (by omega)]
        rw [ht]
        exact hft
