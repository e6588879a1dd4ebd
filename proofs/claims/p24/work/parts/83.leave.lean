/-! ===== a ride leaves ===== -/
theorem way_cases {d : RV} {n : Nat} {ws : List Nat} (hd : dayOk d n ws) : (f_X0_isOnItsWay d = 0 ∧ (ws = [] ∨ (d.2 0).toInt ≤ (d.2 2).toInt)) ∨ (f_X0_isOnItsWay d = 1 ∧ ws ≠ [] ∧ (d.2 2).toInt < (d.2 0).toInt) := by
  have h11 := hd.2.2.2.2.2.1.1
  have hwl := hd.2.2.2.2.2.1.2.1.1
  unfold f_X0_isOnItsWay rLen
  dsimp only [yl]
  rw [h11, List.length_map]
  by_cases c : nI ws.length ≤ 0
  · rw [if_pos c]
    rw [fa_le, nI_toInt (by omega), t32_0] at c
    exact Or.inl ⟨rfl, Or.inl (List.eq_nil_of_length_eq_zero (by omega))⟩
  · rw [if_neg c]
    by_cases c2 : d.2 0 ≤ d.2 2
    · rw [if_pos c2]
      rw [fa_le] at c2
      exact Or.inl ⟨rfl, Or.inr c2⟩
    · rw [if_neg c2]
      rw [fa_le] at c2
      refine Or.inr ⟨rfl, fun z => c (by rw [z]; decide), by omega⟩
theorem fst_of_le {d : RV} (hX : bdX d) {p : Int32} {f now : Int} (h : now ≤ f) (l : List Nat) : fstP d p f now l := by
  cases l with
  | nil => trivial
  | cons v l =>
    have h1 := tmI_ge d p f v
    have h2 := (dI_bd hX p (sSt d v)).1
    show now ≤ tmI d p f v
    omega
theorem S3_ge {d : RV} {n : Nat} (hb : bdD d n) : 0 ≤ S3 d := hb.1.2.2.1
/-- the bus behind the leaving of ride r -/
theorem base_dom {d : RV} {n r : Nat} {ws : List Nat} (h : invP d n ws) (hr : r < n) : lateP d ((fBase d (nI r)).2 1) ((fBase d (nI r)).2 2).toInt (offN ws r) ∧ fstP d ((fBase d (nI r)).2 1) ((fBase d (nI r)).2 2).toInt (d.2 0).toInt (offN ws r) ∧ domP d (d.2 1) (d.2 2).toInt ((fBase d (nI r)).2 1) ((fBase d (nI r)).2 2).toInt ∧ ∃ i, (fBase d (nI r)).2 1 = nI i ∧ (i = 0 ∨ i < (d.1 1).length) := by
  obtain ⟨⟨hd, hlt, -, hst⟩, hft⟩ := h
  have hb := hd.2.2.1
  have hX := hb.2.1
  have hS := S3_ge hb
  have h11 := hd.2.2.2.2.2.1.1
  have hw := hd.2.2.2.2.2.1.2.1
  have hn := hd.1
  have stay : (ws = [] ∨ (d.2 0).toInt ≤ (d.2 2).toInt) ∨ (∃ v l, ws = v :: l ∧ ¬ v / 2 = r) → fBase d (nI r) = d → (lateP d ((fBase d (nI r)).2 1) ((fBase d (nI r)).2 2).toInt (offN ws r) ∧ fstP d ((fBase d (nI r)).2 1) ((fBase d (nI r)).2 2).toInt (d.2 0).toInt (offN ws r) ∧ domP d (d.2 1) (d.2 2).toInt ((fBase d (nI r)).2 1) ((fBase d (nI r)).2 2).toInt ∧ ∃ i, (fBase d (nI r)).2 1 = nI i ∧ (i = 0 ∨ i < (d.1 1).length)) := fun hc e => by
    rw [e]
    show lateP d (d.2 1) (d.2 2).toInt (offN ws r) ∧ fstP d (d.2 1) (d.2 2).toInt (d.2 0).toInt (offN ws r) ∧ domP d (d.2 1) (d.2 2).toInt (d.2 1) (d.2 2).toInt ∧ ∃ i, d.2 1 = nI i ∧ (i = 0 ∨ i < (d.1 1).length)
    refine ⟨late_off hX hS r ws (domP_rf d _ _) hlt, ?_, domP_rf d _ _, hst⟩
    rcases hc with (hc | hc) | ⟨v, l, hc, hv⟩
    · rw [hc]; trivial
    · exact fst_of_le hX hc _
    · rw [hc] at hft ⊢
      rw [offN_cons, if_neg hv]
      exact hft
  rcases way_cases hd with ⟨c, hc⟩ | ⟨c, hne, hlate⟩
  · exact stay (Or.inl hc) (by unfold fBase; rw [if_pos c])
  · have c' : ¬ f_X0_isOnItsWay d = 0 := by rw [c]; decide
    cases ws with
    | nil => exact absurd rfl hne
    | cons v l =>
      have hv : v < 2 * n := hw.2.1 0 (Nat.zero_lt_succ _)
      have e0 : rAt (d.1 11) 0 = nI v := by
        rw [show rAt (d.1 11) (0 : Int32) = gA (d.1 11) 0 from rAt_gA (i := 0) (by omega), h11]
        rfl
      have er : f_X6_rideOf (rAt (d.1 11) 0) = nI (v / 2) := by rw [e0, vis_ride (by omega)]
      by_cases c2 : v / 2 = r
      · have eB : fBase d (nI r) = f_X0_endAtFirst d := by
          unfold fBase
          rw [if_neg c', if_pos (by rw [er, c2])]
        have e : f_X0_endAtFirst d = rvI (rvI d 2 (if d.2 2 + f_X0_minutes d (d.2 1) (f_X0_stopOf d (rAt (d.1 11) 0)) < d.2 0 then d.2 0 else d.2 2 + f_X0_minutes d (d.2 1) (f_X0_stopOf d (rAt (d.1 11) 0)))) 1 (f_X0_stopOf d (rAt (d.1 11) 0)) := rfl
        have e1 : (fBase d (nI r)).2 1 = sSt d v := by rw [eB, e, e0]; rfl
        have e2 : (fBase d (nI r)).2 2 = if d.2 2 + f_X0_minutes d (d.2 1) (sSt d v) < d.2 0 then d.2 0 else d.2 2 + f_X0_minutes d (d.2 1) (sSt d v) := by rw [eB, e, e0]; rfl
        have hm := (bd_add hd.2.2.2.1 (min_bd hX.1 hX.2 (d.2 1) (sSt d v)) (by omega) (by omega)).2
        have hm' : (d.2 2 + f_X0_minutes d (d.2 1) (sSt d v)).toInt = (d.2 2).toInt + dI d (d.2 1) (sSt d v) := hm
        have e3 : ((fBase d (nI r)).2 2).toInt = if (d.2 2).toInt + dI d (d.2 1) (sSt d v) < (d.2 0).toInt then (d.2 0).toInt else (d.2 2).toInt + dI d (d.2 1) (sSt d v) := by
          rw [e2]
          by_cases cc : d.2 2 + f_X0_minutes d (d.2 1) (sSt d v) < d.2 0
          · rw [if_pos cc]
            rw [fa_lt, hm'] at cc
            rw [if_pos cc]
          · rw [if_neg cc]
            rw [fa_lt, hm'] at cc
            rw [if_neg cc]
            exact hm'
        have hf1 : (d.2 0).toInt ≤ tmI d (d.2 1) (d.2 2).toInt v := hft
        have hf2 := tmI_ge d (d.2 1) (d.2 2).toInt v
        have hge : ((fBase d (nI r)).2 2).toInt ≤ tmI d (d.2 1) (d.2 2).toInt v := by
          rw [e3]; split <;> omega
        have hnow : (d.2 0).toInt ≤ ((fBase d (nI r)).2 2).toInt := by
          rw [e3]; split <;> omega
        have hfr : (d.2 2).toInt + dI d (d.2 1) (sSt d v) ≤ ((fBase d (nI r)).2 2).toInt := by
          rw [e3]; split <;> omega
        rw [e1, offN_cons, if_pos c2]
        refine ⟨late_off hX hS r l (fun q => ?_) hlt.2, fst_of_le hX hnow _, fun q => ?_, ?_⟩
        · omega
        · have h2 := dI_tri hX (d.2 1) (sSt d v) q
          omega
        · obtain ⟨i, h1, h2⟩ := sSt_vS hb.2.2.2.1 hv (by omega)
          exact ⟨i, h2, Or.inr h1⟩
      · refine stay (Or.inr ⟨v, l, rfl, c2⟩) ?_
        unfold fBase
        rw [if_neg c', if_neg (fun z => c2 ?_)]
        rw [er] at z
        exact (nI_eq (by omega) (by omega)).mp z
theorem inv_leave {d : RV} {n r : Nat} {ws : List Nat} {how : Int32} (h : invP d n ws) (hr : r < n) (hh : (gA (d.1 8) r = 0 ∧ how = 3) ∨ (gA (d.1 8) r = 1 ∧ how = 4)) : invP (fLeave d (nI r) how) n (offN ws r) := by
  obtain ⟨k1, k2, k3, k4⟩ := base_dom h hr
  obtain ⟨⟨hd, hlt, hrf, hst⟩, hft⟩ := h
  obtain ⟨b1, b2, -, -⟩ := base_eq hd hr
  have hok := leave_ok (how := how) hd hr (by rcases hh with ⟨-, e⟩ | ⟨-, e⟩ <;> rw [e] <;> decide) (by rcases hh with ⟨-, e⟩ | ⟨-, e⟩ <;> rw [e] <;> decide) (hh.elim (fun z => Or.inl z.1) (fun z => Or.inr z.1))
  have l8 := dayOk_l8 hd
  have hn := hd.1
  have hb := hd.2.2.1
  have e8 : (fLeave d (nI r) how).1 8 = (d.1 8).set r how := by
    show rSet (d.1 8) (nI r) how = _
    rw [rSet_nI (by omega)]
  have eo : ∀ k, k ≠ 8 → k ≠ 11 → (fLeave d (nI r) how).1 k = d.1 k := by
    intro k h8 h11'
    unfold fLeave
    rw [rvR_ne h8, rvR_ne h11', b1]
  have e2 : (fLeave d (nI r) how).2 = (fBase d (nI r)).2 := rfl
  generalize fLeave d (nI r) how = D at hok e8 eo e2 ⊢
  have eD : ∀ p q, dI D p q = dI d p q := fun p q => dI_same (eo 1 (by omega) (by omega)) (eo 2 (by omega) (by omega)) p q
  refine ⟨⟨hok, ?_, ?_, ?_⟩, ?_⟩
  · rw [e2]
    exact late_same (fun j hj => eo j (by omega) (by omega)) _ _ _ k1
  · intro q hq
    by_cases c : q = r
    · subst c
      have h8 : gA (D.1 8) q = how := by rw [e8, gA_set (by omega), if_pos rfl]
      have h0 := hrf q hq
      unfold rideF at h0 ⊢
      rw [h8, eo 9 (by omega) (by omega), eo 10 (by omega) (by omega)]
      rcases hh with ⟨g1, g2⟩ | ⟨g1, g2⟩
      · rw [g1] at h0
        subst g2
        rcases h0 with h0 | h0 | h0 | h0 | h0
        · exact Or.inr (Or.inr (Or.inr (Or.inl ⟨rfl, h0.2⟩)))
        · exact absurd h0.1 (by decide)
        · exact absurd h0.1 (by decide)
        · exact absurd h0.1 (by decide)
        · exact absurd h0.1 (by decide)
      · rw [g1] at h0
        subst g2
        rcases h0 with h0 | h0 | h0 | h0 | h0
        · exact absurd h0.1 (by decide)
        · refine Or.inr (Or.inr (Or.inr (Or.inr ⟨rfl, ?_, h0.2.2.2⟩)))
          have hw0 : 0 ≤ wtI d q := (hb.2.2.1.1 q).1
          have hp : pkI D q = pkI d q := by unfold pkI; rw [eo 9 (by omega) (by omega)]
          rw [hp]
          have := h0.2.1
          omega
        · exact absurd h0.1 (by decide)
        · exact absurd h0.1 (by decide)
        · exact absurd h0.1 (by decide)
    · refine rideF_same (d := d) ?_ ?_ ?_ ?_ ?_ (fun _ => ?_) (hrf q hq)
      · unfold wtI; rw [eo 5 (by omega) (by omega)]
      · unfold skI; rw [eo 7 (by omega) (by omega)]
      · rw [e8, gA_set (by omega), if_neg c]
      · rw [eo 9 (by omega) (by omega)]
      · rw [eo 10 (by omega) (by omega)]
      · rw [eD, eo 4 (by omega) (by omega), e2]
        exact k3 _
  · rw [e2, eo 1 (by omega) (by omega)]
    exact k4
  · rw [e2, b2]
    exact fst_same (fun j _ hj => eo j (by omega) (by omega)) k2
/-! ===== a visit is made ===== -/
theorem mkV_inv {e : RV} {n v : Nat} {l : List Nat} {ti : Int32} (h : invQ e n (v :: l)) (ht : bd ti 0 2000) (hti : ti.toInt = tmI e (e.2 1) (e.2 2).toInt v) : invQ (mkV e v ti) n l := by
  obtain ⟨hd, hlt, hrf, hst⟩ := h
  have hok := visit_ok hd ht
  have l8' := dayOk_l8 hd
  obtain ⟨hn, hl, hb, hf, hnow, ⟨h11, hw, hwl, hm⟩, hld⟩ := hd
  have hw2 := wsOk_iff.mp hw
  have hv : v < 2 * n := hw2.2.1 v List.mem_cons_self
  obtain ⟨eo, e8, e9, e10, e11, f0, f1, f2⟩ := mkV_eq (e := e) (ti := ti) (v := v) (by omega)
  rw [rSet_nI (by omega)] at e8 e9 e10
  obtain ⟨l0, l1, l2, l3, l4, l5, l6, l7, l8, l9, l10⟩ := hl
  have hS := S3_ge hb
  have eF : ((mkV e v ti).2 2).toInt = tmI e (e.2 1) (e.2 2).toInt v + S3 e := by
    rw [f2, (bd_add ht hb.1.2.2 (by omega) (by omega)).2, hti]
    rfl
  generalize mkV e v ti = D at hok eo e8 e9 e10 f1 eF ⊢
  have eo' : ∀ k, k < 8 → D.1 k = e.1 k := fun k hk => eo k (by omega) (by omega) (by omega) (by omega)
  have eD : ∀ p q, dI D p q = dI e p q := fun p q => dI_same (eo' 1 (by omega)) (eo' 2 (by omega)) p q
  have hdom := domP_skip hb.2.1 hS v (domP_rf e (e.2 1) (e.2 2).toInt)
  have eW : ∀ r, wtI D r = wtI e r := fun r => by unfold wtI; rw [eo' 5 (by omega)]
  have eK : ∀ r, skI D r = skI e r := fun r => by unfold skI; rw [eo' 7 (by omega)]
  refine ⟨hok, ?_, fun q hq => ?_, ?_⟩
  · rw [f1, eF]
    exact late_same (fun j hj => eo' j (by omega)) _ _ _ hlt.2
  · by_cases c : q = v / 2
    · subst c
      have h0 := hrf (v / 2) hq
      have h8 : gA (D.1 8) (v / 2) = if v % 2 = 0 then 1 else 2 := by rw [e8, gA_set (by omega), if_pos rfl]
      by_cases ev : v % 2 = 0
      · rw [if_pos ev] at h8 e9 e10
        have hs0 : gA (e.1 8) (v / 2) = 0 := (hm (v / 2) hq).1.mp (by rw [show 2 * (v / 2) = v by omega]; exact List.mem_cons_self)
        have hp : pkI D (v / 2) = ti.toInt := by unfold pkI; rw [e9, gA_set (by omega), if_pos rfl]
        have h10 : gA (D.1 10) (v / 2) = -6 := by
          rw [e10]
          unfold rideF at h0
          rw [hs0] at h0
          rcases h0 with h0 | h0 | h0 | h0 | h0
          · exact h0.2.2
          · exact absurd h0.1 (by decide)
          · exact absurd h0.1 (by decide)
          · exact absurd h0.1 (by decide)
          · exact absurd h0.1 (by decide)
        unfold rideF
        rw [h8, hp, eW, eK, h10, eF, f1, eD, eo' 4 (by omega), hti]
        refine Or.inr (Or.inl ⟨rfl, tmI_wt ev, ?_, rfl⟩)
        obtain ⟨i, j, hi, hj, g3, g4, g7, -⟩ := hb.2.2.2.1 (v / 2) hq
        have hsv : sSt e v = nI i := by
          unfold sSt
          rw [stopOf_eq (by omega), if_pos ev, g3]
        have hsk : skI e (v / 2) = dI e (sSt e v) (gA (e.1 4) (v / 2)) := by
          unfold skI dI
          rw [g7, hsv, g4]
        rw [hsk]
        omega
      · rw [if_neg ev] at h8 e9 e10
        have hmm := (hm (v / 2) hq).2.mp (by rw [show 2 * (v / 2) + 1 = v by omega]; exact List.mem_cons_self)
        have hs1 : gA (e.1 8) (v / 2) = 1 := by
          rcases hmm with z | z
          · have z2 := (hm (v / 2) hq).1.mpr z
            have hp := hw2.2.2
            rw [List.pairwise_cons] at hp
            rcases List.mem_cons.mp z2 with z3 | z3
            · omega
            · have := (hp.1 _ z3).2
              omega
          · exact z
        unfold rideF at h0
        rw [hs1] at h0
        have h1 : wtI e (v / 2) ≤ pkI e (v / 2) ∧ pkI e (v / 2) + skI e (v / 2) ≤ (e.2 2).toInt + dI e (e.2 1) (gA (e.1 4) (v / 2)) := by
          rcases h0 with h0 | h0 | h0 | h0 | h0
          · exact absurd h0.1 (by decide)
          · exact ⟨h0.2.1, h0.2.2.1⟩
          · exact absurd h0.1 (by decide)
          · exact absurd h0.1 (by decide)
          · exact absurd h0.1 (by decide)
        have hp : pkI D (v / 2) = pkI e (v / 2) := by unfold pkI; rw [e9]
        have hq2 : dnI D (v / 2) = ti.toInt := by unfold dnI; rw [e10, gA_set (by omega), if_pos rfl]
        have hsv : sSt e v = gA (e.1 4) (v / 2) := by
          unfold sSt
          rw [stopOf_eq (by omega), if_neg ev]
        have htd := tmI_down (d := e) (p := e.2 1) (f := (e.2 2).toInt) (v := v) (by omega)
        rw [hsv] at htd
        unfold rideF
        rw [h8, hp, hq2, eW, eK, hti, htd]
        exact Or.inr (Or.inr (Or.inl ⟨rfl, h1.1, h1.2⟩))
    · refine rideF_same (d := e) (eW q) (eK q) ?_ ?_ ?_ (fun _ => ?_) (hrf q hq)
      · rw [e8, gA_set (by omega), if_neg c]
      · rw [e9]
        split
        · rw [gA_set (by omega), if_neg c]
        · rfl
      · rw [e10]
        split
        · rfl
        · rw [gA_set (by omega), if_neg c]
      · rw [eD, eo' 4 (by omega), f1, eF]
        exact hdom _
  · rw [f1, eo' 1 (by omega)]
    obtain ⟨i, h1, h2⟩ := sSt_vS hb.2.2.2.1 hv (by omega)
    exact ⟨i, h2, Or.inr h1⟩
