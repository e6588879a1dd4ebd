theorem i32_back (a b : Int32) : a + (b - a) = b := by rw [Int32.add_comm, Int32.sub_add_cancel]
/-- from 146 on: the waiting is told -/
theorem drives_146 {m m1 : MV} {d : RV} {ws : List Nat} {n k : Nat} {fre x3 x4 x5 x6 x7 : Int32} {X44 : MV → Int32 → Int32 → Int32 → Int32 → Prop} {K : MV → Prop} (hn : n ≤ 17) (hw : wsOk ws n) (hk : k < ws.length) (hb : bdD d n) (hD : relD (m.2 1) d n) (hway : wayR m ws) (hF : tabF d ws n k) (hbt : ∀ j, j < ws.length → bd (sTime d (TK d ws j) (gN ws j)) 0 30000) (h3 : x3 = sCome d (TK d ws k) (gN ws k)) (h4 : x4 = (TK d ws k).2 2) (h5 : x5 = nI k) (h6 : x6 = nI (gN ws k / 2)) (h7 : x7 = sSt d (gN ws k)) (hI : preK m m1 d ws k) (h12 : m1.2 12 k = sTime d (TK d ws k) (gN ws k) - sCome d (TK d ws k) (gN ws k)) (hX : ∀ m' x2 x3 x4, drvI m m' d ws (k + 1) → x2 = (TK d ws (k + 1)).2 0 → x3 = (TK d ws (k + 1)).2 1 → x4 = (TK d ws (k + 1)).2 2 → X44 m' x2 x3 x4 (nI (k + 1))) : wp_X7_drives_146 fre X44 K m1 x3 x4 x5 x6 x7 := by
  obtain ⟨hfr, h14, harr, hkp⟩ := hI
  have hl := hw.1
  have hv := hw.2.1 k hk
  unfold wp_X7_drives_146
  rw [h5, nI_clamp (by omega)]
  refine ⟨vp_in_nI (by omega) (by omega), vp_in_nI (by omega) (by omega), ?_⟩
  dsimp only [yl]
  refine ⟨vp_in_nI (by omega) (by omega), ?_⟩
  rw [h12, h3, i32_back]
  obtain ⟨m2, e2⟩ : ∃ z, z = mA m1 11 k (sTime d (TK d ws k) (gN ws k)) := ⟨_, rfl⟩
  rw [← e2]
  have f2 : frM m m2 := by rw [e2]; exact frM_A hfr (by omega)
  rw [f2.2 9 (by omega) (by omega) (by omega), hway.2.2 k hk, vis_mod (by omega)]
  have hp : preK m m2 d ws k := ⟨f2, by rw [e2]; exact h14, by rw [e2]; exact arr_upd harr, by rw [e2]; exact hkp⟩
  have h11' : m2.2 11 k = sTime d (TK d ws k) (gN ws k) := by rw [e2, mA_at, upd_at]
  have h12' : m2.2 12 k = sTime d (TK d ws k) (gN ws k) - sCome d (TK d ws k) (gN ws k) := by rw [e2, mA_ne (by omega)]; exact h12
  by_cases ev : gN ws k % 2 = 0
  · rw [if_pos ((nI0_iff (by omega)).mpr ev)]
    exact drives_184 hn hw hk hb hD hway hF hbt (by unfold sAb; rw [if_pos ev, h4]) rfl h6 h7 hp h11' h12' hX
  · rw [if_neg (fun z => ev ((nI0_iff (by omega)).mp z))]
    exact drives_184 hn hw hk hb hD hway hF hbt (by unfold sAb; rw [if_neg ev, h4]) rfl h6 h7 hp h11' h12' hX
/-- one turn of the loop -/
theorem drives_44 {m m1 : MV} {d : RV} {ws : List Nat} {n k : Nat} {fre : Int32} {X44 : MV → Int32 → Int32 → Int32 → Int32 → Prop} {K : MV → Prop} (hn : n ≤ 17) (hw : wsOk ws n) (hb : bdD d n) (hD : relD (m.2 1) d n) (hway : wayR m ws) (hk : k ≤ ws.length) (hF : tabF d ws n k) (hbt : ∀ j, j < ws.length → bd (sTime d (TK d ws j) (gN ws j)) 0 30000) (hI : drvI m m1 d ws k) (hX : k < ws.length → ∀ m' x2 x3 x4, drvI m m' d ws (k + 1) → x2 = (TK d ws (k + 1)).2 0 → x3 = (TK d ws (k + 1)).2 1 → x4 = (TK d ws (k + 1)).2 2 → X44 m' x2 x3 x4 (nI (k + 1))) (hK : ∀ m', drvP m m' d ws → K m') : wp_X7_drives_44 fre X44 K m1 ((TK d ws k).2 0) ((TK d ws k).2 1) ((TK d ws k).2 2) (nI k) := by
  obtain ⟨hfr, h14, harr, hkp⟩ := id hI
  have hl := hw.1
  unfold wp_X7_drives_44
  dsimp only [yl]
  rw [hfr.1 10 (by omega) (by omega) (by omega), hway.1]
  by_cases c : ws.length ≤ k
  · rw [if_pos ((nI_leI (by omega) (by omega)).mpr c)]
    have e : k = ws.length := by omega
    subst e
    refine hK _ ⟨⟨frM_I hfr (by omega), by rw [mI_ne (by omega)]; exact h14, harr, ?_⟩, mI_at _ _ _⟩
    unfold keptR at hkp ⊢
    rw [mI_ne (by omega)]
    exact hkp
  · rw [if_neg (fun z => c ((nI_leI (by omega) (by omega)).mp z))]
    have hk' : k < ws.length := by omega
    have hv := hw.2.1 k hk'
    obtain ⟨-, -, -, -, -, -, -, ⟨i, hi, fi⟩, -⟩ := id hF
    obtain ⟨j, hj, ej⟩ := sSt_at (d := d) (v := gN ws k) hb.2.2.2.1 hv hn
    have e9 : m1.2 9 = m.2 9 := hfr.2 9 (by omega) (by omega) (by omega)
    have e1 : m1.2 1 = m.2 1 := hfr.2 1 (by omega) (by omega) (by omega)
    rw [nI_clamp (by omega), e9, hway.2.2 k hk']
    refine ⟨vp_in_nI (by omega) (by omega), vp_in_nI (by omega) (by omega), ?_⟩
    refine q_stopOf (d := d) (n := n) (gN ws k) hn hv (by rw [e1]; exact hD.2.2.1) rfl ?_
    show PO_X7_drive _ _ (sSt d (gN ws k)) _
    refine q_drive (d := d) i j hi hj fi ej (by rw [e1]; exact hD.2.1) hb.2.1 ?_
    obtain ⟨m2, e2⟩ : ∃ z, z = mI m1 14 (m1.1 14 + f_X0_minutes d (nI i) (nI j)) := ⟨_, rfl⟩
    rw [← e2]
    have f2 : frM m m2 := by rw [e2]; exact frM_I hfr (by omega)
    have e21 : m2.2 1 = m.2 1 := f2.2 1 (by omega) (by omega) (by omega)
    refine q_drive (d := d) i j hi hj fi ej (by rw [e21]; exact hD.2.1) hb.2.1 ?_
    have eM : f_X0_minutes d (nI i) (nI j) = sMin d (TK d ws k) (gN ws k) := by unfold sMin; rw [fi, ej]
    rw [eM]
    show _ ∧ _
    have eC : (TK d ws k).2 1 + sMin d (TK d ws k) (gN ws k) = sCome d (TK d ws k) (gN ws k) := rfl
    rw [eC, f2.2 9 (by omega) (by omega) (by omega), hway.2.2 k hk', vis_mod (by omega), vis_half (by omega)]
    refine ⟨vp_in_nI (by omega) (by omega), ?_⟩
    obtain ⟨-, -, -, s3, -⟩ := TK_step (d := d) hn hw hk'
    have i14 : m2.1 14 = (TK d ws (k + 1)).2 3 := by rw [e2, mI_at, h14, s3, eM]
    have kp2 : keptR m2 d ws k := by
      unfold keptR at hkp ⊢
      rw [e2, mI_ne (by omega)]
      exact hkp
    have a2 : arrOk m2 d ws k := by rw [e2]; exact harr
    have fin : ∀ x : Int32, x = sTime d (TK d ws k) (gN ws k) - sCome d (TK d ws k) (gN ws k) → wp_X7_drives_146 fre X44 K (mA m2 12 k x) (sCome d (TK d ws k) (gN ws k)) ((TK d ws k).2 2) (nI k) (nI (gN ws k / 2)) (sSt d (gN ws k)) := by
      intro x hx
      exact drives_146 hn hw hk' hb hD hway hF hbt rfl rfl rfl rfl rfl ⟨frM_A f2 (by omega), i14, arr_upd a2, kp2⟩ (by rw [mA_at, upd_at, hx]) (hX hk')
    obtain ⟨g0, g1, g2, -⟩ := hD.2.2.1 (gN ws k / 2) (by omega)
    by_cases ev : gN ws k % 2 = 0
    · rw [if_pos ((nI0_iff (by omega)).mpr ev)]
      refine q_of (gN ws k / 2) 2 (by omega) (by omega) rfl rfl ?_
      rw [e21, g2]
      have hst : sTime d (TK d ws k) (gN ws k) = if sCome d (TK d ws k) (gN ws k) < gA (d.1 5) (gN ws k / 2) then gA (d.1 5) (gN ws k / 2) else sCome d (TK d ws k) (gN ws k) := by unfold sTime; rw [if_pos ev]
      by_cases c2 : gA (d.1 5) (gN ws k / 2) ≤ sCome d (TK d ws k) (gN ws k)
      · rw [if_pos c2]
        refine ⟨vp_in_nI (by omega) (by omega), fin 0 ?_⟩
        rw [hst, if_neg (Int32.not_lt.mpr c2), Int32.sub_self]
      · rw [if_neg c2]
        refine q_of (gN ws k / 2) 2 (by omega) (by omega) rfl rfl ?_
        rw [e21, g2]
        refine ⟨vp_in_nI (by omega) (by omega), fin _ ?_⟩
        rw [hst, if_pos (Int32.not_le.mp c2)]
    · rw [if_neg (fun z => ev ((nI0_iff (by omega)).mp z))]
      refine ⟨vp_in_nI (by omega) (by omega), fin 0 ?_⟩
      unfold sTime
      rw [if_neg ev, Int32.sub_self]
theorem q_drives {m : MV} {d : RV} {ws : List Nat} {n : Nat} {fre : Int32} {K : MV → Prop} (n0 : Nat) (hn : n ≤ 17) (hn0 : n0 ≤ n) (hw : wsOk ws n) (hl : lenD d n) (hb : bdD d n) (hD : relD (m.2 1) d n) (hway : wayR m ws) (h4 : m.2 1 4 = nI n0) (hst : nStand ((d.1 8).take n0) 1 = nStand (d.1 8) 1) (hfe : fre = d.2 2) (hf : bd (d.2 2) 0 3000) (hK : ∀ m', drvP m m' d ws → K m') : PO_X7_drives fre K m := by
  have hT := tab_F hn hw hl hb hf
  have hbt : ∀ j, j < ws.length → bd (sTime d (TK d ws j) (gN ws j)) 0 30000 := by
    intro j hj
    obtain ⟨-, -, -, -, -, -, fc, -⟩ := hT j (by omega)
    have := hw.1
    exact bd_wide (sTime_bd hb.2.1 hb.2.2.1 fc (by omega)) (by omega) (by omega)
  refine ⟨fun w m' x2 x3 x4 x5 => ∃ k, k ≤ ws.length ∧ x5 = nI k ∧ w = ws.length - k ∧ x2 = (TK d ws k).2 0 ∧ x3 = (TK d ws k).2 1 ∧ x4 = (TK d ws k).2 2 ∧ drvI m m' d ws k, ?_, ?_⟩
  · rintro w m' x2 x3 x4 x5 ⟨k, hk, rfl, rfl, rfl, rfl, rfl, hI⟩
    exact drives_44 hn hw hb hD hway hk (hT k hk) hbt hI (fun hlt m2 y2 y3 y4 h1 h2 h3 h5 => ⟨_, by omega, k + 1, by omega, rfl, rfl, h2, h3, h5, h1⟩) hK
  · unfold wp_X7_drives_0
    refine ⟨vp_in_nI (n := 7) (by omega) (by omega), ?_⟩
    have l8 : (d.1 8).length = n := hl.2.2.2.2.2.2.2.2.1
    refine q_aboardNow (d.1 8) n0 (by omega) (by omega) h4 (fun r hr => (hD.2.2.1 r (by omega)).2.2.2.2.1) ?_
    dsimp only [yl]
    rw [hst]
    refine ⟨vp_in_nI (n := 0) (by omega) (by omega), ?_⟩
    have e0 : (TK d ws 0).2 2 = nStand (d.1 8) 1 := rfl
    have ein : ∀ b : Int32, (b = 1 ∨ b = 0) → (¬ gA (d.1 0) 0 < (TK d ws 0).2 2 → b = 1) → drvI m (mI (mI m 14 0) 16 b) d ws 0 := by
      intro b hb1 hb2
      refine ⟨frM_I (frM_I (frM_refl m) (by omega)) (by omega), by rw [mI_ne (by omega), mI_at]; rfl, fun j hj => absurd hj (Nat.not_lt_zero j), ?_⟩
      unfold keptR
      rw [mI_at]
      exact ⟨hb1, fun h0 => ⟨⟨fun _ j hj => absurd hj (Nat.not_lt_zero j), fun _ => hb2 h0⟩, fun _ => h0⟩⟩
    show if (m.2 1) 0 < _ then _ else _
    rw [hD.1.1]
    by_cases c : gA (d.1 0) 0 < nStand (d.1 8) 1
    · rw [if_pos c]
      exact ⟨_, 0, by omega, rfl, rfl, hD.2.2.2.2, hfe, rfl, ein 0 (Or.inr rfl) (fun z => absurd (by rw [e0]; exact c) z)⟩
    · rw [if_neg c]
      exact ⟨_, 0, by omega, rfl, rfl, hD.2.2.2.2, hfe, rfl, ein 1 (Or.inl rfl) (fun _ => rfl)⟩
