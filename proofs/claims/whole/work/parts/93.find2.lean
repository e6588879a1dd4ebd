theorem ldOk_head {S a : Int} {ws : List Nat} (h : ldOk S a ws) : a ≤ S := by
  cases ws with
  | nil => exact h
  | cons v l => exact h.1
theorem dayW2_len {d1 : RV} {ws : List Nat} {n i j N : Nat} (h : lenD d1 N) : lenD (dayW2 d1 ws n i j) N := h
theorem dayW2_bd {d1 : RV} {ws : List Nat} {n i j N : Nat} (h : bdD d1 N) : bdD (dayW2 d1 ws n i j) N := h
theorem dayW2_rel {s : Nat → Int32} {d1 : RV} {ws : List Nat} {n i j N : Nat} (h : relD s d1 N) : relD s (dayW2 d1 ws n i j) N := h
theorem wayW_F {d : RV} {n i j : Nat} {ws : List Nat} {fr to wa bt : Int32} (hd : dayOk d n ws) (ha : argOk d fr to wa bt) (hij : i < j) (hj : j ≤ ws.length + 1) : tabF (dayW2 (fDay1 d fr to wa bt) ws n i j) (wayOf ws n i j) (n + 1) (wayOf ws n i j).length := by
  have hn := hd.1
  have hw := hd.2.2.2.2.2.1.2.1
  have hwl := hd.2.2.2.2.2.1.2.2.1
  have h11 := hd.2.2.2.2.2.1.1
  obtain ⟨-, -, -, -, -, -, -, -, -, -, -, -, -, -, e22, -⟩ := day1_eq (d := d) (fr := fr) (to := to) (wa := wa) (bt := bt) (by rw [h11, List.length_map]; omega)
  refine tab_F (by omega) (wayOf_ok hw (by omega) hij hj) (dayW2_len (day1_len hd)) (dayW2_bd (day1_bd hd ha)) ?_ _ (Nat.le_refl _)
  show bd ((fDay1 d fr to wa bt).2 2) 0 3000
  rw [e22]
  exact bd_wide (leaveT_bd hd) (by omega) (by omega)
/-- one way is driven -/
theorem find_way {m0 m : MV} {d : RV} {n p0 i j c : Nat} {ws : List Nat} {fr to wa bt ri x2 : Int32} {s : RV × RV × RV} {X35 : MV → Int32 → Int32 → Prop} {X50 : MV → Int32 → Int32 → Int32 → Prop} {K : Int32 → MV → Prop} (hd : dayOk d n ws) (ha : argOk d fr to wa bt) (hR : relS (m0.2 1) d n) (hR1 : relD (m0.2 1) (fDay1 d fr to wa bt) (n + 1)) (hri : ri = nI n) (hx2 : x2 = leaveT d) (hc : c < 5000) (hp : p0 ≤ i) (hij : i < j) (hj : j ≤ ws.length + 1) (hs : scr2 m0 m) (hf : fwR (fDay1 d fr to wa bt) ws n p0 m s.1 c) (hsd : ∃ x, s.2.1 = rvR (fDay1 d fr to wa bt) 11 x) (hX : ∀ m' s' c', scr2 m0 m' → s' = fWay d (nI n) s (nI i) (nI j) → c' ≤ c + 1 → fwR (fDay1 d fr to wa bt) ws n p0 m' s'.1 c' → (∃ x, s'.2.1 = rvR (fDay1 d fr to wa bt) 11 x) → X50 m' x2 (nI i) (nI j + 1)) : PO_X7_laysWay ri (nI i) (nI j) (fun (m2 : MV) => (PO_X7_drives x2 (fun (m4 : MV) => (if (m4.1 16) = 0 then (wp_X7_findsWay_173 ri X35 X50 K m4 x2 (nI i) (nI j)) else (yl (mI m4 20 ((m4.1 20) + (1 : Int32))) (fun m6 => (if (m6.1 21) = (-6 : Int32) then (vp_in (nI j) 36 ∧ (yl (mI m6 21 ((m6.2 11) (nI j).toNatClampNeg)) (fun m8 => (wp_X7_findsWay_134 ri X35 X50 K m8 x2 (nI i) (nI j))))) else (vp_in (nI j) 36 ∧ (if (m6.1 21) ≤ ((m6.2 11) (nI j).toNatClampNeg) then (yl (mI m6 21 (m6.1 21)) (fun m10 => (wp_X7_findsWay_134 ri X35 X50 K m10 x2 (nI i) (nI j)))) else (vp_in (nI j) 36 ∧ (yl (mI m6 21 ((m6.2 11) (nI j).toNatClampNeg)) (fun m12 => (wp_X7_findsWay_134 ri X35 X50 K m12 x2 (nI i) (nI j)))))))))))) m2)) m := by
  have hn := hd.1
  have hw := hd.2.2.2.2.2.1.2.1
  have hwl := hd.2.2.2.2.2.1.2.2.1
  have h11 := hd.2.2.2.2.2.1.1
  have hF := wayW_F hd ha hij hj
  have hlen := wayOf_len (n := n) (i := i) (j := j) (ws := ws) (by omega) hj
  have hwk := wayOf_ok (n := n) (i := i) (j := j) hw (by omega) hij hj
  obtain ⟨e0, e1, e2, e3, e4, e5, e6, e7, e8, e9, e10, e11, f0, f1, f2, -⟩ := day1_eq (d := d) (fr := fr) (to := to) (wa := wa) (bt := bt) (by rw [h11, List.length_map]; omega)
  obtain ⟨h5, hr⟩ := dayOk_way hd hR
  have e9s := scr2_s hs
  refine q_laysWay i j (by omega) hri rfl rfl (by omega) hij hj (by rw [e9s]; exact h5) (by rw [e9s]; exact hr) ?_
  intro m2 hs2 hway
  have hs02 := scr2_trans hs (scr2_of hs2)
  have e92 := scr2_s hs02
  obtain ⟨st1, st2⟩ := day1_stand (fr := fr) (to := to) (wa := wa) (bt := bt) hd
  refine q_drives (d := dayW2 (fDay1 d fr to wa bt) ws n i j) (ws := wayOf ws n i j) (n := n + 1) n (by omega) (by omega) hwk (dayW2_len (day1_len hd)) (dayW2_bd (day1_bd hd ha)) (by rw [e92]; exact dayW2_rel hR1) hway (by rw [e92]; exact dayOk_s4 hd hR) st1 (by rw [hx2]; exact f2.symm) (by show bd ((fDay1 d fr to wa bt).2 2) 0 3000; rw [f2]; exact bd_wide (leaveT_bd hd) (by omega) (by omega)) ?_
  rintro m4 ⟨⟨hfr, -, harr, hk1, hk2⟩, h15⟩
  have hs04 := scr2_trans hs02 (scr2_of (scr_of_fr hfr))
  have hbeg : ¬ gA ((dayW2 (fDay1 d fr to wa bt) ws n i j).1 0) 0 < (TK (dayW2 (fDay1 d fr to wa bt) ws n i j) (wayOf ws n i j) 0).2 2 := by
    show ¬ gA ((fDay1 d fr to wa bt).1 0) 0 < nStand ((fDay1 d fr to wa bt).1 8) 1
    rw [e0, st2, fa_lt]
    have := ldOk_head hd.2.2.2.2.2.2
    omega
  obtain ⟨hk3, -⟩ := hk2 hbeg
  -- the class's side
  obtain ⟨x, hx⟩ := hsd
  have hlay : f_X4_lay s.1 s.2.1 (d.1 11) (nI n) (nI i) (nI j) = dayW2 (fDay1 d fr to wa bt) ws n i j := by
    rw [h11, lay_eq (by omega) (by omega) (by omega) hj, hx, rvR_rvR]
    rfl
  have hfw : fWay d (nI n) s (nI i) (nI j) = (if (fKeeps T0 (dayW2 (fDay1 d fr to wa bt) ws n i j)).1 = 0 then s.1 else f_X4_takeWay s.1 (fKeeps T0 (dayW2 (fDay1 d fr to wa bt) ws n i j)).2 (nI n) (nI i) (nI j), dayW2 (fDay1 d fr to wa bt) ws n i j, (fKeeps T0 (dayW2 (fDay1 d fr to wa bt) ws n i j)).2) := by
    unfold fWay
    rw [hlay]
  have hold : ∀ k, (k = 20 ∨ k = 19 ∨ k = 21 ∨ k = 17 ∨ k = 18) → m4.1 k = m.1 k := fun k hk => (hfr.1 k (by omega) (by omega) (by omega)).trans (hs2.1 k (by omega) (by omega) (by omega) (by omega) (by omega))
  obtain ⟨w0, w20, w6, wb⟩ := hf
  rcases keeps_TK (d := dayW2 (fDay1 d fr to wa bt) ws n i j) (ws := wayOf ws n i j) (rvR_eq _ _ _) with ⟨hke, hfl⟩ | ⟨hke, hfl⟩
  · -- kept
    rw [hke, if_neg (fun z => absurd (show (1 : Int32) = 0 from z) (by decide))] at hfw
    rw [hk3.mpr hfl, if_neg (by decide)]
    dsimp only [yl]
    have htj : m4.2 11 j = gA ((tabW2 (fDay1 d fr to wa bt) ws n i j).1 4) n := by
      have hgj : gN (wayOf ws n i j) j = 2 * n + 1 := by
        rw [gN_wayOf (by omega) hj, if_neg (by omega), if_pos rfl]
      obtain ⟨-, -, -, -, -, -, -, -, -, -, -, -, fg2⟩ := hF
      have h1 := fg2 n j (by omega) hgj
      have h2 := (harr j (by omega)).1
      rw [hgj] at h2
      exact h2.trans h1.symm
    have hbj : bd (gA ((tabW2 (fDay1 d fr to wa bt) ws n i j).1 4) n) 0 40000 := by
      rw [← htj, (harr j (by omega)).1]
      obtain ⟨-, -, -, -, -, -, fc, -⟩ := tab_F (d := dayW2 (fDay1 d fr to wa bt) ws n i j) (by omega) hwk (dayW2_len (day1_len hd)) (dayW2_bd (day1_bd hd ha)) (by show bd ((fDay1 d fr to wa bt).2 2) 0 3000; rw [f2]; exact bd_wide (leaveT_bd hd) (by omega) (by omega)) j (by omega)
      have hb1 := day1_bd hd ha
      exact bd_wide (sTime_bd (d := dayW2 (fDay1 d fr to wa bt) ws n i j) (v := gN (wayOf ws n i j) j) hb1.2.1 hb1.2.2.1 fc (by omega)) (by omega) (by omega)
    have e11 : ∀ y, (mI m4 20 y).2 11 = m4.2 11 := fun _ => rfl
    have e21 : (mI m4 20 (m4.1 20 + 1)).1 21 = m4.1 21 := mI_ne (by omega)
    rw [e11, e21, nI_clamp (by omega), htj]
    have hin : vp_in (nI j) 36 := vp_in_nI (by omega) (by omega)
    have main : ∀ y, y = (f_X4_takeWay s.1 (tabW2 (fDay1 d fr to wa bt) ws n i j) (nI n) (nI i) (nI j)).2 4 → bd y 0 40000 → wp_X7_findsWay_134 ri X35 X50 K (mI (mI m4 20 (m4.1 20 + 1)) 21 y) x2 (nI i) (nI j) := by
      intro y hy hby
      refine find_134 (m0 := m0) (d1 := fDay1 d fr to wa bt) (ws := ws) (n := n) (p0 := p0) (c := c) (sv := s.1) (by omega) hc hp hij hj hF hwk.1 hfl (scr2_I (scr2_I hs04 (by omega)) (by omega)) w0 ?_ ?_ ?_ ?_ ⟨?_, ?_⟩ ?_
      · rw [mI_ne (by omega), mI_at, hold 20 (by omega), w20, nI_1]
      · rw [mI_ne (by omega), mI_ne (by omega), h15]
        rfl
      · intro hz
        rw [mI_ne (by omega), mI_ne (by omega), hold 19 (by omega)]
        exact (w6 hz).1
      · intro hz
        obtain ⟨g1, g2, g3, g4, i0, j0, g5, g6, g7, g8, g9, g10, g11, g12⟩ := wb hz
        refine ⟨by rw [mI_ne (by omega), mI_ne (by omega), hold 19 (by omega)]; exact g1, g3, i0, j0, g5, g6, g7, by rw [mI_ne (by omega), mI_ne (by omega), hold 17 (by omega)]; exact g8, g9, by rw [mI_ne (by omega), mI_ne (by omega), hold 18 (by omega)]; exact g10, g11, g12⟩
      · rw [mI_at]; exact hy
      · rw [mI_at]; exact hby
      · intro m' hs' hf'
        exact hX m' _ (c + 1) hs' hfw.symm (Nat.le_refl _) hf' ⟨_, rfl⟩
    rw [hold 21 (by omega)]
    by_cases c0 : c = 0
    · rw [if_pos (w6 c0).2]
      obtain ⟨-, -, -, -, t4, -⟩ := take_first (sv := s.1) (st := tabW2 (fDay1 d fr to wa bt) ws n i j) (ri := nI n) (pk := nI i) (dn := nI j) (by rw [w0, c0]; rfl)
      exact ⟨hin, main _ (by rw [t4, rAt_gA (by omega)]) hbj⟩
    · obtain ⟨g1, g2, g3, g4, -⟩ := wb (by omega)
      rw [g2, if_neg (bd_ne6 g4)]
      obtain ⟨-, t4, -⟩ := take_more (sv := s.1) (st := tabW2 (fDay1 d fr to wa bt) ws n i j) (ri := nI n) (pk := nI i) (dn := nI j) (by rw [w0]; exact nI_ne0 (by omega) (by omega))
      rw [rAt_gA (by omega)] at t4
      refine ⟨hin, ?_⟩
      by_cases cl : s.1.2 4 ≤ gA ((tabW2 (fDay1 d fr to wa bt) ws n i j).1 4) n
      · rw [if_pos cl]
        exact main _ (by rw [t4, if_neg (Int32.not_lt.mpr cl)]) g4
      · rw [if_neg cl]
        exact ⟨hin, main _ (by rw [t4, if_pos (Int32.not_le.mp cl)]) hbj⟩
  · -- not kept
    rw [if_pos hke] at hfw
    have h16 : m4.1 16 = 0 := hk1.elim (fun z => absurd (hk3.mp z) hfl) id
    rw [h16, if_pos rfl]
    unfold wp_X7_findsWay_173
    refine hX m4 _ c hs04 hfw.symm (by omega) ⟨w0, by rw [hold 20 (by omega)]; exact w20, fun z => by rw [hold 19 (by omega), hold 21 (by omega)]; exact w6 z, fun z => ?_⟩ ⟨_, rfl⟩
    rw [hold 19 (by omega), hold 21 (by omega), hold 17 (by omega), hold 18 (by omega)]
    exact wb z
