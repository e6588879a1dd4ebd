/-! ===== what a turn does ===== -/
def fAct (d : RV) (s : Option RV) (v w : Int32) : Int32 × RV :=
  if v &&& 15 = 0 then ((f_X6_set d [] (fLow w 4) (fLow (w >>> ((2 : Int32) &&& 31)) (if (w >>> ((9 : Int32) &&& 31)) &&& 1 = 0 then 7 else 62))).1, (f_X6_set d [] (fLow w 4) (fLow (w >>> ((2 : Int32) &&& 31)) (if (w >>> ((9 : Int32) &&& 31)) &&& 1 = 0 then 7 else 62))).2.1)
  else if v &&& 15 = 1 ∨ v &&& 15 = 2 then ((f_X6_stop d [] (fLow w 32) (fLow (w >>> ((5 : Int32) &&& 31)) 31)).1, (f_X6_stop d [] (fLow w 32) (fLow (w >>> ((5 : Int32) &&& 31)) 31)).2.1)
  else if v &&& 15 = 3 ∨ v &&& 15 = 4 then ((f_X6_cancel d [] (fLow (v >>> ((4 : Int32) &&& 31)) (rLen (d.1 8) + 1))).1, (f_X6_cancel d [] (fLow (v >>> ((4 : Int32) &&& 31)) (rLen (d.1 8) + 1))).2.1)
  else if v &&& 15 = 5 then ((f_X6_miss d [] (fLow (v >>> ((4 : Int32) &&& 31)) (rLen (d.1 8) + 1))).1, (f_X6_miss d [] (fLow (v >>> ((4 : Int32) &&& 31)) (rLen (d.1 8) + 1))).2.1)
  else if v &&& 15 = 6 ∨ v &&& 15 = 7 then ((f_X6_pass d T0 [] (d.2 0 + fLow w 40)).1, (f_X6_pass d T0 [] (d.2 0 + fLow w 40)).2.1)
  else if v &&& 15 = 8 then ((fRestore s none d [] (w &&& 1)).1, (fRestore s none d [] (w &&& 1)).2.1)
  else fBk d (fLow w (rLen (d.1 1) + 1)) (fLow (w >>> ((4 : Int32) &&& 31)) (rLen (d.1 1) + 1)) (fLow (d.2 0 + fLow (w >>> ((8 : Int32) &&& 31)) 50) 602) (fLow ((d.2 0 + 10) + fLow (w >>> ((14 : Int32) &&& 31)) 150) 902)
def actP (d : RV) (xs : List RV) (s : Option RV) (v w r : Int32) (d' : RV) (xs' : List RV) : Prop := r = (fAct d s v w).1 ∧ d' = (fAct d s v w).2 ∧ okR d xs r d' xs' ∧ (v &&& 15 = 8 → 0 ≤ r → s = some d') ∧ (¬ v &&& 15 ≤ 8 → 0 ≤ r → keptD d')
theorem ok_restore {d : RV} {xs : List RV} {s : Option RV} {i : Int32} (hs : ∀ e, s = some e → invD e) : okR d xs (fRestore s none d xs i).1 (fRestore s none d xs i).2.1 (fRestore s none d xs i).2.2 ∧ (fRestore s none d xs i).1 = (fRestore s none d [] i).1 ∧ (fRestore s none d xs i).2.1 = (fRestore s none d [] i).2.1 ∧ (0 ≤ (fRestore s none d xs i).1 → s = some (fRestore s none d xs i).2.1) := by
  have bad : ∀ (x : Int32), x < 0 → okR d xs x d xs := fun x hx => Or.inl ⟨hx, rfl, rfl⟩
  unfold fRestore
  by_cases c0 : i = 0
  · simp only [if_pos c0]
    cases s with
    | none => exact ⟨bad (-5) (by decide), by first | rfl | trivial, by first | rfl | trivial, fun z => absurd (show (0 : Int32) ≤ -5 from z) (by decide)⟩
    | some e =>
      obtain ⟨n, ws, he⟩ := hs e rfl
      have l8 := dayOk_l8 he.1.1
      have hn := he.1.1.1
      refine ⟨Or.inr ⟨?_, rfl, n, ws, he⟩, rfl, rfl, fun _ => rfl⟩
      show 0 ≤ rLen (e.1 8)
      unfold rLen
      exact nI_pos' (by omega)
  · simp only [if_neg c0]
    by_cases c1 : i = 1
    · simp only [if_pos c1]
      exact ⟨bad (-5) (by decide), by first | rfl | trivial, by first | rfl | trivial, fun z => absurd (show (0 : Int32) ≤ -5 from z) (by decide)⟩
    · simp only [if_neg c1]
      exact ⟨bad (-2) (by decide), by first | rfl | trivial, by first | rfl | trivial, fun z => absurd (show (0 : Int32) ≤ -2 from z) (by decide)⟩
theorem len1_ne {xs : List Int32} (h : xs.length < 1000) : ¬ rLen xs + 1 = 0 := by
  unfold rLen
  rw [nI_1]
  exact nI_ne0 (by omega) (by omega)
theorem no8 {x k : Int32} (h : x = k) (hk : ¬ k = 8) (hk2 : k ≤ 8) : ¬ x = 8 ∧ x ≤ 8 := ⟨fun z => hk (h.symm.trans z), by rw [h]; exact hk2⟩
set_option maxHeartbeats 4000000 in
theorem p_L_act {p d t sv sd st : RV} {o : SL × SL} {v w : Int32} {xs : List RV} (hi : invD d) (hs : ∀ e, slA o.1 = some e → invD e) (hn : slA o.2 = none) : PO_L_act p o v w (fun r d' _ _ _ _ xs' => actP d xs (slA o.1) v w r d' xs') d t sv sd st xs := by
  have hi2 := hi
  obtain ⟨n, ws, h⟩ := hi2
  have hd := h.1.1
  have l8 := dayOk_l8 hd
  have hnn := hd.1
  have l1 := hd.2.1.2.1
  unfold PO_L_act wp_L_act_0
  dsimp only [yl]
  simp only [cnt_c (wh := 0) (by decide) (by decide), cnt_c (wh := 1) (by decide) (by decide), cnt_c (wh := 3) (by decide) (by decide), cF_0, cF_1, cF_3]
  refine ⟨len1_ne (by omega), ?_⟩
  by_cases c0 : v &&& 15 = 0
  · rw [if_pos c0]
    refine ⟨by decide, ?_⟩
    have hno : ¬ v &&& 15 = 8 ∧ v &&& 15 ≤ 8 := no8 c0 (by decide) (by decide)
    by_cases c9 : (w >>> ((9 : Int32) &&& 31)) &&& 1 = 0
    · rw [if_pos c9]
      refine ⟨by decide, ?_⟩
      obtain ⟨g1, g2, g3⟩ := ok_set (xs := xs) (se := fLow w 4) (va := fLow (w >>> ((2 : Int32) &&& 31)) 7) hi
      refine ⟨?_, ?_, g1, fun z => absurd z hno.1, fun z => absurd hno.2 z⟩
      · rw [g2]; unfold fAct; rw [if_pos c0, if_pos c9]
      · rw [g3]; unfold fAct; rw [if_pos c0, if_pos c9]
    · rw [if_neg c9]
      refine ⟨by decide, ?_⟩
      obtain ⟨g1, g2, g3⟩ := ok_set (xs := xs) (se := fLow w 4) (va := fLow (w >>> ((2 : Int32) &&& 31)) 62) hi
      refine ⟨?_, ?_, g1, fun z => absurd z hno.1, fun z => absurd hno.2 z⟩
      · rw [g2]; unfold fAct; rw [if_pos c0, if_neg c9]
      · rw [g3]; unfold fAct; rw [if_pos c0, if_neg c9]
  rw [if_neg c0]
  have stopc : (v &&& 15 = 1 ∨ v &&& 15 = 2) → actP d xs (slA o.1) v w (f_X6_stop d xs (fLow w 32) (fLow (w >>> ((5 : Int32) &&& 31)) 31)).1 (f_X6_stop d xs (fLow w 32) (fLow (w >>> ((5 : Int32) &&& 31)) 31)).2.1 (f_X6_stop d xs (fLow w 32) (fLow (w >>> ((5 : Int32) &&& 31)) 31)).2.2 := by
    intro c
    obtain ⟨g1, g2, g3⟩ := ok_stop (xs := xs) (px := fLow w 32) (py := fLow (w >>> ((5 : Int32) &&& 31)) 31) hi
    have hno : ¬ v &&& 15 = 8 ∧ v &&& 15 ≤ 8 := c.elim (fun c => no8 c (by decide) (by decide)) (fun c => no8 c (by decide) (by decide))
    refine ⟨?_, ?_, g1, fun z => absurd z hno.1, fun z => absurd hno.2 z⟩
    · rw [g2]; unfold fAct; rw [if_neg c0, if_pos c]
    · rw [g3]; unfold fAct; rw [if_neg c0, if_pos c]
  by_cases c1 : v &&& 15 = 1
  · rw [if_pos c1]
    exact ⟨by decide, by decide, stopc (Or.inl c1)⟩
  rw [if_neg c1]
  by_cases c2 : v &&& 15 = 2
  · rw [if_pos c2]
    exact ⟨by decide, by decide, stopc (Or.inr c2)⟩
  rw [if_neg c2]
  have c12 : ¬ (v &&& 15 = 1 ∨ v &&& 15 = 2) := fun z => z.elim c1 c2
  have cancelc : (v &&& 15 = 3 ∨ v &&& 15 = 4) → actP d xs (slA o.1) v w (f_X6_cancel d xs (fLow (v >>> ((4 : Int32) &&& 31)) (rLen (d.1 8) + 1))).1 (f_X6_cancel d xs (fLow (v >>> ((4 : Int32) &&& 31)) (rLen (d.1 8) + 1))).2.1 (f_X6_cancel d xs (fLow (v >>> ((4 : Int32) &&& 31)) (rLen (d.1 8) + 1))).2.2 := by
    intro c
    obtain ⟨g1, g2, g3⟩ := ok_cancel (xs := xs) (ri := fLow (v >>> ((4 : Int32) &&& 31)) (rLen (d.1 8) + 1)) hi
    have hno : ¬ v &&& 15 = 8 ∧ v &&& 15 ≤ 8 := c.elim (fun c => no8 c (by decide) (by decide)) (fun c => no8 c (by decide) (by decide))
    refine ⟨?_, ?_, g1, fun z => absurd z hno.1, fun z => absurd hno.2 z⟩
    · rw [g2]; unfold fAct; rw [if_neg c0, if_neg c12, if_pos c]
    · rw [g3]; unfold fAct; rw [if_neg c0, if_neg c12, if_pos c]
  by_cases c3 : v &&& 15 = 3
  · rw [if_pos c3]
    exact cancelc (Or.inl c3)
  rw [if_neg c3]
  by_cases c4 : v &&& 15 = 4
  · rw [if_pos c4]
    exact cancelc (Or.inr c4)
  rw [if_neg c4]
  have c34 : ¬ (v &&& 15 = 3 ∨ v &&& 15 = 4) := fun z => z.elim c3 c4
  by_cases c5 : v &&& 15 = 5
  · rw [if_pos c5]
    obtain ⟨g1, g2, g3⟩ := ok_miss (xs := xs) (ri := fLow (v >>> ((4 : Int32) &&& 31)) (rLen (d.1 8) + 1)) hi
    have hno : ¬ v &&& 15 = 8 ∧ v &&& 15 ≤ 8 := no8 c5 (by decide) (by decide)
    refine ⟨?_, ?_, g1, fun z => absurd z hno.1, fun z => absurd hno.2 z⟩
    · rw [g2]; unfold fAct; rw [if_neg c0, if_neg c12, if_neg c34, if_pos c5]
    · rw [g3]; unfold fAct; rw [if_neg c0, if_neg c12, if_neg c34, if_pos c5]
  rw [if_neg c5]
  have passc : (v &&& 15 = 6 ∨ v &&& 15 = 7) → ∀ t0 : RV, actP d xs (slA o.1) v w (f_X6_pass d t0 xs (d.2 0 + fLow w 40)).1 (f_X6_pass d t0 xs (d.2 0 + fLow w 40)).2.1 (f_X6_pass d t0 xs (d.2 0 + fLow w 40)).2.2.2 := by
    intro c t0
    obtain ⟨g1, g2, g3⟩ := ok_pass (t := t0) (t2 := T0) (xs := xs) (nw := d.2 0 + fLow w 40) hi
    have hno : ¬ v &&& 15 = 8 ∧ v &&& 15 ≤ 8 := c.elim (fun c => no8 c (by decide) (by decide)) (fun c => no8 c (by decide) (by decide))
    refine ⟨?_, ?_, g1, fun z => absurd z hno.1, fun z => absurd hno.2 z⟩
    · rw [g2]; unfold fAct; rw [if_neg c0, if_neg c12, if_neg c34, if_neg c5, if_pos c]
    · rw [g3]; unfold fAct; rw [if_neg c0, if_neg c12, if_neg c34, if_neg c5, if_pos c]
  by_cases c6 : v &&& 15 = 6
  · rw [if_pos c6]
    exact ⟨by decide, passc (Or.inl c6) _⟩
  rw [if_neg c6]
  by_cases c7 : v &&& 15 = 7
  · rw [if_pos c7]
    exact ⟨by decide, passc (Or.inr c7) _⟩
  rw [if_neg c7]
  have c67 : ¬ (v &&& 15 = 6 ∨ v &&& 15 = 7) := fun z => z.elim c6 c7
  by_cases c8 : v &&& 15 = 8
  · rw [if_pos c8]
    intro r d' xs' e
    rw [hn] at e
    obtain ⟨g1, g2, g3, g4⟩ := ok_restore (d := d) (xs := xs) (s := slA o.1) (i := w &&& 1) hs
    rw [← e] at g1 g2 g3 g4
    refine ⟨?_, ?_, g1, fun _ => g4, fun z => absurd (by rw [c8]; decide) z⟩
    · rw [show r = _ from g2]; unfold fAct; rw [if_neg c0, if_neg c12, if_neg c34, if_neg c5, if_neg c67, if_pos c8]
    · rw [show d' = _ from g3]; unfold fAct; rw [if_neg c0, if_neg c12, if_neg c34, if_neg c5, if_neg c67, if_pos c8]
  rw [if_neg c8]
  have hl1 := len1_ne (xs := d.1 1) (by omega)
  refine ⟨hl1, hl1, by decide, by decide, by decide, by decide, ?_⟩
  obtain ⟨g1, g2, g3, g4⟩ := ok_book (sv := sv) (sd := sd) (st := st) (xs := xs) (fr := fLow w (rLen (d.1 1) + 1)) (to := fLow (w >>> ((4 : Int32) &&& 31)) (rLen (d.1 1) + 1)) (wa := fLow (d.2 0 + fLow (w >>> ((8 : Int32) &&& 31)) 50) 602) (bt := fLow ((d.2 0 + 10) + fLow (w >>> ((14 : Int32) &&& 31)) 150) 902) hi
  have e : fAct d (slA o.1) v w = fBk d (fLow w (rLen (d.1 1) + 1)) (fLow (w >>> ((4 : Int32) &&& 31)) (rLen (d.1 1) + 1)) (fLow (d.2 0 + fLow (w >>> ((8 : Int32) &&& 31)) 50) 602) (fLow ((d.2 0 + 10) + fLow (w >>> ((14 : Int32) &&& 31)) 150) 902) := by
    unfold fAct
    rw [if_neg c0, if_neg c12, if_neg c34, if_neg c5, if_neg c67, if_neg c8]
  refine ⟨by rw [e]; exact g2, by rw [e]; exact g3, g1, fun z => absurd z c8, fun _ z => ?_⟩
  rw [g3]
  exact g4 (by rw [← g2]; exact z)
