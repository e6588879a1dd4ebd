/-! ===== changes, as the law meets them ===== -/
theorem zz_book {m : MV} {d sv sd st p : RV} {xs : List RV} {a0 a1 : Option RV} {fr to wa bt : Int32} {K : Int32 → MV → Prop} {T : Int32 × RV × RV × RV × RV × List RV} (hT : f_X6_book d sv sd st xs fr to wa bt = T) (hM : modR m d p xs a0 a1) (hK : ∀ m', modR m' T.2.1 p T.2.2.2.2.2 a0 a1 → K T.1 m') : PO_X7_book fr to wa bt K m := by
  obtain ⟨⟨n, ws, hd, hR⟩, -⟩ := id hM
  have hn := hd.1
  unfold PO_X7_book wp_X7_book_0
  dsimp only [yl]
  have q0 : qst m (mI m 0 0) d n := qst_scr (qst_refl hR) (scr_I (scr_refl m) (by omega))
  unfold f_X6_book at hT
  dsimp only [yl] at hT
  generalize hTT : f_X6_tryToBook d sv sd st fr to wa bt = TT at hT
  refine q_refusesBook hTT hd q0.1 ?_ ?_
  · intro m1 q1 hneg
    rw [if_neg (fun (z : 0 ≤ TT.1) => absurd hneg (Int32.not_lt.mpr z))] at hT
    rw [if_neg (fun (z : TT.1 = 0) => by rw [z] at hneg; exact absurd hneg (by decide))]
    subst hT
    exact hK m1 (modR_qst hM hd ⟨q1.1, othM_trans q0.2 q1.2⟩)
  · rintro m1 i j q1 ⟨ha, hn16, e1, e2, hfl, hij, hj, h17, h18, hD⟩
    rw [if_pos (show 0 ≤ TT.1 by rw [e1]; exact nI_pos' (by omega))] at hT
    rw [if_pos rfl]
    have hM1 := modR_qst hM hd ⟨q1.1, othM_trans q0.2 q1.2⟩
    refine q_records ⟨n, ws, hd, q1.1⟩ hM1.2.1 ?_
    intro m2 hr2
    have hM2 := modR_rec hM1 hr2
    obtain ⟨r1, r2, -⟩ := hr2
    have es : m2.2 1 = m1.2 1 := r2 1 (by omega)
    refine q_books hd (by rw [es]; exact q1.1) ha hn16 hij hj (by rw [r1 17 (by omega)]; exact h17) (by rw [r1 18 (by omega)]; exact h18) hfl (by rw [es]; exact hD) ?_
    intro m3 ho hS
    subst hT
    have h := hK m3 (modR_oth hM2 ho (by show dayS _ TT.2.2.1; rw [e2]; exact hS))
    rw [show (TT.1, _).1 = TT.1 from rfl, e1] at h
    exact h
theorem cnt0 {xs : List Int32} {how : Int32} (h : ∀ k, k < xs.length → gA xs k ≠ how) : nStand xs how = 0 := by
  unfold nStand
  have e : cntOf xs how = 0 := by
    unfold cntOf
    rw [List.countP_eq_zero]
    intro x hx
    obtain ⟨k, hk, e⟩ := List.getElem_of_mem hx
    have h1 := h k hk
    unfold gA at h1
    rw [List.getD_eq_getElem?_getD, List.getElem?_eq_getElem hk] at h1
    simp only [Option.getD_some] at h1
    rw [e] at h1
    simpa using h1
  rw [e]
  rfl
/-- a day without a route: nobody is aboard -/
theorem no_route {d : RV} {n : Nat} {ws : List Nat} (hd : dayOk d n ws) (h : ws = []) : nStand (d.1 8) 1 = 0 := by
  subst h
  have hm := hd.2.2.2.2.2.1.2.2.2
  refine cnt0 (fun k hk e => ?_)
  rw [dayOk_l8 hd] at hk
  have := (hm k hk).2.mpr (Or.inr e)
  exact absurd this (by simp)
/-- a setting is changed -/
theorem set_ok {d : RV} {n : Nat} {ws : List Nat} {s : Nat → Int32} {va : Int32} (k : Nat) (hk : k < 3) (hd : dayOk d n ws) (hR : relS s d n) (h : ws = []) (hv : (k = 0 ∧ bd va 1 8) ∨ (k = 1 ∧ bd va 0 60) ∨ (k = 2 ∧ bd va 0 5)) : dayS (upd s k va) (rvR d 0 (rSet (d.1 0) (nI k) va)) := by
  have h0 := no_route hd h
  subst h
  obtain ⟨hn, hl, hb, hf, hnow, hrt, hld⟩ := hd
  obtain ⟨l0, l1, l2, l3, l4, l5, l6, l7, l8, l9, l10⟩ := hl
  have es : rSet (d.1 0) (nI k) va = (d.1 0).set k va := rSet_nI (by omega)
  have e0 : (rvR d 0 (rSet (d.1 0) (nI k) va)).1 0 = (d.1 0).set k va := by rw [rvR_eq, es]
  have eg : ∀ j, gA ((rvR d 0 (rSet (d.1 0) (nI k) va)).1 0) j = if j = k then va else gA (d.1 0) j := fun j => by rw [e0, gA_set (by omega)]
  obtain ⟨⟨b0, b1, b2⟩, hbr⟩ := hb
  refine ⟨n, [], ⟨hn, ⟨by rw [e0]; simp [l0], l1, l2, l3, l4, l5, l6, l7, l8, l9, l10⟩, ⟨⟨?_, ?_, ?_⟩, hbr⟩, hf, hnow, hrt, ?_⟩, ?_⟩
  · rw [eg]
    split
    · rename_i e
      rcases hv with ⟨e1, e2⟩ | ⟨e1, e2⟩ | ⟨e1, e2⟩
      · exact e2
      · omega
      · omega
    · exact b0
  · rw [eg]
    split
    · rename_i e
      rcases hv with ⟨e1, e2⟩ | ⟨e1, e2⟩ | ⟨e1, e2⟩
      · omega
      · exact e2
      · omega
    · exact b1
  · rw [eg]
    split
    · rename_i e
      rcases hv with ⟨e1, e2⟩ | ⟨e1, e2⟩ | ⟨e1, e2⟩
      · omega
      · omega
      · exact e2
    · exact b2
  · show (nStand (d.1 8) 1).toInt ≤ _
    rw [h0, t32_0, eg]
    split
    · rename_i e
      rcases hv with ⟨e1, e2⟩ | ⟨e1, e2⟩ | ⟨e1, e2⟩
      · have := e2.1; omega
      · omega
      · omega
    · have := b0.1; omega
  · obtain ⟨⟨⟨s0, s1, s2⟩, hst, hri, s6, s7⟩, c3, c4, c5, c8, crt⟩ := hR
    have hu : ∀ x, 3 ≤ x → upd s k va x = s x := fun x hx => upd_ne (by omega)
    refine ⟨⟨⟨?_, ?_, ?_⟩, fun i hi => by rw [hu _ (by omega), hu _ (by omega)]; exact hst i hi, fun r hr => ?_, by rw [hu _ (by omega)]; exact s6, by rw [hu _ (by omega)]; exact s7⟩, by rw [hu _ (by omega)]; exact c3, by rw [hu _ (by omega)]; exact c4, by rw [hu _ (by omega)]; exact c5, by rw [hu _ (by omega)]; exact c8, fun q hq => by rw [hu _ (by omega)]; exact crt q hq⟩
    · rw [eg]
      unfold upd
      split
      · rfl
      · exact s0
    · rw [eg]
      unfold upd
      split
      · rfl
      · exact s1
    · rw [eg]
      unfold upd
      split
      · rfl
      · exact s2
    · rw [hu _ (by omega), hu _ (by omega), hu _ (by omega), hu _ (by omega), hu _ (by omega), hu _ (by omega), hu _ (by omega)]
      exact hri r hr
theorem zz_set {m : MV} {d p : RV} {xs : List RV} {a0 a1 : Option RV} {se va : Int32} {K : Int32 → MV → Prop} {T : Int32 × RV × List RV} (hT : f_X6_set d xs se va = T) (hM : modR m d p xs a0 a1) (hK : ∀ m', modR m' T.2.1 p T.2.2 a0 a1 → K T.1 m') : PO_X7_set se va K m := by
  obtain ⟨⟨n, ws, hd, hR⟩, -⟩ := id hM
  have hn := hd.1
  have h11 := hd.2.2.2.2.2.1.1
  have hwl := hd.2.2.2.2.2.1.2.2.1
  obtain ⟨h5, -⟩ := dayOk_way hd hR
  unfold PO_X7_set wp_X7_set_0
  dsimp only [yl]
  have q0 : qst m (mI m 0 0) d n := qst_scr (qst_refl hR) (scr_I (scr_refl m) (by omega))
  have hM0 := modR_qst hM hd q0
  rw [show (mI m 0 0).2 1 (5 : Int32).toNatClampNeg = nI ws.length from h5]
  unfold f_X6_set rLen at hT
  dsimp only [yl] at hT
  rw [h11, List.length_map] at hT
  -- the change itself
  have main : ∀ k : Nat, k < 3 → se = nI k → ((k = 0 ∧ bd va 1 8) ∨ (k = 1 ∧ bd va 0 60) ∨ (k = 2 ∧ bd va 0 5)) → ws = [] → (rAt (d.1 0) se, rvR d 0 (rSet (d.1 0) se va), fHist xs d) = T → PO_X7_records (fun (m18 : MV) => (vp_in se 186 ∧ (vp_in se 186 ∧ K ((m18.2 1) se.toNatClampNeg) (mA m18 1 se.toNatClampNeg va)))) (mI m 0 0) := by
    intro k hk e hv hw hT
    subst e
    refine q_records ⟨n, ws, hd, q0.1⟩ hM0.2.1 ?_
    intro m2 hr2
    have hM2 := modR_rec hM0 hr2
    rw [nI_clamp (by omega)]
    refine ⟨vp_in_nI (by omega) (by omega), vp_in_nI (by omega) (by omega), ?_⟩
    have es : m2.2 1 = m.2 1 := hr2.2.1 1 (by omega)
    have hh := set_ok (s := m2.2 1) k hk hd (by rw [es]; exact hR) hw hv
    subst hT
    have h := hK (mA m2 1 k va) (modR_oth hM2 (othM_A1 _ _ _) (by rw [mA_at]; exact hh))
    have ea : m2.2 1 k = rAt (d.1 0) (nI k) := by
      rw [rAt_gA (by omega), es]
      obtain ⟨⟨s0, s1, s2⟩, -⟩ := hR.1
      rcases (show k = 0 ∨ k = 1 ∨ k = 2 by omega) with q | q | q <;> subst q
      · exact s0
      · exact s1
      · exact s2
    rw [ea]
    exact h
  have t8 : (8 : Int32).toInt = 8 := by decide
  have t60 : (60 : Int32).toInt = 60 := by decide
  have t5 : (5 : Int32).toInt = 5 := by decide
  unfold f_X7_in
  unfold f_X6_leastOf f_X6_mostOf at hT
  by_cases d0 : se = 0
  · rw [if_pos d0]
    rw [if_neg (by rw [d0]; decide), if_pos (by rw [d0]; decide), if_pos d0, if_pos d0] at hT
    by_cases c1 : va < 1
    · rw [if_pos c1] at hT
      rw [if_pos c1, if_pos rfl]
      subst hT
      exact hK _ hM0
    rw [if_neg c1] at hT
    rw [if_neg c1]
    by_cases c2 : va ≤ 8
    · rw [if_pos c2] at hT
      rw [if_neg (Int32.not_lt.mpr c2), if_neg (by decide)]
      refine ⟨vp_in_nI (n := 5) (by omega) (by omega), ?_⟩
      by_cases c3 : nI ws.length ≤ 0
      · rw [if_pos c3] at hT ⊢
        rw [fa_lt, t32_1] at c1
        rw [fa_le, t8] at c2
        exact main 0 (by omega) d0 (Or.inl ⟨rfl, by omega, by omega⟩) (List.length_eq_zero_iff.mp ((nI_leI (b := 0) (by omega) (by omega)).mp c3 |> Nat.le_zero.mp)) hT
      · rw [if_neg c3] at hT ⊢
        subst hT
        exact hK _ hM0
    · rw [if_neg c2] at hT
      rw [if_pos (Int32.not_le.mp c2), if_pos rfl]
      subst hT
      exact hK _ hM0
  rw [if_neg d0]
  rw [if_neg d0, if_neg d0] at hT
  by_cases d1 : se = 1
  · rw [if_pos d1]
    rw [if_neg (by rw [d1]; decide), if_pos (by rw [d1]; decide), if_pos d1] at hT
    by_cases c1 : va < 0
    · rw [if_pos c1] at hT
      rw [if_pos c1, if_pos rfl]
      subst hT
      exact hK _ hM0
    rw [if_neg c1] at hT
    rw [if_neg c1]
    by_cases c2 : va ≤ 60
    · rw [if_pos c2] at hT
      rw [if_neg (Int32.not_lt.mpr c2), if_neg (by decide)]
      refine ⟨vp_in_nI (n := 5) (by omega) (by omega), ?_⟩
      by_cases c3 : nI ws.length ≤ 0
      · rw [if_pos c3] at hT ⊢
        rw [fa_lt, t32_0] at c1
        rw [fa_le, t60] at c2
        exact main 1 (by omega) d1 (Or.inr (Or.inl ⟨rfl, by omega, by omega⟩)) (List.length_eq_zero_iff.mp ((nI_leI (b := 0) (by omega) (by omega)).mp c3 |> Nat.le_zero.mp)) hT
      · rw [if_neg c3] at hT ⊢
        subst hT
        exact hK _ hM0
    · rw [if_neg c2] at hT
      rw [if_pos (Int32.not_le.mp c2), if_pos rfl]
      subst hT
      exact hK _ hM0
  rw [if_neg d1]
  rw [if_neg d1] at hT
  by_cases d2 : se = 2
  · rw [if_pos d2]
    rw [if_neg (by rw [d2]; decide), if_pos (by rw [d2]; decide)] at hT
    by_cases c1 : va < 0
    · rw [if_pos c1] at hT
      rw [if_pos c1, if_pos rfl]
      subst hT
      exact hK _ hM0
    rw [if_neg c1] at hT
    rw [if_neg c1]
    by_cases c2 : va ≤ 5
    · rw [if_pos c2] at hT
      rw [if_neg (Int32.not_lt.mpr c2), if_neg (by decide)]
      refine ⟨vp_in_nI (n := 5) (by omega) (by omega), ?_⟩
      by_cases c3 : nI ws.length ≤ 0
      · rw [if_pos c3] at hT ⊢
        rw [fa_lt, t32_0] at c1
        rw [fa_le, t5] at c2
        exact main 2 (by omega) d2 (Or.inr (Or.inr ⟨rfl, by omega, by omega⟩)) (List.length_eq_zero_iff.mp ((nI_leI (b := 0) (by omega) (by omega)).mp c3 |> Nat.le_zero.mp)) hT
      · rw [if_neg c3] at hT ⊢
        subst hT
        exact hK _ hM0
    · rw [if_neg c2] at hT
      rw [if_pos (Int32.not_le.mp c2), if_pos rfl]
      subst hT
      exact hK _ hM0
  rw [if_neg d2]
  by_cases c : se < 0
  · rw [if_pos c] at hT
    subst hT
    exact hK _ hM0
  · rw [if_neg c] at hT
    rw [if_neg (c := se < 3) (fun z => by
      have t3 : (3 : Int32).toInt = 3 := by decide
      rw [fa_lt, t32_0] at c
      rw [fa_lt, t3] at z
      obtain ⟨w, hw, e⟩ := bd_nat (x := se) (hi := 2) ⟨by omega, by omega⟩
      rcases (show w = 0 ∨ w = 1 ∨ w = 2 by omega) with q | q | q <;> subst q
      · exact d0 e
      · exact d1 e
      · exact d2 e)] at hT
    subst hT
    exact hK _ hM0
