/-- what the cells hold behind a visit -/
theorem visit_rel {s F : Nat → Int32} {e : RV} {n v : Nat} {l : List Nat} {ti : Int32} (hd : dayOk e n (v :: l)) (hR : relS s e n) (hsm : ∀ x, x < 152 → x ≠ 5 → x ≠ 7 → x ≠ 8 → x ≠ 33 + 7 * (v / 2) + 4 → x ≠ 33 + 7 * (v / 2) + (if v % 2 = 0 then 5 else 6) → F x = s x) (h5 : F 5 = nI l.length) (h7 : F 7 = sSt e v) (h8 : F 8 = ti + gA (e.1 0) 2) (h4 : F (33 + 7 * (v / 2) + 4) = (if v % 2 = 0 then 1 else 2)) (ht : F (33 + 7 * (v / 2) + (if v % 2 = 0 then 5 else 6)) = ti) (hrt : ∀ k, k < l.length → F (152 + k) = nI (gN l k)) : relS F (mkV e v ti) n := by
  obtain ⟨hn, hl, hb, hf, hnow, ⟨h11, hw, hwl, hm⟩, hld⟩ := hd
  have hw2 := wsOk_iff.mp hw
  have hv : v < 2 * n := hw2.2.1 v List.mem_cons_self
  obtain ⟨eo, e8, e9, e10, e11, f0, f1, f2⟩ := mkV_eq (e := e) (ti := ti) (v := v) (by omega)
  rw [rSet_nI (by omega)] at e8 e9 e10
  obtain ⟨l0, l1, l2, l3, l4, l5, l6, l7, l8, l9, l10⟩ := hl
  have e11' : (mkV e v ti).1 11 = l.map nI := by
    rw [e11, h11, List.map_cons]
    rfl
  obtain ⟨⟨⟨s0, s1, s2⟩, hst, hri, s6, s7⟩, c3, c4, c5, c8, crt⟩ := hR
  have hi : (if v % 2 = 0 then 5 else 6 : Nat) = 5 ∨ (if v % 2 = 0 then 5 else 6 : Nat) = 6 := by split <;> omega
  refine ⟨⟨⟨?_, ?_, ?_⟩, ?_, ?_, ?_, ?_⟩, ?_, ?_, ?_, ?_, ?_⟩
  · rw [hsm _ (by omega) (by omega) (by omega) (by omega) (by omega) (by omega), eo 0 (by omega) (by omega) (by omega) (by omega)]; exact s0
  · rw [hsm _ (by omega) (by omega) (by omega) (by omega) (by omega) (by omega), eo 0 (by omega) (by omega) (by omega) (by omega)]; exact s1
  · rw [hsm _ (by omega) (by omega) (by omega) (by omega) (by omega) (by omega), eo 0 (by omega) (by omega) (by omega) (by omega)]; exact s2
  · intro i hi'
    rw [hsm _ (by omega) (by omega) (by omega) (by omega) (by omega) (by omega), hsm _ (by omega) (by omega) (by omega) (by omega) (by omega) (by omega), eo 1 (by omega) (by omega) (by omega) (by omega), eo 2 (by omega) (by omega) (by omega) (by omega)]
    exact hst i hi'
  · intro q hq
    obtain ⟨g0, g1, g2, g3, g4, g5, g6⟩ := hri q hq
    rw [hsm (33 + 7 * q + 0) (by omega) (by omega) (by omega) (by omega) (by omega) (by omega), hsm (33 + 7 * q + 1) (by omega) (by omega) (by omega) (by omega) (by omega) (by omega), hsm (33 + 7 * q + 2) (by omega) (by omega) (by omega) (by omega) (by omega) (by omega), hsm (33 + 7 * q + 3) (by omega) (by omega) (by omega) (by omega) (by omega) (by omega), eo 3 (by omega) (by omega) (by omega) (by omega), eo 4 (by omega) (by omega) (by omega) (by omega), eo 5 (by omega) (by omega) (by omega) (by omega), eo 6 (by omega) (by omega) (by omega) (by omega), e8, e9, e10, gA_set (by omega)]
    refine ⟨g0, g1, g2, g3, ?_, ?_, ?_⟩
    · by_cases c : q = v / 2
      · rw [if_pos c, c]; exact h4
      · rw [if_neg c, hsm _ (by omega) (by omega) (by omega) (by omega) (by omega) (by omega)]; exact g4
    · by_cases ev : v % 2 = 0
      · rw [if_pos ev] at ht hsm ⊢
        rw [gA_set (by omega)]
        by_cases c : q = v / 2
        · rw [if_pos c, c]; exact ht
        · rw [if_neg c, hsm _ (by omega) (by omega) (by omega) (by omega) (by omega) (by omega)]; exact g5
      · rw [if_neg ev] at ht hsm ⊢
        rw [hsm _ (by omega) (by omega) (by omega) (by omega) (by omega) (by omega)]; exact g5
    · by_cases ev : v % 2 = 0
      · rw [if_pos ev] at ht hsm ⊢
        rw [hsm _ (by omega) (by omega) (by omega) (by omega) (by omega) (by omega)]; exact g6
      · rw [if_neg ev] at ht hsm ⊢
        rw [gA_set (by omega)]
        by_cases c : q = v / 2
        · rw [if_pos c, c]; exact ht
        · rw [if_neg c, hsm _ (by omega) (by omega) (by omega) (by omega) (by omega) (by omega)]; exact g6
  · rw [hsm _ (by omega) (by omega) (by omega) (by omega) (by omega) (by omega), f0]; exact s6
  · rw [h7, f1]
  · rw [hsm _ (by omega) (by omega) (by omega) (by omega) (by omega) (by omega), eo 1 (by omega) (by omega) (by omega) (by omega)]; exact c3
  · rw [hsm _ (by omega) (by omega) (by omega) (by omega) (by omega) (by omega), e8, List.length_set]; exact c4
  · rw [h5, e11', List.length_map]
  · rw [h8, f2]
  · intro k hk
    rw [e11', List.length_map] at hk
    rw [e11', gA_map hk]
    exact hrt k hk
/-- from 61 on -/
theorem visits_61 {m m1 : MV} {e : RV} {n v : Nat} {l : List Nat} {ti : Int32} {K : MV → Prop} {X105 : MV → Int32 → Prop} (hd : dayOk e n (v :: l)) (hR : relS (m.2 1) e n) (h11 : m.2 11 0 = ti) (h1 : m1.1 = m.1) (h2 : ∀ j, j ≠ 1 → m1.2 j = m.2 j) (hsm : ∀ x, x ≠ 33 + 7 * (v / 2) + 4 → x ≠ 33 + 7 * (v / 2) + (if v % 2 = 0 then 5 else 6) → m1.2 1 x = m.2 1 x) (hX : ∀ m', m'.1 = m.1 → (∀ j, j ≠ 1 → m'.2 j = m.2 j) → (∀ x, x ≠ 5 → x ≠ 7 → x ≠ 8 → m'.2 1 x = m1.2 1 x) → m'.2 1 5 = nI l.length → m'.2 1 7 = sSt e v → m'.2 1 8 = ti + gA (e.1 0) 2 → X105 m' 0) : wp_X7_visits_61 X105 K m1 (nI v) := by
  have hn := hd.1
  have hw2 := wsOk_iff.mp hd.2.2.2.2.2.1.2.1
  have hv : v < 2 * n := hw2.2.1 v List.mem_cons_self
  have hi : (if v % 2 = 0 then 5 else 6 : Nat) = 5 ∨ (if v % 2 = 0 then 5 else 6 : Nat) = 6 := by split <;> omega
  obtain ⟨⟨⟨s0, s1, s2⟩, hst, hri, s6, s7⟩, c3, c4, c5, c8, crt⟩ := hR
  unfold wp_X7_visits_61
  -- the stop, out of the cells of the rides' ends
  have hq : PO_X7_stopOf m1 (nI v) (fun r => r = sSt e v) := by
    unfold PO_X7_stopOf wp_X7_stopOf_0
    rw [vis_mod (by omega), vis_half (by omega)]
    obtain ⟨g0, g1, -⟩ := hri (v / 2) (by omega)
    unfold sSt
    rw [stopOf_eq (by omega)]
    by_cases ev : v % 2 = 0
    · rw [if_pos ((nI0_iff (by omega)).mpr ev), if_pos ev]
      exact q_of (v / 2) 0 (by omega) (by omega) rfl rfl (by rw [hsm _ (by omega) (by omega)]; exact g0)
    · rw [if_neg (fun z => ev ((nI0_iff (by omega)).mp z)), if_neg ev]
      exact q_of (v / 2) 1 (by omega) (by omega) rfl rfl (by rw [hsm _ (by omega) (by omega)]; exact g1)
  have hq2 : ∀ K2 : Int32 → Prop, K2 (sSt e v) → PO_X7_stopOf m1 (nI v) K2 := by
    intro K2 hk
    unfold PO_X7_stopOf wp_X7_stopOf_0 PO_X7_of wp_X7_of_0 at hq ⊢
    by_cases c : nI v - nI v / 2 * 2 = 0
    · rw [if_pos c] at hq ⊢
      exact ⟨hq.1, by rw [hq.2]; exact hk⟩
    · rw [if_neg c] at hq ⊢
      exact ⟨hq.1, by rw [hq.2]; exact hk⟩
  refine hq2 _ ?_
  refine ⟨vp_in_nI (n := 7) (by omega) (by omega), ?_⟩
  dsimp only [yl]
  have u1 : ∀ x, x ≠ 7 → (mA m1 1 (7 : Int32).toNatClampNeg (sSt e v)).2 1 x = m1.2 1 x := fun x hx => by rw [mA_at]; exact upd_ne hx
  obtain ⟨ma, ema⟩ : ∃ z, z = mA m1 1 (7 : Int32).toNatClampNeg (sSt e v) := ⟨_, rfl⟩
  rw [← ema] at u1 ⊢
  have a11 : ma.2 11 (0 : Int32).toNatClampNeg = ti := by rw [ema, mA_ne (by omega), h2 11 (by omega)]; exact h11
  have a2 : ma.2 1 (2 : Int32).toNatClampNeg = gA (e.1 0) 2 := by
    show ma.2 1 2 = _
    rw [u1 2 (by omega), hsm _ (by omega) (by omega)]
    exact s2
  rw [a11, a2]
  refine ⟨vp_in_nI (n := 0) (by omega) (by omega), vp_in_nI (n := 2) (by omega) (by omega), vp_in_nI (n := 8) (by omega) (by omega), ?_⟩
  obtain ⟨mb, emb⟩ : ∃ z, z = mA ma 1 (8 : Int32).toNatClampNeg (ti + gA (e.1 0) 2) := ⟨_, rfl⟩
  have u2 : ∀ x, x ≠ 8 → mb.2 1 x = ma.2 1 x := fun x hx => by rw [emb, mA_at]; exact upd_ne hx
  rw [← emb]
  have b5 : mb.2 1 (5 : Int32).toNatClampNeg = nI (l.length + 1) := by
    show mb.2 1 5 = _
    rw [u2 5 (by omega), u1 5 (by omega), hsm _ (by omega) (by omega), c5, hd.2.2.2.2.2.1.1, List.length_map, List.length_cons]
  rw [b5, nI_pred]
  refine ⟨vp_in_nI (n := 5) (by omega) (by omega), vp_in_nI (n := 5) (by omega) (by omega), ?_⟩
  have u3 : ∀ x, x ≠ 5 → (mA mb 1 (5 : Int32).toNatClampNeg (nI l.length)).2 1 x = mb.2 1 x := fun x hx => by rw [mA_at]; exact upd_ne hx
  refine hX _ (by rw [emb, ema]; exact h1) (fun j hj => by rw [mA_ne hj, emb, mA_ne hj, ema, mA_ne hj]; exact h2 j hj) (fun x h5 h7 h8 => by rw [u3 x h5, u2 x h8, u1 x h7]) ?_ ?_ ?_
  · rw [mA_at]; exact upd_at _ _ _
  · rw [u3 7 (by omega), u2 7 (by omega), ema, mA_at]; exact upd_at _ _ _
  · rw [u3 8 (by omega), emb, mA_at]; exact upd_at _ _ _
theorem q_visits {m : MV} {e : RV} {n v : Nat} {l : List Nat} {ti : Int32} {K : MV → Prop} (hd : dayOk e n (v :: l)) (hR : relS (m.2 1) e n) (h11 : m.2 11 0 = ti) (hK : ∀ m', m'.1 = m.1 → (∀ j, j ≠ 1 → m'.2 j = m.2 j) → relS (m'.2 1) (mkV e v ti) n → K m') : PO_X7_visits K m := by
  have hn := hd.1
  have hw2 := wsOk_iff.mp hd.2.2.2.2.2.1.2.1
  have hwl := hd.2.2.2.2.2.1.2.2.1
  rw [List.length_cons] at hwl
  have hv : v < 2 * n := hw2.2.1 v List.mem_cons_self
  obtain ⟨h5, hrt⟩ := dayOk_way hd hR
  have h152 : ∀ k : Nat, (152 : Int32) + nI k = nI (152 + k) := fun k => by rw [show (152 : Int32) = nI 152 from rfl, nI_add]
  obtain ⟨F, hF⟩ : ∃ F : MV → Prop, F = fun m' => m'.1 = m.1 ∧ (∀ j, j ≠ 1 → m'.2 j = m.2 j) ∧ (∀ x, x < 152 → x ≠ 5 → x ≠ 7 → x ≠ 8 → x ≠ 33 + 7 * (v / 2) + 4 → x ≠ 33 + 7 * (v / 2) + (if v % 2 = 0 then 5 else 6) → m'.2 1 x = m.2 1 x) ∧ m'.2 1 5 = nI l.length ∧ m'.2 1 7 = sSt e v ∧ m'.2 1 8 = ti + gA (e.1 0) 2 ∧ m'.2 1 (33 + 7 * (v / 2) + 4) = (if v % 2 = 0 then 1 else 2) ∧ m'.2 1 (33 + 7 * (v / 2) + (if v % 2 = 0 then 5 else 6)) = ti := ⟨_, rfl⟩
  have hi : (if v % 2 = 0 then 5 else 6 : Nat) = 5 ∨ (if v % 2 = 0 then 5 else 6 : Nat) = 6 := by split <;> omega
  have hFA : ∀ (m' : MV) (k : Nat) (x : Int32), 152 ≤ k → F m' → F (mA m' 1 k x) := by
    intro m' k x hk h
    rw [hF] at h ⊢
    obtain ⟨g1, g2, g3, g4, g5, g6, g7, g8⟩ := h
    have hu : ∀ y, y < 152 → (mA m' 1 k x).2 1 y = m'.2 1 y := fun y hy => by rw [mA_at, upd_ne (by omega)]
    exact ⟨g1, fun j hj => by rw [mA_ne hj]; exact g2 j hj, fun y h1 h2 h3 h4 h6 h7 => by rw [hu y h1]; exact g3 y h1 h2 h3 h4 h6 h7, by rw [hu _ (by omega)]; exact g4, by rw [hu _ (by omega)]; exact g5, by rw [hu _ (by omega)]; exact g6, by rw [hu _ (by omega)]; exact g7, by rw [hu _ (by omega)]; exact g8⟩
  refine ⟨fun w m' x3 => ∃ k, k ≤ l.length ∧ x3 = nI k ∧ w = l.length - k ∧ F m' ∧ (∀ q, q < k → m'.2 1 (152 + q) = nI (gN l q)) ∧ (∀ q, k ≤ q → q < l.length + 1 → m'.2 1 (152 + q) = nI (gN (v :: l) q)), ?_, ?_⟩
  · rintro w m' x3 ⟨k, hk, rfl, rfl, hFm, hpre, hpost⟩
    unfold wp_X7_visits_105
    have g5 : m'.2 1 (5 : Int32).toNatClampNeg = nI l.length := by
      rw [hF] at hFm
      exact hFm.2.2.2.1
    rw [g5, h152, h152, nI_1]
    refine ⟨vp_in_nI (n := 5) (by omega) (by omega), ?_⟩
    by_cases c : l.length ≤ k
    · rw [if_pos ((nI_leI (by omega) (by omega)).mpr c), nI_clamp (by omega)]
      refine ⟨vp_in_nI (n := 5) (by omega) (by omega), vp_in_nI (by omega) (by omega), ?_⟩
      dsimp only [yl]
      have hFm2 := hFA m' (152 + l.length) 0 (by omega) hFm
      rw [hF] at hFm2
      obtain ⟨g1, g2, g3, g4, g5', g6, g7, g8⟩ := hFm2
      refine hK _ g1 g2 (visit_rel hd hR g3 g4 g5' g6 g7 g8 (fun q hq => ?_))
      rw [mA_at, upd_ne (by omega)]
      exact hpre q (by omega)
    · rw [if_neg (fun z => c ((nI_leI (by omega) (by omega)).mp z)), nI_clamp (by omega), nI_clamp (by omega)]
      refine ⟨vp_in_nI (by omega) (by omega), vp_in_nI (by omega) (by omega), ?_⟩
      dsimp only [yl]
      refine ⟨_, by omega, k + 1, by omega, nI_1 k, rfl, hFA _ _ _ (by omega) hFm, fun q hq => ?_, fun q h1 h2 => ?_⟩
      · rw [mA_at]
        by_cases cq : q = k
        · rw [cq, upd_at]
          have h := hpost (k + 1) (by omega) (by omega)
          rw [show 152 + k + 1 = 152 + (k + 1) by omega, h]
          rfl
        · rw [upd_ne (by omega)]
          exact hpre q (by omega)
      · rw [mA_at, upd_ne (by omega)]
        exact hpost q (by omega) h2
  · unfold wp_X7_visits_0
    have e152 : m.2 1 (152 : Int32).toNatClampNeg = nI v := hrt 0 (by rw [List.length_cons]; omega)
    rw [e152, vis_mod (by omega)]
    refine ⟨vp_in_nI (n := 152) (by omega) (by omega), ?_⟩
    have main : ∀ b st : Int32, ((v % 2 = 0 ∧ b = 1 ∧ st = 1) ∨ (v % 2 = 1 ∧ b = 0 ∧ st = 2)) → wp_X7_visits_21 (fun m9 x39 => ∃ w9 k, k ≤ l.length ∧ x39 = nI k ∧ w9 = l.length - k ∧ F m9 ∧ (∀ q, q < k → m9.2 1 (152 + q) = nI (gN l q)) ∧ (∀ q, k ≤ q → q < l.length + 1 → m9.2 1 (152 + q) = nI (gN (v :: l) q))) K m (nI v) b := by
      intro b st hb
      have hend : ∀ m1, m1.1 = m.1 → (∀ j, j ≠ 1 → m1.2 j = m.2 j) → (∀ x, x ≠ 33 + 7 * (v / 2) + 4 → x ≠ 33 + 7 * (v / 2) + (if v % 2 = 0 then 5 else 6) → m1.2 1 x = m.2 1 x) → m1.2 1 (33 + 7 * (v / 2) + 4) = (if v % 2 = 0 then 1 else 2) → m1.2 1 (33 + 7 * (v / 2) + (if v % 2 = 0 then 5 else 6)) = ti → wp_X7_visits_61 (fun m9 x39 => ∃ w9 k, k ≤ l.length ∧ x39 = nI k ∧ w9 = l.length - k ∧ F m9 ∧ (∀ q, q < k → m9.2 1 (152 + q) = nI (gN l q)) ∧ (∀ q, k ≤ q → q < l.length + 1 → m9.2 1 (152 + q) = nI (gN (v :: l) q))) K m1 (nI v) := by
        intro m1 k1 k2 k3 k4 k5
        refine visits_61 hd hR h11 k1 k2 k3 (fun m' j1 j2 j3 j4 j5 j6 => ?_)
        refine ⟨_, 0, by omega, rfl, rfl, ?_, fun q hq => absurd hq (Nat.not_lt_zero q), fun q _ hq => ?_⟩
        · rw [hF]
          exact ⟨j1, j2, fun x _ h5 h7 h8 h4 hi' => (j3 x h5 h7 h8).trans (k3 x h4 hi'), j4, j5, j6, (j3 _ (by omega) (by omega) (by omega)).trans k4, (j3 _ (by omega) (by omega) (by omega)).trans k5⟩
        · rw [j3 _ (by omega) (by omega) (by omega), k3 _ (by omega) (by omega)]
          exact hrt q (by rw [List.length_cons]; omega)
      unfold wp_X7_visits_21
      rw [vis_half (by omega), show m.2 11 (0 : Int32).toNatClampNeg = ti from h11]
      rcases hb with ⟨ev, rfl, rfl⟩ | ⟨ev, rfl, rfl⟩
      · rw [if_neg (by decide)]
        rw [if_pos ev, if_pos ev] at hend
        refine ⟨vp_in_nI (n := 0) (by omega) (by omega), q_lay (v / 2) 5 (by omega) (by omega) rfl rfl ?_⟩
        unfold wp_X7_visits_44
        rw [if_neg (by decide), vis_half (by omega)]
        refine q_lay (v / 2) 4 (by omega) (by omega) rfl rfl ?_
        refine hend _ rfl (fun j hj => by rw [mA_ne hj, mA_ne hj]) (fun x h1 h2 => ?_) ?_ ?_
        · rw [mA_at, upd_ne h1, mA_at, upd_ne h2]
        · rw [mA_at, upd_at]
        · rw [mA_at, upd_ne (by omega), mA_at, upd_at]
      · have ev' : ¬ v % 2 = 0 := by omega
        rw [if_pos rfl]
        rw [if_neg ev', if_neg ev'] at hend
        refine ⟨vp_in_nI (n := 0) (by omega) (by omega), q_lay (v / 2) 6 (by omega) (by omega) rfl rfl ?_⟩
        unfold wp_X7_visits_44
        rw [if_pos rfl, vis_half (by omega)]
        refine q_lay (v / 2) 4 (by omega) (by omega) rfl rfl ?_
        refine hend _ rfl (fun j hj => by rw [mA_ne hj, mA_ne hj]) (fun x h1 h2 => ?_) ?_ ?_
        · rw [mA_at, upd_ne h1, mA_at, upd_ne h2]
        · rw [mA_at, upd_at]
        · rw [mA_at, upd_ne (by omega), mA_at, upd_at]
    by_cases ev : v % 2 = 0
    · rw [if_pos ((nI0_iff (by omega)).mpr ev)]
      exact main 1 1 (Or.inl ⟨ev, rfl, rfl⟩)
    · rw [if_neg (fun z => ev ((nI0_iff (by omega)).mp z))]
      exact main 0 2 (Or.inr ⟨by omega, rfl, rfl⟩)
