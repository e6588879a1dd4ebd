def baseP (m m' : MV) (d : RV) (r : Nat) : Prop := m'.1 = m.1 ∧ (∀ j, j ≠ 1 → m'.2 j = m.2 j) ∧ (∀ x, x < 152 → x ≠ 7 → x ≠ 8 → m'.2 1 x = m.2 1 x) ∧ m'.2 1 7 = (fBase d (nI r)).2 1 ∧ m'.2 1 8 = (fBase d (nI r)).2 2
def leavP (m m' : MV) (d : RV) (r : Nat) (ws : List Nat) : Prop := m'.1 = m.1 ∧ (∀ j, j ≠ 1 → m'.2 j = m.2 j) ∧ (∀ x, x < 152 → x ≠ 5 → x ≠ 7 → x ≠ 8 → m'.2 1 x = m.2 1 x) ∧ m'.2 1 5 = nI (offN ws r).length ∧ m'.2 1 7 = (fBase d (nI r)).2 1 ∧ m'.2 1 8 = (fBase d (nI r)).2 2 ∧ ∀ k, k < (offN ws r).length → m'.2 1 (152 + k) = nI (gN (offN ws r) k)
theorem gN_app {l : List Nat} {v k : Nat} : gN (l ++ [v]) k = if k < l.length then gN l k else if k = l.length then v else 0 := by
  unfold gN
  rw [List.getD_eq_getElem?_getD]
  by_cases c : k < l.length
  · rw [if_pos c, List.getElem?_append_left c, List.getD_eq_getElem?_getD]
  · rw [if_neg c, List.getElem?_append_right (by omega)]
    by_cases c2 : k = l.length
    · rw [if_pos c2, c2, Nat.sub_self]
      rfl
    · rw [if_neg c2, List.getElem?_eq_none (by simp; omega)]
      rfl
theorem offN_take {ws : List Nat} {r k : Nat} (h : k < ws.length) : offN (ws.take (k + 1)) r = if gN ws k / 2 = r then offN (ws.take k) r else offN (ws.take k) r ++ [gN ws k] := by
  rw [List.take_succ, List.getElem?_eq_getElem h, ← gN_get h]
  unfold offN
  rw [List.filter_append]
  by_cases c : gN ws k / 2 = r
  · rw [if_pos c]
    simp [c]
  · rw [if_neg c]
    simp [c]
theorem q_leaves {m : MV} {d : RV} {n r : Nat} {ws : List Nat} {K : MV → Prop} (hd : dayOk d n ws) (hR : relS (m.2 1) d n) (hr : r < n) (hK : ∀ m', leavP m m' d r ws → K m') : PO_X7_leaves (nI r) K m := by
  have hn := hd.1
  have h11 := hd.2.2.2.2.2.1.1
  have hw := hd.2.2.2.2.2.1.2.1
  have hwl := hd.2.2.2.2.2.1.2.2.1
  have hb := hd.2.2.1
  obtain ⟨h5, hrt⟩ := dayOk_way hd hR
  have h152 : ∀ k : Nat, (152 : Int32) + nI k = nI (152 + k) := fun k => by rw [show (152 : Int32) = nI 152 from rfl, nI_add]
  have hol : ∀ k, (offN (ws.take k) r).length ≤ k := fun k => Nat.le_trans offN_len (by simp; omega)
  refine ⟨fun w m' x2 x3 => ∃ k, k ≤ ws.length ∧ x3 = nI k ∧ x2 = nI (offN (ws.take k) r).length ∧ w = ws.length - k + 1000 ∧ baseP m m' d r ∧ (∀ q, q < (offN (ws.take k) r).length → m'.2 1 (152 + q) = nI (gN (offN (ws.take k) r) q)) ∧ (∀ q, k ≤ q → q < ws.length → m'.2 1 (152 + q) = nI (gN ws q)),
    fun w m' x2 x3 => ∃ k, (offN ws r).length ≤ k ∧ k ≤ ws.length ∧ x3 = nI k ∧ x2 = nI (offN ws r).length ∧ w = ws.length - k ∧ baseP m m' d r ∧ (∀ q, q < (offN ws r).length → m'.2 1 (152 + q) = nI (gN (offN ws r) q)), ?_, ?_, ?_⟩
  · rintro w m' x2 x3 ⟨k, hk, rfl, rfl, rfl, hB, hpre, hpost⟩
    unfold wp_X7_leaves_105
    refine ⟨vp_in_nI (n := 5) (by omega) (by omega), ?_⟩
    rw [show m'.2 1 (5 : Int32).toNatClampNeg = nI ws.length from (hB.2.2.1 5 (by omega) (by omega) (by omega)).trans h5]
    by_cases c : ws.length ≤ k
    · rw [if_pos ((nI_leI (by omega) (by omega)).mpr c)]
      have e : ws.take k = ws := List.take_of_length_le c
      rw [e] at hpre ⊢
      exact ⟨_, by omega, _, Nat.le_refl _, offN_len, rfl, rfl, rfl, hB, hpre⟩
    · rw [if_neg (fun z => c ((nI_leI (by omega) (by omega)).mp z))]
      have hv := hw.2.1 k (by omega)
      have hol' := hol k
      rw [h152, h152, nI_clamp (by omega), nI_clamp (by omega), hpost k (Nat.le_refl _) (by omega), vis_half (by omega)]
      refine ⟨vp_in_nI (by omega) (by omega), ?_⟩
      have ht := offN_take (ws := ws) (r := r) (k := k) (by omega)
      by_cases c2 : gN ws k / 2 = r
      · rw [if_pos (by rw [c2])]
        rw [if_pos c2] at ht
        unfold wp_X7_leaves_154
        refine ⟨_, ?_, k + 1, by omega, nI_1 k, by rw [ht], rfl, hB, by rw [ht]; exact hpre, fun q h1 h2 => hpost q (by omega) h2⟩
        omega
      · rw [if_neg (fun z => c2 ((nI_eq (by omega) (by omega)).mp z))]
        rw [if_neg c2] at ht
        refine ⟨vp_in_nI (by omega) (by omega), vp_in_nI (by omega) (by omega), ?_⟩
        dsimp only [yl]
        unfold wp_X7_leaves_154
        have hlen : (offN (ws.take (k + 1)) r).length = (offN (ws.take k) r).length + 1 := by rw [ht]; simp
        refine ⟨_, ?_, k + 1, by omega, nI_1 k, by rw [hlen, nI_1], rfl, ⟨hB.1, fun j hj => by rw [mA_ne hj]; exact hB.2.1 j hj, fun x h1 h2 h3 => by rw [mA_at, upd_ne (by omega)]; exact hB.2.2.1 x h1 h2 h3, by rw [mA_at, upd_ne (by omega)]; exact hB.2.2.2.1, by rw [mA_at, upd_ne (by omega)]; exact hB.2.2.2.2⟩, fun q hq => ?_, fun q h1 h2 => ?_⟩
        · omega
        · rw [hlen] at hq
          rw [mA_at, ht, gN_app]
          by_cases cq : q < (offN (ws.take k) r).length
          · rw [if_pos cq, upd_ne (by omega)]
            exact hpre q cq
          · rw [if_neg cq, if_pos (by omega), show q = (offN (ws.take k) r).length by omega, upd_at]
        · rw [mA_at, upd_ne (by omega)]
          exact hpost q (by omega) h2
  · rintro w m' x2 x3 ⟨k, hk0, hk, rfl, rfl, rfl, hB, hpre⟩
    unfold wp_X7_leaves_162
    refine ⟨vp_in_nI (n := 5) (by omega) (by omega), ?_⟩
    rw [show m'.2 1 (5 : Int32).toNatClampNeg = nI ws.length from (hB.2.2.1 5 (by omega) (by omega) (by omega)).trans h5]
    by_cases c : ws.length ≤ k
    · rw [if_pos ((nI_leI (by omega) (by omega)).mpr c)]
      refine ⟨vp_in_nI (n := 5) (by omega) (by omega), ?_⟩
      dsimp only [yl]
      have hu : ∀ x, x ≠ 5 → (mA m' 1 (5 : Int32).toNatClampNeg (nI (offN ws r).length)).2 1 x = m'.2 1 x := by
        intro x hx
        rw [mA_at]
        exact upd_ne hx
      refine hK _ ⟨hB.1, fun j hj => by rw [mA_ne hj]; exact hB.2.1 j hj, fun x h1 h2 h3 h4 => by rw [hu x h2]; exact hB.2.2.1 x h1 h3 h4, by rw [mA_at]; exact upd_at _ _ _, by rw [hu 7 (by omega)]; exact hB.2.2.2.1, by rw [hu 8 (by omega)]; exact hB.2.2.2.2, fun q hq => by rw [hu _ (by omega)]; exact hpre q hq⟩
    · rw [if_neg (fun z => c ((nI_leI (by omega) (by omega)).mp z))]
      rw [h152, nI_clamp (by omega)]
      refine ⟨vp_in_nI (by omega) (by omega), ?_⟩
      dsimp only [yl]
      refine ⟨_, by omega, k + 1, by omega, by omega, nI_1 k, rfl, rfl, ⟨hB.1, fun j hj => by rw [mA_ne hj]; exact hB.2.1 j hj, fun x h1 h2 h3 => by rw [mA_at, upd_ne (by omega)]; exact hB.2.2.1 x h1 h2 h3, by rw [mA_at, upd_ne (by omega)]; exact hB.2.2.2.1, by rw [mA_at, upd_ne (by omega)]; exact hB.2.2.2.2⟩, fun q hq => ?_⟩
      rw [mA_at, upd_ne (by omega)]
      exact hpre q hq
  · unfold wp_X7_leaves_0
    have hll : (d.1 11).length = ws.length := by rw [h11, List.length_map]
    have h6 : m.2 1 6 = d.2 0 := hR.1.2.2.2.1
    have h7 : m.2 1 7 = d.2 1 := hR.1.2.2.2.2
    have h8 : m.2 1 8 = d.2 2 := hR.2.2.2.2.1
    have start : ∀ m1, baseP m m1 d r → (∀ q, q < ws.length → m1.2 1 (152 + q) = nI (gN ws q)) → wp_X7_leaves_101 (nI r) (fun m9 x29 x39 => ∃ w9 k, k ≤ ws.length ∧ x39 = nI k ∧ x29 = nI (offN (ws.take k) r).length ∧ w9 = ws.length - k + 1000 ∧ baseP m m9 d r ∧ (∀ q, q < (offN (ws.take k) r).length → m9.2 1 (152 + q) = nI (gN (offN (ws.take k) r) q)) ∧ (∀ q, k ≤ q → q < ws.length → m9.2 1 (152 + q) = nI (gN ws q))) (fun m9 x29 x39 => ∃ w9 k, (offN ws r).length ≤ k ∧ k ≤ ws.length ∧ x39 = nI k ∧ x29 = nI (offN ws r).length ∧ w9 = ws.length - k ∧ baseP m m9 d r ∧ (∀ q, q < (offN ws r).length → m9.2 1 (152 + q) = nI (gN (offN ws r) q))) K m1 := by
      intro m1 hB hq
      unfold wp_X7_leaves_101
      exact ⟨_, 0, by omega, rfl, rfl, rfl, hB, fun q hq => absurd hq (by simp [offN]), fun q _ h2 => hq q h2⟩
    refine q_isOnWay (d := d) (by rw [hll]; exact h5) h6 h8 ?_
    by_cases c : f_X0_isOnItsWay d = 0
    · rw [if_pos c]
      have eB : fBase d (nI r) = d := by unfold fBase; rw [if_pos c]
      exact start m ⟨rfl, fun _ _ => rfl, fun _ _ _ _ => rfl, by rw [eB]; exact h7, by rw [eB]; exact h8⟩ hrt
    · rw [if_neg c]
      have hpos : 0 < ws.length := by
        unfold f_X0_isOnItsWay rLen at c
        dsimp only [yl] at c
        rw [hll] at c
        refine Nat.pos_of_ne_zero (fun z => c ?_)
        rw [z, if_pos (by decide)]
      have hv := hw.2.1 0 hpos
      have e152 : m.2 1 (152 : Int32).toNatClampNeg = nI (gN ws 0) := hrt 0 hpos
      have eAt : rAt (d.1 11) (0 : Int32) = nI (gN ws 0) := by rw [show rAt (d.1 11) (0 : Int32) = gA (d.1 11) 0 from rAt_gA (i := 0) (by omega), h11, gA_map hpos]
      rw [e152, vis_half (by omega)]
      refine ⟨vp_in_nI (n := 152) (by omega) (by omega), ?_⟩
      by_cases c2 : gN ws 0 / 2 = r
      · rw [if_pos (by rw [c2])]
        have eB : fBase d (nI r) = f_X0_endAtFirst d := by
          unfold fBase
          rw [if_neg c, if_pos (by rw [eAt, vis_ride (by omega), c2])]
        obtain ⟨i0, hi0, e7⟩ := hb.2.2.2.2
        obtain ⟨j0, hj0, ej⟩ := sSt_at (d := d) (v := gN ws 0) hb.2.2.2.1 hv (by omega)
        have eE2 : (fBase d (nI r)).2 2 = (if d.2 2 + f_X0_minutes d (d.2 1) (sSt d (gN ws 0)) < d.2 0 then d.2 0 else d.2 2 + f_X0_minutes d (d.2 1) (sSt d (gN ws 0))) := by
          rw [eB]
          unfold sSt
          rw [← eAt]
          rfl
        have eE1 : (fBase d (nI r)).2 1 = sSt d (gN ws 0) := by
          rw [eB]
          unfold sSt
          rw [← eAt]
          rfl
        refine ⟨vp_in_nI (n := 8) (by omega) (by omega), vp_in_nI (n := 7) (by omega) (by omega), vp_in_nI (n := 152) (by omega) (by omega), ?_⟩
        refine q_stopOf (d := d) (n := n) (gN ws 0) (by omega) hv hR.1.2.2.1 rfl ?_
        show PO_X7_drive _ _ (sSt d (gN ws 0)) _
        refine q_drive (d := d) i0 j0 hi0 hj0 (h7.trans e7) ej hR.1.2.1 hb.2.1 ?_
        refine ⟨vp_in_nI (n := 6) (by omega) (by omega), ?_⟩
        rw [show m.2 1 (8 : Int32).toNatClampNeg = d.2 2 from h8, show m.2 1 (6 : Int32).toNatClampNeg = d.2 0 from h6]
        rw [e7, ej] at eE2
        have go : ∀ x, x = (fBase d (nI r)).2 2 → wp_X7_leaves_82 (nI r) (fun m9 x29 x39 => ∃ w9 k, k ≤ ws.length ∧ x39 = nI k ∧ x29 = nI (offN (ws.take k) r).length ∧ w9 = ws.length - k + 1000 ∧ baseP m m9 d r ∧ (∀ q, q < (offN (ws.take k) r).length → m9.2 1 (152 + q) = nI (gN (offN (ws.take k) r) q)) ∧ (∀ q, k ≤ q → q < ws.length → m9.2 1 (152 + q) = nI (gN ws q))) (fun m9 x29 x39 => ∃ w9 k, (offN ws r).length ≤ k ∧ k ≤ ws.length ∧ x39 = nI k ∧ x29 = nI (offN ws r).length ∧ w9 = ws.length - k ∧ baseP m m9 d r ∧ (∀ q, q < (offN ws r).length → m9.2 1 (152 + q) = nI (gN (offN ws r) q))) K (mA m 1 (8 : Int32).toNatClampNeg x) := by
          intro x hx
          have hu : ∀ y, y ≠ 8 → (mA m 1 (8 : Int32).toNatClampNeg x).2 1 y = m.2 1 y := by
            intro y hy
            rw [mA_at]
            exact upd_ne hy
          unfold wp_X7_leaves_82
          rw [show (mA m 1 (8 : Int32).toNatClampNeg x).2 1 (152 : Int32).toNatClampNeg = nI (gN ws 0) from (hu 152 (by omega)).trans e152]
          refine ⟨vp_in_nI (n := 152) (by omega) (by omega), ?_⟩
          refine q_stopOf (d := d) (n := n) (gN ws 0) (by omega) hv (fun q hq => by rw [hu _ (by omega), hu _ (by omega), hu _ (by omega), hu _ (by omega), hu _ (by omega), hu _ (by omega), hu _ (by omega)]; exact hR.1.2.2.1 q hq) rfl ?_
          refine ⟨vp_in_nI (n := 7) (by omega) (by omega), ?_⟩
          dsimp only [yl]
          have hu2 : ∀ y, y ≠ 7 → (mA (mA m 1 (8 : Int32).toNatClampNeg x) 1 (7 : Int32).toNatClampNeg (f_X0_stopOf d (nI (gN ws 0)))).2 1 y = (mA m 1 (8 : Int32).toNatClampNeg x).2 1 y := by
            intro y hy
            rw [mA_at]
            exact upd_ne hy
          refine start _ ⟨rfl, fun j hj => by rw [mA_ne hj, mA_ne hj], fun y _ h1 h2 => by rw [hu2 y h1, hu y h2], ?_, ?_⟩ (fun q hq => by rw [hu2 _ (by omega), hu _ (by omega)]; exact hrt q hq)
          · rw [eE1, mA_at]
            exact upd_at _ _ _
          · rw [hu2 8 (by omega), mA_at, ← hx]
            exact upd_at _ _ _
        by_cases c3 : d.2 2 + f_X0_minutes d (nI i0) (nI j0) ≤ d.2 0
        · rw [if_pos c3]
          refine ⟨vp_in_nI (n := 6) (by omega) (by omega), vp_in_nI (n := 8) (by omega) (by omega), ?_⟩
          dsimp only [yl]
          refine go _ ?_
          rw [eE2]
          by_cases c4 : d.2 2 + f_X0_minutes d (nI i0) (nI j0) < d.2 0
          · rw [if_pos c4]
          · rw [if_neg c4]
            exact Int32.le_antisymm (Int32.not_lt.mp c4) c3
        · rw [if_neg c3]
          refine ⟨vp_in_nI (n := 8) (by omega) (by omega), ?_⟩
          dsimp only [yl]
          refine go _ ?_
          rw [eE2, if_neg (fun z => c3 (Int32.le_of_lt z))]
      · rw [if_neg (fun z => c2 ((nI_eq (by omega) (by omega)).mp z))]
        have eB : fBase d (nI r) = d := by
          unfold fBase
          rw [if_neg c, if_neg (by rw [eAt, vis_ride (by omega)]; exact fun z => c2 ((nI_eq (by omega) (by omega)).mp z))]
        exact start m ⟨rfl, fun _ _ => rfl, fun _ _ _ _ => rfl, by rw [eB]; exact h7, by rw [eB]; exact h8⟩ hrt
