/-! ===== undo, save, restore ===== -/
theorem gV_last {xs : List RV} {d : RV} (h : 0 < xs.length) : gV xs (xs.length - 1) = (xs.getLast?).getD d := by
  unfold gV
  rw [List.getD_eq_getElem?_getD, List.getLast?_eq_getElem?, List.getElem?_eq_getElem (by omega)]
  rfl
theorem gV_dropLast {xs : List RV} {k : Nat} (h : k < xs.length - 1) : gV xs.dropLast k = gV xs k := by
  unfold gV
  rw [List.getD_eq_getElem?_getD, List.getD_eq_getElem?_getD, List.getElem?_dropLast, if_pos h]
theorem zz_undo {m : MV} {d p : RV} {xs : List RV} {a0 a1 : Option RV} {K : Int32 → MV → Prop} {T : Int32 × RV × List RV} (hT : fUndo d xs = T) (hM : modR m d p xs a0 a1) (hK : ∀ m', modR m' T.2.1 p T.2.2 a0 a1 → K T.1 m') : PO_X7_undo K m := by
  obtain ⟨hS, ⟨hl6, h4, hrow⟩, hslt, hpad⟩ := id hM
  unfold fUndo at hT
  refine ⟨fun w m' x1 => ∃ k, k ≤ 186 ∧ x1 = nI k ∧ w = 186 - k ∧ 0 < xs.length ∧ m'.1 4 = nI (xs.length - 1) ∧ m'.1 8 = m.1 8 ∧ (∀ j, j ≠ 1 → m'.2 j = m.2 j) ∧ (∀ x, x < k → m'.2 1 x = m.2 3 (186 * (xs.length - 1) + x)), ?_, ?_⟩
  · rintro w m' x1 ⟨k, hk, rfl, rfl, hpos, e4, e8, e2, e1⟩
    unfold wp_X7_undo_27
    by_cases c : 186 ≤ k
    · rw [if_pos (show (186 : Int32) ≤ nI k from (nI_leI (a := 186) (by omega) (by omega)).mpr c)]
      rw [if_neg (by omega)] at hT
      subst hT
      have hl : xs.dropLast.length = xs.length - 1 := List.length_dropLast
      have h := hK m' ⟨?_, ⟨by show xs.dropLast.length ≤ 6; omega, by show _ = nI xs.dropLast.length; rw [hl]; exact e4, ?_⟩, ?_, ?_⟩
      · have h' : K (nI xs.dropLast.length) m' := h
        rw [hl, ← e4] at h'
        exact h'
      · show dayS _ ((xs.getLast?).getD d)
        rw [← gV_last hpos]
        exact dayS_congr (fun x hx => e1 x (by omega)) (hrow (xs.length - 1) (by omega))
      · intro q hq
        have hq' : q < xs.dropLast.length := hq
        show dayS _ (gV xs.dropLast q)
        rw [gV_dropLast (by omega), e2 3 (by omega)]
        exact hrow q (by omega)
      · unfold sltR
        rw [e2 5 (by omega), e2 6 (by omega)]
        exact hslt
      · unfold padS
        rw [e2 7 (by omega), e8]
        exact hpad
    · rw [if_neg (fun (z : (186 : Int32) ≤ nI k) => c ((nI_leI (a := 186) (by omega) (by omega)).mp z))]
      rw [e4, n186, nI_clamp (by omega), nI_clamp (by omega)]
      refine ⟨vp_in_nI (by omega) (by omega), vp_in_nI (by omega) (by omega), ?_⟩
      dsimp only [yl]
      refine ⟨_, by omega, k + 1, by omega, nI_1 k, rfl, hpos, e4, e8, fun j hj => by rw [mA_ne hj]; exact e2 j hj, fun x hx => ?_⟩
      rw [mA_at]
      by_cases cx : x = k
      · rw [cx, upd_at, e2 3 (by omega)]
      · rw [upd_ne cx]; exact e1 x (by omega)
  · unfold wp_X7_undo_0
    dsimp only [yl]
    rw [show (mI m 0 0).1 4 = nI xs.length from h4]
    by_cases c : xs.length = 0
    · rw [if_pos ((nI0_iff (by omega)).mpr c)]
      rw [if_pos c] at hT
      subst hT
      exact hK _ (modR_oth hM ⟨rfl, rfl, rfl, rfl, rfl, rfl, rfl, rfl⟩ hS)
    · rw [if_neg (fun z => c ((nI0_iff (by omega)).mp z))]
      refine ⟨_, 0, by omega, rfl, rfl, by omega, ?_, rfl, fun _ _ => rfl, fun x hx => absurd hx (Nat.not_lt_zero x)⟩
      rw [mI_at]
      obtain ⟨q, hq⟩ : ∃ q, xs.length = q + 1 := ⟨xs.length - 1, by omega⟩
      rw [hq, nI_pred]
      rfl
theorem in01 {sl : Int32} (h : f_X7_in sl 0 1 ≠ 0) : sl = 0 ∨ sl = 1 := by
  rcases in_cases sl 0 1 (by omega) (by omega) with ⟨e, -⟩ | ⟨-, w, -, hw, e⟩
  · exact absurd e h
  · rcases (show w = 0 ∨ w = 1 by omega) with q | q <;> subst q
    · exact Or.inl e
    · exact Or.inr e
theorem in01_not {sl : Int32} (h : f_X7_in sl 0 1 = 0) : sl ≠ 0 ∧ sl ≠ 1 := by
  refine ⟨fun e => ?_, fun e => ?_⟩
  · subst e; exact absurd h (by decide)
  · subst e; exact absurd h (by decide)
theorem zz_save {m : MV} {d p : RV} {xs : List RV} {a0 a1 : Option RV} {sl : Int32} {K : Int32 → MV → Prop} {T : Int32 × Option RV × Option RV} (hT : fSave a0 a1 d sl = T) (hM : modR m d p xs a0 a1) (hK : ∀ m', modR m' d p xs T.2.1 T.2.2 → K T.1 m') : PO_X7_save sl K m := by
  obtain ⟨hS, hH, hslt, hpad⟩ := id hM
  obtain ⟨n, ws, hd, hR⟩ := id hS
  have l8 := dayOk_l8 hd
  have h4 := dayOk_s4 hd hR
  unfold fSave at hT
  refine ⟨fun w m' x2 => ∃ k i, k ≤ 186 ∧ i < 2 ∧ sl = nI i ∧ x2 = nI k ∧ w = 186 - k ∧ m'.1 4 = m.1 4 ∧ m'.1 8 = m.1 8 ∧ (∀ j, j ≠ 5 → m'.2 j = m.2 j) ∧ (∀ x, x < k → m'.2 5 (186 * i + x) = m.2 1 x) ∧ (∀ x, (x < 186 * i ∨ 186 * i + 186 ≤ x) → m'.2 5 x = m.2 5 x), ?_, ?_⟩
  · rintro w m' x2 ⟨k, i, hk, hi, rfl, rfl, rfl, e4, e8, e2, e1, e0⟩
    unfold wp_X7_save_19
    by_cases c : 186 ≤ k
    · rw [if_pos (show (186 : Int32) ≤ nI k from (nI_leI (a := 186) (by omega) (by omega)).mpr c)]
      refine ⟨vp_in_nI (by omega) (by omega), ?_⟩
      dsimp only [yl]
      rw [nI_clamp (by omega)]
      refine ⟨vp_in_nI (n := 4) (by omega) (by omega), ?_⟩
      obtain ⟨m2, em2⟩ : ∃ z, z = mA m' 6 i (vp_nar .boolean 1) := ⟨_, rfl⟩
      rw [← em2]
      have g1 : m2.2 1 = m.2 1 := by rw [em2, mA_ne (by omega)]; exact e2 1 (by omega)
      have g5 : m2.2 5 = m'.2 5 := by rw [em2, mA_ne (by omega)]
      have ga : m2.2 1 (4 : Int32).toNatClampNeg = rLen (d.1 8) := by rw [g1]; unfold rLen; rw [l8]; exact h4
      rw [ga]
      have hpad' : padS m2 p := by
        unfold padS
        rw [em2, mA_ne (by omega), e2 7 (by omega), show (mA m' 6 i (vp_nar .boolean 1)).1 8 = m.1 8 from e8]
        exact hpad
      have hH' : hisR m2 xs := by
        refine ⟨hH.1, by rw [em2]; exact e4.trans hH.2.1, ?_⟩
        rw [em2, mA_ne (by omega), e2 3 (by omega)]
        exact hH.2.2
      have hS' : dayS (m2.2 1) d := by rw [g1]; exact hS
      have hnew : dayS (fun x => m2.2 5 (186 * i + x)) d := dayS_congr (fun x hx => by show m2.2 5 _ = _; rw [g5]; exact e1 x (by omega)) hS
      have g6 : ∀ q, m2.2 6 q = if q = i then 1 else m.2 6 q := by
        intro q
        rw [em2, mA_at, e2 6 (by omega)]
        unfold upd
        rfl
      rcases (show i = 0 ∨ i = 1 by omega) with q | q
      · subst q
        rw [if_pos (show nI 0 = 0 from rfl)] at hT
        subst hT
        refine hK m2 ⟨hS', hH', ⟨⟨by rw [g6, if_pos rfl]; rfl, ?_⟩, ⟨by rw [g6, if_neg (by omega)]; exact hslt.2.1, ?_⟩⟩, hpad'⟩
        · intro e he
          have he' : some d = some e := he
          cases he'
          exact dayS_congr (fun x hx => by show m2.2 5 x = m2.2 5 (186 * 0 + x); rw [Nat.mul_zero, Nat.zero_add]) hnew
        · intro e he
          exact dayS_congr (fun x hx => by show m2.2 5 (186 + x) = m.2 5 (186 + x); rw [g5]; exact e0 _ (by omega)) (hslt.2.2 e he)
      · subst q
        rw [if_neg (show ¬ nI 1 = 0 by decide), if_pos (show nI 1 = 1 from rfl)] at hT
        subst hT
        refine hK m2 ⟨hS', hH', ⟨⟨by rw [g6, if_neg (by omega)]; exact hslt.1.1, ?_⟩, ⟨by rw [g6, if_pos rfl]; rfl, ?_⟩⟩, hpad'⟩
        · intro e he
          exact dayS_congr (fun x hx => by show m2.2 5 x = m.2 5 x; rw [g5]; exact e0 _ (by omega)) (hslt.1.2 e he)
        · intro e he
          have he' : some d = some e := he
          cases he'
          exact dayS_congr (fun x hx => by show m2.2 5 (186 + x) = m2.2 5 (186 * 1 + x); rw [Nat.mul_one]) hnew
    · rw [if_neg (fun (z : (186 : Int32) ≤ nI k) => c ((nI_leI (a := 186) (by omega) (by omega)).mp z))]
      rw [n186, nI_clamp (by omega), nI_clamp (by omega)]
      refine ⟨vp_in_nI (by omega) (by omega), vp_in_nI (by omega) (by omega), ?_⟩
      dsimp only [yl]
      refine ⟨_, by omega, k + 1, i, by omega, hi, rfl, nI_1 k, rfl, e4, e8, fun j hj => by rw [mA_ne hj]; exact e2 j hj, fun x hx => ?_, fun x hx => ?_⟩
      · rw [mA_at]
        by_cases cx : x = k
        · rw [cx, upd_at, e2 1 (by omega)]
        · rw [upd_ne (by omega)]; exact e1 x (by omega)
      · rw [mA_at, upd_ne (by omega)]
        exact e0 x hx
  · unfold wp_X7_save_0
    dsimp only [yl]
    by_cases c : f_X7_in sl 0 1 = 0
    · rw [if_pos c]
      obtain ⟨n0, n1⟩ := in01_not c
      rw [if_neg n0, if_neg n1] at hT
      subst hT
      exact hK _ (modR_oth hM ⟨rfl, rfl, rfl, rfl, rfl, rfl, rfl, rfl⟩ hS)
    · rw [if_neg c]
      rcases in01 c with e | e
      · exact ⟨_, 0, 0, by omega, by omega, e, rfl, rfl, rfl, rfl, fun _ _ => rfl, fun x hx => absurd hx (Nat.not_lt_zero x), fun _ _ => rfl⟩
      · exact ⟨_, 0, 1, by omega, by omega, e, rfl, rfl, rfl, rfl, fun _ _ => rfl, fun x hx => absurd hx (Nat.not_lt_zero x), fun _ _ => rfl⟩
theorem restore_one {m m' : MV} {d p e : RV} {xs : List RV} {a0 a1 : Option RV} (hM : modR m d p xs a0 a1) (h4 : m'.1 4 = m.1 4) (h8 : m'.1 8 = m.1 8) (h2 : ∀ j, j ≠ 1 → m'.2 j = m.2 j) (he : dayS (m'.2 1) e) : modR m' e p xs a0 a1 := by
  obtain ⟨-, hH, hslt, hpad⟩ := hM
  refine ⟨he, ⟨hH.1, by rw [h4]; exact hH.2.1, by rw [h2 3 (by omega)]; exact hH.2.2⟩, ?_, ?_⟩
  · unfold sltR
    rw [h2 5 (by omega), h2 6 (by omega)]
    exact hslt
  · unfold padS
    rw [h2 7 (by omega), h8]
    exact hpad
theorem zz_restore {m : MV} {d p : RV} {xs : List RV} {a0 a1 : Option RV} {sl : Int32} {K : Int32 → MV → Prop} {T : Int32 × RV × List RV} (hT : fRestore a0 a1 d xs sl = T) (hM : modR m d p xs a0 a1) (hK : ∀ m', modR m' T.2.1 p T.2.2 a0 a1 → K T.1 m') : PO_X7_restore sl K m := by
  obtain ⟨hS, hH, hslt, hpad⟩ := id hM
  unfold fRestore at hT
  refine ⟨fun w m' x2 => ∃ k i e m1, k ≤ 186 ∧ i < 2 ∧ sl = nI i ∧ x2 = nI k ∧ w = 186 - k ∧ modR m1 d p (fHist xs d) a0 a1 ∧ dayS (fun x => m1.2 5 (186 * i + x)) e ∧ T = (rLen (e.1 8), e, fHist xs d) ∧ m'.1 4 = m1.1 4 ∧ m'.1 8 = m1.1 8 ∧ (∀ j, j ≠ 1 → m'.2 j = m1.2 j) ∧ (∀ x, x < k → m'.2 1 x = m1.2 5 (186 * i + x)), ?_, ?_⟩
  · rintro w m' x2 ⟨k, i, e, m1, hk, hi, rfl, rfl, rfl, hM1, hE, hTe, e4, e8, e2, e1⟩
    unfold wp_X7_restore_35
    by_cases c : 186 ≤ k
    · rw [if_pos (show (186 : Int32) ≤ nI k from (nI_leI (a := 186) (by omega) (by omega)).mpr c)]
      refine ⟨vp_in_nI (n := 4) (by omega) (by omega), ?_⟩
      have hE' : dayS (m'.2 1) e := dayS_congr (fun x hx => e1 x (by omega)) hE
      obtain ⟨n, ws, hd, hR⟩ := id hE'
      have ga : m'.2 1 (4 : Int32).toNatClampNeg = rLen (e.1 8) := by unfold rLen; rw [dayOk_l8 hd]; exact dayOk_s4 hd hR
      rw [ga]
      rw [hTe] at hK
      exact hK m' (restore_one hM1 e4 e8 e2 hE')
    · rw [if_neg (fun (z : (186 : Int32) ≤ nI k) => c ((nI_leI (a := 186) (by omega) (by omega)).mp z))]
      rw [n186, nI_clamp (by omega), nI_clamp (by omega)]
      refine ⟨vp_in_nI (by omega) (by omega), vp_in_nI (by omega) (by omega), ?_⟩
      dsimp only [yl]
      refine ⟨_, by omega, k + 1, i, e, m1, by omega, hi, rfl, nI_1 k, rfl, hM1, hE, hTe, e4, e8, fun j hj => by rw [mA_ne hj]; exact e2 j hj, fun x hx => ?_⟩
      rw [mA_at]
      by_cases cx : x = k
      · rw [cx, upd_at, e2 5 (by omega)]
      · rw [upd_ne cx]; exact e1 x (by omega)
  · unfold wp_X7_restore_0
    dsimp only [yl]
    have hM0 : modR (mI m 0 0) d p xs a0 a1 := modR_oth hM ⟨rfl, rfl, rfl, rfl, rfl, rfl, rfl, rfl⟩ hS
    by_cases c : f_X7_in sl 0 1 = 0
    · rw [if_pos c]
      obtain ⟨n0, n1⟩ := in01_not c
      rw [if_neg n0, if_neg n1] at hT
      subst hT
      exact hK _ hM0
    · rw [if_neg c]
      have main : ∀ (i : Nat) (a : Option RV), i < 2 → sl = nI i → m.2 6 i = (if a.isSome then 1 else 0) → (∀ e, a = some e → dayS (fun x => m.2 5 (186 * i + x)) e) → fRest1 a d xs = T → (vp_in sl 2 ∧ (if ((mI m 0 0).2 6) sl.toNatClampNeg = 0 then (K (-5 : Int32) (mI m 0 0)) else (PO_X7_records (fun (m4 : MV) => ∃ w9 k i e m1, k ≤ 186 ∧ i < 2 ∧ sl = nI i ∧ (0 : Int32) = nI k ∧ w9 = 186 - k ∧ modR m1 d p (fHist xs d) a0 a1 ∧ dayS (fun x => m1.2 5 (186 * i + x)) e ∧ T = (rLen (e.1 8), e, fHist xs d) ∧ m4.1 4 = m1.1 4 ∧ m4.1 8 = m1.1 8 ∧ (∀ j, j ≠ 1 → m4.2 j = m1.2 j) ∧ (∀ x, x < k → m4.2 1 x = m1.2 5 (186 * i + x))) (mI m 0 0)))) := by
        intro i a hi e h6 hd5 hT
        subst e
        refine ⟨vp_in_nI (by omega) (by omega), ?_⟩
        rw [nI_clamp (by omega), show (mI m 0 0).2 6 i = m.2 6 i from rfl, h6]
        cases a with
        | none =>
          rw [if_pos (show (if (none : Option RV).isSome = true then (1 : Int32) else 0) = 0 from rfl)]
          subst hT
          exact hK _ hM0
        | some e =>
          rw [if_neg (show ¬ (if (some e : Option RV).isSome = true then (1 : Int32) else 0) = 0 from fun z => absurd (show (1 : Int32) = 0 from z) (by decide))]
          refine q_records hM0.1 hM0.2.1 ?_
          intro m1 hr
          have e5 : m1.2 5 = m.2 5 := hr.2.1 5 (by omega)
          exact ⟨_, 0, i, e, m1, by omega, hi, rfl, rfl, rfl, modR_rec hM0 hr, by rw [e5]; exact hd5 e rfl, hT.symm, rfl, rfl, fun _ _ => rfl, fun x hx => absurd hx (Nat.not_lt_zero x)⟩
      rcases in01 c with e | e
      · rw [if_pos e] at hT
        refine main 0 a0 (by omega) e hslt.1.1 (fun e9 he9 => dayS_congr (fun x hx => by show m.2 5 (186 * 0 + x) = m.2 5 x; rw [Nat.mul_zero, Nat.zero_add]) (hslt.1.2 e9 he9)) hT
      · rw [if_neg (by rw [e]; decide), if_pos e] at hT
        refine main 1 a1 (by omega) e hslt.2.1 (fun e9 he9 => dayS_congr (fun x hx => by show m.2 5 (186 * 1 + x) = m.2 5 (186 + x); rw [Nat.mul_one]) (hslt.2.2 e9 he9)) hT
