theorem TK_step {d : RV} {ws : List Nat} {n k : Nat} (hn : n ≤ 17) (hw : wsOk ws n) (hk : k < ws.length) : stepOk d (TK d ws k) (gN ws k) (TK d ws (k + 1)) := step_ok (by have := hw.2.1 k hk; omega)
/-- behind the telling whether all is kept -/
theorem drives_248 {m m1 : MV} {d : RV} {ws : List Nat} {n k : Nat} {fre x4 x5 x7 : Int32} {X44 : MV → Int32 → Int32 → Int32 → Int32 → Prop} {K : MV → Prop} (hn : n ≤ 17) (hw : wsOk ws n) (hk : k < ws.length) (hS : setR (m.2 1) d) (h4 : x4 = sAb (TK d ws k) (gN ws k)) (h5 : x5 = nI k) (h7 : x7 = sSt d (gN ws k)) (hI : drvI m m1 d ws (k + 1)) (hX : ∀ m' x2 x3 x4, drvI m m' d ws (k + 1) → x2 = (TK d ws (k + 1)).2 0 → x3 = (TK d ws (k + 1)).2 1 → x4 = (TK d ws (k + 1)).2 2 → X44 m' x2 x3 x4 (nI (k + 1))) : wp_X7_drives_248 fre X44 K m1 x4 x5 x7 := by
  subst h4 h5 h7
  obtain ⟨s0, s1, s2, -⟩ := TK_step (d := d) hn hw hk
  have h11 := (hI.2.2.1 k (by omega)).1
  have hl := hw.1
  unfold wp_X7_drives_248
  rw [nI_clamp (by omega), h11, show m1.2 1 = m.2 1 from hI.1.2 1 (by omega) (by omega) (by omega), nI_1]
  rw [show m.2 1 (2 : Int32).toNatClampNeg = gA (d.1 0) 2 from hS.2.2]
  exact ⟨vp_in_nI (by omega) (by omega), vp_in_nI (n := 2) (by omega) (by omega), hX _ _ _ _ hI s0.symm s1.symm s2.symm⟩
/-- what holds ahead of the telling whether all is kept: all but that -/
def preK (m m1 : MV) (d : RV) (ws : List Nat) (k : Nat) : Prop := frM m m1 ∧ m1.1 14 = (TK d ws (k + 1)).2 3 ∧ arrOk m1 d ws k ∧ keptR m1 d ws k
theorem ab_down {d : RV} {ws : List Nat} {n k : Nat} (hF : tabF d ws n k) (hk : k < 100) (hb : bdS d) (h : ¬ gA (d.1 0) 0 < (TK d ws k).2 2) : ¬ gA (d.1 0) 0 < (TK d ws k).2 2 + (-1) := by
  obtain ⟨-, -, -, -, -, -, -, -, fe, -⟩ := hF
  have h1 := (bd_add (y := -1) (c := -1) (e := -1) fe ⟨by rw [t32_m1]; omega, by rw [t32_m1]; omega⟩ (by omega) (by omega)).2
  rw [fa_lt] at h ⊢
  rw [h1, t32_m1]
  omega
/-- from 184 on -/
theorem drives_184 {m m1 : MV} {d : RV} {ws : List Nat} {n k : Nat} {fre x4 x5 x6 x7 : Int32} {X44 : MV → Int32 → Int32 → Int32 → Int32 → Prop} {K : MV → Prop} (hn : n ≤ 17) (hw : wsOk ws n) (hk : k < ws.length) (hb : bdD d n) (hD : relD (m.2 1) d n) (hway : wayR m ws) (hF : tabF d ws n k) (hbt : ∀ j, j < ws.length → bd (sTime d (TK d ws j) (gN ws j)) 0 30000) (h4 : x4 = sAb (TK d ws k) (gN ws k)) (h5 : x5 = nI k) (h6 : x6 = nI (gN ws k / 2)) (h7 : x7 = sSt d (gN ws k)) (hI : preK m m1 d ws k) (h11 : m1.2 11 k = sTime d (TK d ws k) (gN ws k)) (h12 : m1.2 12 k = sTime d (TK d ws k) (gN ws k) - sCome d (TK d ws k) (gN ws k)) (hX : ∀ m' x2 x3 x4, drvI m m' d ws (k + 1) → x2 = (TK d ws (k + 1)).2 0 → x3 = (TK d ws (k + 1)).2 1 → x4 = (TK d ws (k + 1)).2 2 → X44 m' x2 x3 x4 (nI (k + 1))) : wp_X7_drives_184 fre X44 K m1 x4 x5 x6 x7 := by
  obtain ⟨hfr, h14, harr, hkp1, hkp2⟩ := hI
  have hl := hw.1
  have hv := hw.2.1 k hk
  unfold wp_X7_drives_184
  rw [h5, nI_clamp (by omega)]
  refine ⟨vp_in_nI (by omega) (by omega), ?_⟩
  dsimp only [yl]
  obtain ⟨m2, e2⟩ : ∃ z, z = mA m1 13 k x4 := ⟨_, rfl⟩
  rw [← e2]
  have f2 : frM m m2 := by rw [e2]; exact frM_A hfr (by omega)
  have i14 : m2.1 14 = (TK d ws (k + 1)).2 3 := by rw [e2]; exact h14
  have i16 : m2.1 16 = m1.1 16 := by rw [e2]; rfl
  have a2 : arrOk m2 d ws (k + 1) := by
    intro j hj
    by_cases c : j = k
    · rw [c, e2, mA_ne (by omega), mA_ne (by omega), mA_at, upd_at]
      exact ⟨h11, h12, h4⟩
    · rw [e2]
      exact arr_upd harr j (by omega)
  -- the end, kept or not
  have fin : ∀ b : Int32, (b = 1 ∨ b = 0) → (¬ gA (d.1 0) 0 < (TK d ws 0).2 2 → (b = 1 ↔ ∀ j, j < k + 1 → flagK d ws j ≠ 0) ∧ ((∀ j, j < k + 1 → flagK d ws j ≠ 0) → ¬ gA (d.1 0) 0 < (TK d ws (k + 1)).2 2)) → wp_X7_drives_248 fre X44 K (mI m2 16 b) x4 (nI k) x7 := by
    intro b hb1 hb2
    refine drives_248 (m := m) hn hw hk hD.1 h4 rfl h7 ⟨frM_I f2 (by omega), by rw [mI_ne (by omega)]; exact i14, a2, ?_⟩ hX
    unfold keptR
    rw [mI_at]
    exact ⟨hb1, hb2⟩
  obtain ⟨-, -, s2, -⟩ := TK_step (d := d) hn hw hk
  have hup : ∀ Pf : Prop, (flagK d ws k ≠ 0 ↔ Pf) → ((∀ j, j < k + 1 → flagK d ws j ≠ 0) ↔ (∀ j, j < k → flagK d ws j ≠ 0) ∧ Pf) := by
    intro Pf hp
    constructor
    · intro h
      exact ⟨fun j hj => h j (by omega), hp.mp (h k (by omega))⟩
    · rintro ⟨h1, h2⟩ j hj
      by_cases c : j = k
      · rw [c]; exact hp.mpr h2
      · exact h1 j (by omega)
  rw [i16]
  rcases hkp1 with hk1 | hk0
  · rw [hk1, if_neg (by decide)]
    refine ⟨vp_in_nI (n := 0) (by omega) (by omega), ?_⟩
    rw [show m2.2 1 (0 : Int32).toNatClampNeg = gA (d.1 0) 0 from (congrFun (f2.2 1 (by omega) (by omega) (by omega)) 0).trans hD.1.1]
    rw [f2.2 9 (by omega) (by omega) (by omega), hway.2.2 k hk, vis_mod (by omega)]
    rw [hk1] at hkp2
    by_cases ev : gN ws k % 2 = 0
    · have hfl : flagK d ws k ≠ 0 ↔ ¬ gA (d.1 0) 0 < x4 := by
        have h1 : flagK d ws k = _ := step_flag0 (d := d) (t := TK d ws k) (v := gN ws k) (by omega) ev
        rw [h1, h4]
        unfold sAb
        rw [if_pos ev]
        by_cases c : gA (d.1 0) 0 < (TK d ws k).2 2 + 1
        · rw [if_pos c]; exact ⟨fun z => absurd rfl z, fun z => absurd c z⟩
        · rw [if_neg c]; exact ⟨fun _ => c, fun _ => by decide⟩
      by_cases c : gA (d.1 0) 0 < x4
      · rw [if_pos c]
        refine fin 0 (Or.inr rfl) (fun h0 => ?_)
        rw [hup _ hfl]
        exact ⟨⟨fun z => absurd z (by decide), fun z => absurd c z.2⟩, fun z => absurd c z.2⟩
      · rw [if_neg c, if_pos ((nI0_iff (by omega)).mpr ev)]
        refine ⟨vp_in_nI (by omega) (by omega), fin 1 (Or.inl rfl) (fun h0 => ?_)⟩
        rw [hup _ hfl]
        refine ⟨⟨fun _ => ⟨(hkp2 h0).1.mp rfl, c⟩, fun _ => rfl⟩, fun _ => ?_⟩
        rw [s2, ← h4]
        exact c
    · have hab : x4 = (TK d ws k).2 2 + (-1) := by rw [h4]; unfold sAb; rw [if_neg ev]
      by_cases c : gA (d.1 0) 0 < x4
      · rw [if_pos c]
        refine fin 0 (Or.inr rfl) (fun h0 => ?_)
        have hno : ¬ ∀ j, j < k → flagK d ws j ≠ 0 := fun z => ab_down hF (by omega) hb.1 ((hkp2 h0).2 z) (by rw [← hab]; exact c)
        exact ⟨⟨fun z => absurd z (by decide), fun z => absurd (fun j hj => z j (by omega)) hno⟩, fun z => absurd (fun j hj => z j (by omega)) hno⟩
      · rw [if_neg c, if_neg (fun z => ev ((nI0_iff (by omega)).mp z))]
        refine ⟨vp_in_nI (by omega) (by omega), vp_in_nI (by omega) (by omega), ?_⟩
        have h11' : m2.2 11 k = sTime d (TK d ws k) (gN ws k) := (a2 k (by omega)).1
        rw [h11', h6]
        have hvk : gN ws k = 2 * (gN ws k / 2) + 1 := by omega
        have e1 : m2.2 1 = m.2 1 := f2.2 1 (by omega) (by omega) (by omega)
        refine q_isInTime (d := d) (ws := ws) (n := n) k (gN ws k / 2) hn hw hk hvk ⟨by rw [f2.1 10 (by omega) (by omega) (by omega)]; exact hway.1, hway.2.1, fun j hj => by rw [f2.2 9 (by omega) (by omega) (by omega)]; exact hway.2.2 j hj⟩ (by rw [e1]; exact hD) hb hF (fun j hj => (a2 j (by omega)).1) (fun j hj => hbt j (by omega)) (bd_wide (hbt k hk) (by omega) (by omega)) rfl ?_
        have htm : sTime d (TK d ws k) (gN ws k) = sCome d (TK d ws k) (gN ws k) := by unfold sTime; rw [if_neg ev]
        have hfl : flagK d ws k = _ := step_flag1 (d := d) (t := TK d ws k) (v := gN ws k) (by omega) ev
        rw [htm, ← hvk, ← hfl]
        have hup2 := hup _ Iff.rfl
        by_cases cf : flagK d ws k = 0
        · rw [if_pos cf]
          refine fin 0 (Or.inr rfl) (fun h0 => ?_)
          rw [hup2]
          exact ⟨⟨fun z => absurd z (by decide), fun z => absurd cf z.2⟩, fun z => absurd cf z.2⟩
        · rw [if_neg cf]
          refine fin 1 (Or.inl rfl) (fun h0 => ?_)
          rw [hup2]
          refine ⟨⟨fun _ => ⟨(hkp2 h0).1.mp rfl, cf⟩, fun _ => rfl⟩, fun _ => ?_⟩
          rw [s2, ← h4]
          exact c
  · rw [hk0, if_pos rfl]
    refine fin 0 (Or.inr rfl) (fun h0 => ?_)
    rw [hk0] at hkp2
    have hno : ¬ ∀ j, j < k → flagK d ws j ≠ 0 := fun z => absurd ((hkp2 h0).1.mpr z) (by decide)
    exact ⟨⟨fun z => absurd z (by decide), fun z => absurd (fun j hj => z j (by omega)) hno⟩, fun z => absurd (fun j hj => z j (by omega)) hno⟩
