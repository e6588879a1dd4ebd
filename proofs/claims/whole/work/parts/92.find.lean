/-! ===== the search for the best way ===== -/
theorem q_isOnWay {m : MV} {d : RV} {K : Int32 → Prop} (h5 : m.2 1 5 = nI (d.1 11).length) (h6 : m.2 1 6 = d.2 0) (h8 : m.2 1 8 = d.2 2) (hK : K (f_X0_isOnItsWay d)) : PO_X7_isOnWay m K := by
  unfold PO_X7_isOnWay wp_X7_isOnWay_0
  rw [show m.2 1 (5 : Int32).toNatClampNeg = nI (d.1 11).length from h5, show m.2 1 (6 : Int32).toNatClampNeg = d.2 0 from h6, show m.2 1 (8 : Int32).toNatClampNeg = d.2 2 from h8]
  refine ⟨vp_in_nI (n := 5) (by omega) (by omega), ?_⟩
  unfold f_X0_isOnItsWay rLen at hK
  dsimp only [yl] at hK
  by_cases c : nI (d.1 11).length ≤ 0
  · rw [if_pos c] at hK ⊢
    exact hK
  · rw [if_neg c] at hK ⊢
    refine ⟨vp_in_nI (n := 6) (by omega) (by omega), vp_in_nI (n := 8) (by omega) (by omega), ?_⟩
    by_cases c2 : d.2 0 ≤ d.2 2
    · rw [if_pos c2] at hK ⊢
      exact hK
    · rw [if_neg c2] at hK ⊢
      exact hK
theorem q_leaving {m : MV} {d : RV} {K : Int32 → Prop} (hl : (d.1 11).length < 1000) (h5 : m.2 1 5 = nI (d.1 11).length) (h6 : m.2 1 6 = d.2 0) (h8 : m.2 1 8 = d.2 2) (hK : K (leaveT d)) : PO_X7_leaving m K := by
  unfold PO_X7_leaving wp_X7_leaving_0
  rw [show m.2 1 (5 : Int32).toNatClampNeg = nI (d.1 11).length from h5, show m.2 1 (6 : Int32).toNatClampNeg = d.2 0 from h6, show m.2 1 (8 : Int32).toNatClampNeg = d.2 2 from h8]
  refine ⟨vp_in_nI (n := 5) (by omega) (by omega), ?_⟩
  unfold leaveT at hK
  by_cases c : (d.1 11).length = 0
  · rw [if_pos c] at hK
    rw [if_pos ((nI0_iff (by omega)).mpr c)]
    refine ⟨vp_in_nI (n := 6) (by omega) (by omega), vp_in_nI (n := 8) (by omega) (by omega), ?_⟩
    by_cases c2 : d.2 0 ≤ d.2 2
    · rw [if_neg (Int32.not_lt.mpr c2)] at hK
      rw [if_pos c2]
      exact ⟨vp_in_nI (n := 8) (by omega) (by omega), hK⟩
    · rw [if_pos (Int32.not_le.mp c2)] at hK
      rw [if_neg c2]
      exact ⟨vp_in_nI (n := 6) (by omega) (by omega), hK⟩
  · rw [if_neg c] at hK
    rw [if_neg (fun z => c ((nI0_iff (by omega)).mp z))]
    exact ⟨vp_in_nI (n := 8) (by omega) (by omega), hK⟩
/-- what a search may write besides -/
def scr2 (m m' : MV) : Prop := (∀ j, j ≠ 0 → j ≠ 10 → (j < 14 ∨ 21 < j) → m'.1 j = m.1 j) ∧ (∀ j, j ≠ 9 → j ≠ 11 → j ≠ 12 → j ≠ 13 → m'.2 j = m.2 j)
theorem scr2_refl (m : MV) : scr2 m m := ⟨fun _ _ _ _ => rfl, fun _ _ _ _ _ => rfl⟩
theorem scr2_trans {a b c : MV} (h : scr2 a b) (h2 : scr2 b c) : scr2 a c := ⟨fun j h0 h1 h3 => (h2.1 j h0 h1 h3).trans (h.1 j h0 h1 h3), fun j h0 h1 h3 h4 => (h2.2 j h0 h1 h3 h4).trans (h.2 j h0 h1 h3 h4)⟩
theorem scr2_of {a b : MV} (h : scr a b) : scr2 a b := ⟨fun j h0 h1 h3 => h.1 j h0 h1 (by omega) (by omega) (by omega), h.2⟩
theorem scr2_I {m m' : MV} {k : Nat} {x : Int32} (h : scr2 m m') (hk : k = 0 ∨ k = 10 ∨ (14 ≤ k ∧ k ≤ 21)) : scr2 m (mI m' k x) := ⟨fun j h0 h1 h2 => by rw [mI_ne (by omega)]; exact h.1 j h0 h1 h2, h.2⟩
theorem scr2_s {m m' : MV} (h : scr2 m m') : m'.2 1 = m.2 1 := h.2 1 (by omega) (by omega) (by omega) (by omega)
/-- the day with the way (i, j), its table -/
def dayW2 (d1 : RV) (ws : List Nat) (n i j : Nat) : RV := rvR d1 11 ((wayOf ws n i j).map nI)
def tabW2 (d1 : RV) (ws : List Nat) (n i j : Nat) : RV := TK (dayW2 d1 ws n i j) (wayOf ws n i j) (wayOf ws n i j).length
def wayFl (d1 : RV) (ws : List Nat) (n i j : Nat) : Prop := ∀ k, k < (wayOf ws n i j).length → flagK (dayW2 d1 ws n i j) (wayOf ws n i j) k ≠ 0
def bestR (d1 : RV) (ws : List Nat) (n i j : Nat) (sv : RV) : Prop := sv.2 1 = (tabW2 d1 ws n i j).2 1 ∧ sv.2 2 = gA ((tabW2 d1 ws n i j).1 3) n ∧ sv.2 3 = gA ((tabW2 d1 ws n i j).1 4) n ∧ wayFl d1 ws n i j
def fwR (d1 : RV) (ws : List Nat) (n p0 : Nat) (m : MV) (sv : RV) (c : Nat) : Prop := sv.2 0 = nI c ∧ m.1 20 = nI c ∧ (c = 0 → m.1 19 = -6 ∧ m.1 21 = -6) ∧ (0 < c → m.1 19 = sv.2 1 ∧ m.1 21 = sv.2 4 ∧ bd (sv.2 1) 0 40000 ∧ bd (sv.2 4) 0 40000 ∧ ∃ i j, p0 ≤ i ∧ i < j ∧ j ≤ ws.length + 1 ∧ m.1 17 = nI i ∧ sv.2 5 = nI i ∧ m.1 18 = nI j ∧ sv.2 6 = nI j ∧ bestR d1 ws n i j sv)
theorem bd_ne6 {x : Int32} {hi : Int} (h : bd x 0 hi) : x ≠ -6 := by
  intro e
  subst e
  exact absurd h.1 (by decide)
/-- taking a way, the first and a later one -/
theorem take_first {sv st : RV} {ri pk dn : Int32} (h : sv.2 0 = 0) : (f_X4_takeWay sv st ri pk dn).2 0 = sv.2 0 + 1 ∧ (f_X4_takeWay sv st ri pk dn).2 1 = st.2 1 ∧ (f_X4_takeWay sv st ri pk dn).2 2 = rAt (st.1 3) ri ∧ (f_X4_takeWay sv st ri pk dn).2 3 = rAt (st.1 4) ri ∧ (f_X4_takeWay sv st ri pk dn).2 4 = rAt (st.1 4) ri ∧ (f_X4_takeWay sv st ri pk dn).2 5 = pk ∧ (f_X4_takeWay sv st ri pk dn).2 6 = dn := by
  unfold f_X4_takeWay
  dsimp only [yl]
  have h2 : (rvI sv 4 (rAt (st.1 4) ri)).2 0 = 0 := h
  rw [if_pos h, if_pos h2]
  exact ⟨rfl, rfl, rfl, rfl, rfl, rfl, rfl⟩
theorem take_more {sv st : RV} {ri pk dn : Int32} (h : sv.2 0 ≠ 0) : (f_X4_takeWay sv st ri pk dn).2 0 = sv.2 0 + 1 ∧ (f_X4_takeWay sv st ri pk dn).2 4 = (if rAt (st.1 4) ri < sv.2 4 then rAt (st.1 4) ri else sv.2 4) ∧ (if sv.2 1 ≤ st.2 1 then (f_X4_takeWay sv st ri pk dn).2 1 = sv.2 1 ∧ (f_X4_takeWay sv st ri pk dn).2 2 = sv.2 2 ∧ (f_X4_takeWay sv st ri pk dn).2 3 = sv.2 3 ∧ (f_X4_takeWay sv st ri pk dn).2 5 = sv.2 5 ∧ (f_X4_takeWay sv st ri pk dn).2 6 = sv.2 6 else (f_X4_takeWay sv st ri pk dn).2 1 = st.2 1 ∧ (f_X4_takeWay sv st ri pk dn).2 2 = rAt (st.1 3) ri ∧ (f_X4_takeWay sv st ri pk dn).2 3 = rAt (st.1 4) ri ∧ (f_X4_takeWay sv st ri pk dn).2 5 = pk ∧ (f_X4_takeWay sv st ri pk dn).2 6 = dn) := by
  unfold f_X4_takeWay
  dsimp only [yl]
  have h2 : ∀ x, (rvI sv 4 x).2 0 ≠ 0 := fun x => h
  have h1 : ∀ x, (rvI sv 4 x).2 1 = sv.2 1 := fun x => rfl
  rw [if_neg h, if_neg (h2 _), h1]
  by_cases c : sv.2 1 ≤ st.2 1
  · simp only [if_pos c]
    exact ⟨rfl, rfl, rfl, rfl, rfl, rfl, rfl⟩
  · simp only [if_neg c]
    exact ⟨rfl, rfl, rfl, rfl, rfl, rfl, rfl⟩
/-- from 134 on: is it the best so far -/
theorem find_134 {m0 m : MV} {d1 sv : RV} {ws : List Nat} {n p0 i j c : Nat} {ri x2 : Int32} {X35 : MV → Int32 → Int32 → Prop} {X50 : MV → Int32 → Int32 → Int32 → Prop} {K : Int32 → MV → Prop} (hn : n < 17) (hc : c < 5000) (hp : p0 ≤ i) (hij : i < j) (hj : j ≤ ws.length + 1) (hF : tabF (dayW2 d1 ws n i j) (wayOf ws n i j) (n + 1) (wayOf ws n i j).length) (hwl : (wayOf ws n i j).length ≤ 34) (hfl : wayFl d1 ws n i j) (hs : scr2 m0 m) (h0 : sv.2 0 = nI c) (h20 : m.1 20 = nI (c + 1)) (h15 : m.1 15 = (tabW2 d1 ws n i j).2 1) (hz : c = 0 → m.1 19 = -6) (hold : 0 < c → m.1 19 = sv.2 1 ∧ bd (sv.2 1) 0 40000 ∧ ∃ i j, p0 ≤ i ∧ i < j ∧ j ≤ ws.length + 1 ∧ m.1 17 = nI i ∧ sv.2 5 = nI i ∧ m.1 18 = nI j ∧ sv.2 6 = nI j ∧ bestR d1 ws n i j sv) (h21 : m.1 21 = (f_X4_takeWay sv (tabW2 d1 ws n i j) (nI n) (nI i) (nI j)).2 4 ∧ bd (m.1 21) 0 40000) (hX : ∀ m', scr2 m0 m' → fwR d1 ws n p0 m' (f_X4_takeWay sv (tabW2 d1 ws n i j) (nI n) (nI i) (nI j)) (c + 1) → X50 m' x2 (nI i) (nI j + 1)) : wp_X7_findsWay_134 ri X35 X50 K m x2 (nI i) (nI j) := by
  obtain ⟨-, -, -, -, -, -, fc, -⟩ := hF
  have hb1 : bd ((tabW2 d1 ws n i j).2 1) 0 40000 := bd_wide fc (by omega) (by omega)
  have set_ : (f_X4_takeWay sv (tabW2 d1 ws n i j) (nI n) (nI i) (nI j)).2 0 = nI (c + 1) → (f_X4_takeWay sv (tabW2 d1 ws n i j) (nI n) (nI i) (nI j)).2 1 = (tabW2 d1 ws n i j).2 1 → (f_X4_takeWay sv (tabW2 d1 ws n i j) (nI n) (nI i) (nI j)).2 2 = rAt ((tabW2 d1 ws n i j).1 3) (nI n) → (f_X4_takeWay sv (tabW2 d1 ws n i j) (nI n) (nI i) (nI j)).2 3 = rAt ((tabW2 d1 ws n i j).1 4) (nI n) → (f_X4_takeWay sv (tabW2 d1 ws n i j) (nI n) (nI i) (nI j)).2 5 = nI i → (f_X4_takeWay sv (tabW2 d1 ws n i j) (nI n) (nI i) (nI j)).2 6 = nI j → wp_X7_findsWay_154 ri X35 X50 K m x2 (nI i) (nI j) := by
    intro t0 t1 t2 t3 t5 t6
    unfold wp_X7_findsWay_154
    dsimp only [yl]
    unfold wp_X7_findsWay_173
    refine hX _ (scr2_I (scr2_I (scr2_I hs (by omega)) (by omega)) (by omega)) ⟨t0, h20, fun z => absurd z (by omega), fun _ => ?_⟩
    refine ⟨h15.trans t1.symm, h21.1, by rw [t1]; exact hb1, by rw [← h21.1]; exact h21.2, i, j, hp, hij, hj, rfl, t5, rfl, t6, t1, ?_, ?_, hfl⟩
    · rw [t2, rAt_gA (by omega)]
    · rw [t3, rAt_gA (by omega)]
  unfold wp_X7_findsWay_134
  by_cases c0 : c = 0
  · rw [if_pos (hz c0)]
    obtain ⟨t0, t1, t2, t3, t4, t5, t6⟩ := take_first (sv := sv) (st := tabW2 d1 ws n i j) (ri := nI n) (pk := nI i) (dn := nI j) (by rw [h0, c0]; rfl)
    exact set_ (by rw [t0, h0, nI_1]) t1 t2 t3 t5 t6
  · obtain ⟨g1, g2, i0, j0, g3, g4, g5, g6, g7, g8, g9, g10⟩ := hold (by omega)
    rw [if_neg (by rw [g1]; exact bd_ne6 g2), g1, h15]
    obtain ⟨t0, t4, tt⟩ := take_more (sv := sv) (st := tabW2 d1 ws n i j) (ri := nI n) (pk := nI i) (dn := nI j) (by rw [h0]; exact nI_ne0 (by omega) (by omega))
    by_cases cl : sv.2 1 ≤ (tabW2 d1 ws n i j).2 1
    · rw [if_pos cl] at tt ⊢
      obtain ⟨t1, t2, t3, t5, t6⟩ := tt
      unfold wp_X7_findsWay_173
      refine hX _ hs ⟨by rw [t0, h0, nI_1], h20, fun z => absurd z (by omega), fun _ => ?_⟩
      refine ⟨by rw [t1]; exact g1, h21.1, by rw [t1]; exact g2, by rw [← h21.1]; exact h21.2, i0, j0, g3, g4, g5, g6, by rw [t5]; exact g7, g8, by rw [t6]; exact g9, ?_⟩
      unfold bestR at g10 ⊢
      rw [t1, t2, t3]
      exact g10
    · rw [if_neg cl] at tt ⊢
      obtain ⟨t1, t2, t3, t5, t6⟩ := tt
      exact set_ (by rw [t0, h0, nI_1]) t1 t2 t3 t5 t6
