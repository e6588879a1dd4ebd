/-- what a search ends with -/
def foundP (d : RV) (ws : List Nat) (n : Nat) (fr to wa bt : Int32) (sv st : RV) (m0 m' : MV) : Prop := scr2 m0 m' ∧ ∃ c, c < 5000 ∧ fwR (fDay1 d fr to wa bt) ws n (fP0 d) m' (fTried d fr to wa bt sv st).1 c ∧ (∃ x, (fTried d fr to wa bt sv st).2.1 = rvR (fDay1 d fr to wa bt) 11 x)
theorem fP0_le (d : RV) : fP0 d ≤ 1 := by
  unfold fP0
  split <;> omega
theorem way_eta (s : RV × RV × RV) : (s.1, s.2.1, s.2.2) = s := rfl
theorem q_findsWay {m : MV} {d sv st : RV} {n : Nat} {ws : List Nat} {fr to wa bt ri : Int32} {K : Int32 → MV → Prop} (hd : dayOk d n ws) (ha : argOk d fr to wa bt) (hR : relS (m.2 1) d n) (hR1 : relD (m.2 1) (fDay1 d fr to wa bt) (n + 1)) (hri : ri = nI n) (hK : ∀ m', foundP d ws n fr to wa bt sv st m m' → K (fFind d fr to wa bt sv st).1 m') : PO_X7_findsWay ri K m := by
  have hn := hd.1
  have hwl := hd.2.2.2.2.2.1.2.2.1
  have h11 := hd.2.2.2.2.2.1.1
  have hll : (d.1 11).length = ws.length := by rw [h11, List.length_map]
  have hp1 := fP0_le d
  have hrd := day1_ride (fr := fr) (to := to) (wa := wa) (bt := bt) hd
  obtain ⟨h5, -⟩ := dayOk_way hd hR
  refine ⟨fun w m' x2 x3 => ∃ i c s, fP0 d ≤ i ∧ i ≤ ws.length + 1 ∧ x3 = nI i ∧ x2 = leaveT d ∧ w = (ws.length + 1 - i) * 40 ∧ c ≤ 40 * i ∧ scr2 m m' ∧ fwR (fDay1 d fr to wa bt) ws n (fP0 d) m' s.1 c ∧ (∃ x, s.2.1 = rvR (fDay1 d fr to wa bt) 11 x) ∧ fFold d (nI n) (waysFrom ws.length i) s = fTried d fr to wa bt sv st,
    fun w m' x2 x3 x4 => ∃ i j c s, fP0 d ≤ i ∧ i ≤ ws.length ∧ i < j ∧ j ≤ ws.length + 2 ∧ x3 = nI i ∧ x4 = nI j ∧ x2 = leaveT d ∧ w = (ws.length - i) * 40 + (ws.length + 2 - j) + 1 ∧ c ≤ 40 * i + j ∧ scr2 m m' ∧ fwR (fDay1 d fr to wa bt) ws n (fP0 d) m' s.1 c ∧ (∃ x, s.2.1 = rvR (fDay1 d fr to wa bt) 11 x) ∧ fFold d (nI n) (dnsOf ws.length i j ++ waysFrom ws.length (i + 1)) s = fTried d fr to wa bt sv st, ?_, ?_, ?_⟩
  · rintro w m' x2 x3 ⟨i, c, s, hi0, hi, rfl, rfl, rfl, hc, hs, hf, hx, hfo⟩
    unfold wp_X7_findsWay_35
    rw [scr2_s hs, show m.2 1 (5 : Int32).toNatClampNeg = nI ws.length from h5]
    refine ⟨vp_in_nI (n := 5) (by omega) (by omega), ?_⟩
    by_cases cc : ws.length < i
    · rw [if_pos ((nI_ltI (by omega) (by omega)).mpr cc)]
      rw [waysFrom_end cc] at hfo
      have hfo : s = fTried d fr to wa bt sv st := hfo
      have h1 := hK m' ⟨hs, c, by omega, by rw [← hfo]; exact hf, by rw [← hfo]; exact hx⟩
      have h2 : fFind d fr to wa bt sv st = fFindEnd d (nI n) s := by unfold fFind; rw [← hfo, hrd]
      rw [h2] at h1
      unfold fFindEnd at h1
      obtain ⟨w0, w20, w6, wb⟩ := hf
      by_cases c0 : c = 0
      · rw [if_pos (w6 c0).1]
        rw [w0, c0, if_pos (by decide)] at h1
        exact h1
      · obtain ⟨g1, -, g3, -⟩ := wb (by omega)
        rw [if_neg (by rw [g1]; exact bd_ne6 g3)]
        rw [w0, if_neg (nI_nle (by omega) (by omega))] at h1
        exact h1
    · rw [if_neg (fun z => cc ((nI_ltI (by omega) (by omega)).mp z))]
      rw [waysFrom_step (by omega)] at hfo
      refine ⟨_, ?_, i, i + 1, c, s, hi0, by omega, by omega, by omega, rfl, nI_1 i, rfl, rfl, by omega, hs, hf, hx, hfo⟩
      omega
  · rintro w m' x2 x3 x4 ⟨i, j, c, s, hi0, hi, hij, hj, rfl, rfl, rfl, rfl, hc, hs, hf, hx, hfo⟩
    unfold wp_X7_findsWay_50
    rw [scr2_s hs, show m.2 1 (5 : Int32).toNatClampNeg = nI ws.length from h5, nI_1]
    refine ⟨vp_in_nI (n := 5) (by omega) (by omega), ?_⟩
    by_cases cc : ws.length + 1 < j
    · rw [if_pos ((nI_ltI (by omega) (by omega)).mpr cc)]
      rw [dnsOf_end cc] at hfo
      exact ⟨_, by omega, i + 1, c, s, by omega, by omega, nI_1 i, rfl, rfl, by omega, hs, hf, hx, hfo⟩
    · rw [if_neg (fun z => cc ((nI_ltI (by omega) (by omega)).mp z))]
      rw [dnsOf_step (by omega)] at hfo
      refine find_way (m0 := m) (n := n) (p0 := fP0 d) (c := c) (s := s) hd ha hR hR1 hri rfl (by omega) hi0 hij (by omega) hs hf hx ?_
      intro m2 s2 c2 hs2 es2 hc2 hf2 hx2
      refine ⟨_, ?_, i, j + 1, c2, s2, hi0, hi, by omega, by omega, rfl, nI_1 j, rfl, rfl, by omega, hs2, hf2, hx2, ?_⟩
      · omega
      · rw [es2]
        exact hfo
  · unfold wp_X7_findsWay_0
    dsimp only [yl]
    have hs : scr2 m (mI (mI (mI m 20 0) 19 (-6)) 21 (-6)) := scr2_I (scr2_I (scr2_I (scr2_refl m) (by omega)) (by omega)) (by omega)
    have h6 : m.2 1 6 = d.2 0 := hR.1.2.2.2.1
    have h8 : m.2 1 8 = d.2 2 := hR.2.2.2.2.1
    have h5' : m.2 1 5 = nI (d.1 11).length := by rw [hll]; exact h5
    have hstart : ∀ i, fP0 d = i → ∃ w9 i c s, fP0 d ≤ i ∧ i ≤ ws.length + 1 ∧ nI (fP0 d) = nI i ∧ leaveT d = leaveT d ∧ w9 = (ws.length + 1 - i) * 40 ∧ c ≤ 40 * i ∧ scr2 m (mI (mI (mI m 20 0) 19 (-6)) 21 (-6)) ∧ fwR (fDay1 d fr to wa bt) ws n (fP0 d) (mI (mI (mI m 20 0) 19 (-6)) 21 (-6)) s.1 c ∧ (∃ x, s.2.1 = rvR (fDay1 d fr to wa bt) 11 x) ∧ fFold d (nI n) (waysFrom ws.length i) s = fTried d fr to wa bt sv st := by
      intro i hi
      refine ⟨_, fP0 d, 0, (rvI sv 0 0, fDay1 d fr to wa bt, st), Nat.le_refl _, by omega, rfl, rfl, rfl, by omega, hs, ⟨rfl, rfl, fun _ => ⟨rfl, rfl⟩, fun z => absurd z (by omega)⟩, ⟨(fDay1 d fr to wa bt).1 11, (rvR_self _ _).symm⟩, ?_⟩
      unfold fTried
      rw [hrd, hll]
    refine q_leaving (d := d) (by rw [hll]; omega) h5' h6 h8 ?_
    refine q_isOnWay (d := d) h5' h6 h8 ?_
    by_cases co : f_X0_isOnItsWay d = 0
    · rw [if_pos co]
      have e0 : fP0 d = 0 := by unfold fP0; rw [if_pos co]
      have h := hstart 0 e0
      rw [e0] at h ⊢
      exact h
    · rw [if_neg co]
      have e0 : fP0 d = 1 := by unfold fP0; rw [if_neg co]
      have h := hstart 1 e0
      rw [e0] at h ⊢
      exact h
