/-! ===== the reference drives a way ===== -/
theorem mI_at (v : MV) (k : Nat) (x : Int32) : (mI v k x).1 k = x := if_pos rfl
theorem mI_ne {v : MV} {k j : Nat} {x : Int32} (h : j ≠ k) : (mI v k x).1 j = v.1 j := if_neg h
theorem mA_at (v : MV) (k i : Nat) (x : Int32) : (mA v k i x).2 k = upd (v.2 k) i x := if_pos rfl
theorem mA_ne {v : MV} {k j i : Nat} {x : Int32} (h : j ≠ k) : (mA v k i x).2 j = v.2 j := if_neg h
theorem nI_ne6 {p : Nat} (h : p < 1000) : nI p ≠ -6 := by
  intro e
  have h1 := nI_toInt (n := p) (by omega)
  rw [e] at h1
  have h2 : (-6 : Int32).toInt = -6 := by decide
  omega
theorem late_iff {p s g l t : Int32} (hp : bd p (-6) 30000) (hs : bd s 0 5) (hg : bd g 0 60) (hl : bd l 0 60) (ht : bd t 0 100000) : (g + l < t - (p + s)) ↔ (((p + s) + g) + l < t) := by
  have h1 := bd_add hp hs (by omega) (by omega)
  have h2 := bd_add h1.1 hg (by omega) (by omega)
  have h3 := bd_add h2.1 hl (by omega) (by omega)
  have h4 := bd_add hg hl (by omega) (by omega)
  have h5 := bd_sub ht h1.1 (by omega) (by omega)
  rw [fa_lt, fa_lt, h3.2, h2.2, h1.2, h4.2, h5.2, h1.2]
  omega
/-- who is not where the numbers are told -/
def frM (m m' : MV) : Prop := (∀ j, j ≠ 14 → j ≠ 15 → j ≠ 16 → m'.1 j = m.1 j) ∧ (∀ j, j ≠ 11 → j ≠ 12 → j ≠ 13 → m'.2 j = m.2 j)
def arrOk (m : MV) (d : RV) (ws : List Nat) (k : Nat) : Prop := ∀ j, j < k → m.2 11 j = sTime d (TK d ws j) (gN ws j) ∧ m.2 12 j = sTime d (TK d ws j) (gN ws j) - sCome d (TK d ws j) (gN ws j) ∧ m.2 13 j = sAb (TK d ws j) (gN ws j)
def keptR (m : MV) (d : RV) (ws : List Nat) (k : Nat) : Prop := (m.1 16 = 1 ∨ m.1 16 = 0) ∧ (¬ gA (d.1 0) 0 < (TK d ws 0).2 2 → (m.1 16 = 1 ↔ ∀ j, j < k → flagK d ws j ≠ 0) ∧ ((∀ j, j < k → flagK d ws j ≠ 0) → ¬ gA (d.1 0) 0 < (TK d ws k).2 2))
def drvI (m m' : MV) (d : RV) (ws : List Nat) (k : Nat) : Prop := frM m m' ∧ m'.1 14 = (TK d ws k).2 3 ∧ arrOk m' d ws k ∧ keptR m' d ws k
def drvP (m m' : MV) (d : RV) (ws : List Nat) : Prop := drvI m m' d ws ws.length ∧ m'.1 15 = (TK d ws ws.length).2 1
theorem q_isInTime {m : MV} {d : RV} {ws : List Nat} {n : Nat} {ri ti : Int32} {K : Int32 → Prop} (k r : Nat) (hn : n ≤ 17) (hw : wsOk ws n) (hk : k < ws.length) (hv : gN ws k = 2 * r + 1) (hway : wayR m ws) (hD : relD (m.2 1) d n) (hb : bdD d n) (hF : tabF d ws n k) (htm : ∀ j, j < k → m.2 11 j = sTime d (TK d ws j) (gN ws j)) (hbt : ∀ j, j < k → bd (sTime d (TK d ws j) (gN ws j)) 0 30000) (hti : bd ti 0 100000) (e : ri = nI r) (hK : K (if gA (d.1 6) r < ti then 0 else if sLate d (TK d ws k) (2 * r + 1) < ti then 0 else 1)) : PO_X7_isInTime m ri ti K := by
  subst e
  obtain ⟨hbS, hbX, hbT, hbN, -⟩ := hb
  obtain ⟨hS, hSt, hRi, -⟩ := hD
  obtain ⟨hwl, hwv, hwd, hwo⟩ := hw
  obtain ⟨-, -, -, -, -, -, -, -, -, ff1, ff2, -⟩ := hF
  have hr : r < n := by have := hwv k hk; omega
  obtain ⟨e0, e1, e2, e3, e4, e5, e6⟩ := hRi r hr
  have hg : bd (gA (d.1 7) r) 0 60 := by
    obtain ⟨i, j, -, -, -, -, e7, -⟩ := hbN r hr
    rw [e7]
    exact min_bd hbX.1 hbX.2 _ _
  unfold PO_X7_isInTime wp_X7_isInTime_0
  rw [ix2]
  have hend : ∀ pk : Int32, bd pk (-6) 30000 → gA ((TK d ws k).1 3) r = pk → (vp_in (2 : Int32) 186 ∧ PO_X7_of m (nI r) (3 : Int32) (fun r9 => if r9 < ti then K 0 else PO_X7_straight m (nI r) (fun r10 => vp_in (1 : Int32) 186 ∧ if r10 + m.2 1 (1 : Int32).toNatClampNeg < ti - (pk + m.2 1 (2 : Int32).toNatClampNeg) then K 0 else K 1))) := by
    intro pk hpk hq
    refine ⟨vp_in_nI (n := 2) (by omega) (by omega), q_of r 3 (by omega) (by omega) rfl rfl ?_⟩
    rw [e3]
    by_cases c : gA (d.1 6) r < ti
    · rw [if_pos c] at hK ⊢
      exact hK
    · rw [if_neg c] at hK ⊢
      refine q_straight r hn hr rfl hRi hSt hbX hbN ?_
      refine ⟨vp_in_nI (n := 1) (by omega) (by omega), ?_⟩
      rw [show m.2 1 (1 : Int32).toNatClampNeg = gA (d.1 0) 1 from hS.2.1, show m.2 1 (2 : Int32).toNatClampNeg = gA (d.1 0) 2 from hS.2.2]
      have hl := late_iff hpk hbS.2.2 hg hbS.2.1 hti
      have e8 : sLate d (TK d ws k) (2 * r + 1) = ((pk + gA (d.1 0) 2) + gA (d.1 7) r) + gA (d.1 0) 1 := by
        unfold sLate
        rw [show (2 * r + 1) / 2 = r by omega, hq]
      rw [e8] at hK
      by_cases c2 : gA (d.1 7) r + gA (d.1 0) 1 < ti - (pk + gA (d.1 0) 2)
      · rw [if_pos c2]
        rw [if_pos (hl.mp c2)] at hK
        exact hK
      · rw [if_neg c2]
        rw [if_neg (fun z => c2 (hl.mpr z))] at hK
        exact hK
  refine q_placeOf ws (2 * r) (by omega) (fun j hj => by have := hwv j hj; omega) hway rfl ?_ ?_
  · intro p hp hpv _
    rw [if_neg (nI_ne6 (by omega)), nI_clamp (by omega)]
    have hpk : p < k := by
      rcases Nat.lt_trichotomy p k with h | h | h
      · exact h
      · subst h; omega
      · exact absurd ⟨by omega, by omega⟩ (hwo k p h hp)
    have h1 := ff2 r p hpk hpv
    have h2 := htm p hpk
    rw [hpv] at h2
    refine ⟨vp_in_nI (by omega) (by omega), ?_⟩
    rw [h2]
    have h3 := hbt p hpk
    rw [hpv] at h3
    exact hend _ (bd_wide h3 (by omega) (by omega)) h1
  · intro hno
    rw [if_pos rfl]
    refine q_of r 5 (by omega) (by omega) rfl rfl ?_
    rw [e5]
    exact hend _ (hbT.2.2 r) (ff1 r hr (fun p hp => hno p (by omega)))
theorem frM_refl (m : MV) : frM m m := ⟨fun _ _ _ _ => rfl, fun _ _ _ _ => rfl⟩
theorem frM_I {m m' : MV} {k : Nat} {x : Int32} (h : frM m m') (hk : k = 14 ∨ k = 15 ∨ k = 16) : frM m (mI m' k x) := ⟨fun j h1 h2 h3 => by rw [mI_ne (by omega)]; exact h.1 j h1 h2 h3, h.2⟩
theorem frM_A {m m' : MV} {k i : Nat} {x : Int32} (h : frM m m') (hk : k = 11 ∨ k = 12 ∨ k = 13) : frM m (mA m' k i x) := ⟨h.1, fun j h1 h2 h3 => by rw [mA_ne (by omega)]; exact h.2 j h1 h2 h3⟩
theorem arr_upd {m' : MV} {d : RV} {ws : List Nat} {k a : Nat} {x : Int32} (h : arrOk m' d ws k) : arrOk (mA m' a k x) d ws k := by
  intro j hj
  obtain ⟨h1, h2, h3⟩ := h j hj
  have e : ∀ b, (mA m' a k x).2 b j = m'.2 b j := by
    intro b
    by_cases c : b = a
    · subst c
      rw [mA_at, upd_ne (by omega)]
    · rw [mA_ne c]
  rw [e, e, e]
  exact ⟨h1, h2, h3⟩
