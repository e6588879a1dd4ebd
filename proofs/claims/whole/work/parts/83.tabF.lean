/-! ===== what the timetable holds behind k visits ===== -/
def wsOk (ws : List Nat) (n : Nat) : Prop := ws.length ≤ 34 ∧ (∀ j, j < ws.length → gN ws j < 2 * n) ∧ (∀ p q, p < q → q < ws.length → gN ws p ≠ gN ws q) ∧ (∀ p q, p < q → q < ws.length → ¬ (gN ws q % 2 = 0 ∧ gN ws p = gN ws q + 1))
def lenD (d : RV) (n : Nat) : Prop := (d.1 0).length = 3 ∧ (d.1 1).length ≤ 12 ∧ (d.1 2).length = (d.1 1).length ∧ (d.1 3).length = n ∧ (d.1 4).length = n ∧ (d.1 5).length = n ∧ (d.1 6).length = n ∧ (d.1 7).length = n ∧ (d.1 8).length = n ∧ (d.1 9).length = n ∧ (d.1 10).length = n
def tabF (d : RV) (ws : List Nat) (n k : Nat) : Prop :=
  ((TK d ws k).1 0).length = k ∧ ((TK d ws k).1 1).length = k ∧ ((TK d ws k).1 2).length = k ∧ ((TK d ws k).1 3).length = n ∧ ((TK d ws k).1 4).length = n ∧
  (∀ j, j < k → gA ((TK d ws k).1 0) j = sTime d (TK d ws j) (gN ws j) ∧ gA ((TK d ws k).1 1) j = sAb (TK d ws j) (gN ws j) ∧ gA ((TK d ws k).1 2) j = sTime d (TK d ws j) (gN ws j) - sCome d (TK d ws j) (gN ws j)) ∧
  bd ((TK d ws k).2 1) 0 (3000 + 700 * (k : Int)) ∧ (∃ i, i < 12 ∧ (TK d ws k).2 0 = nI i) ∧ bd ((TK d ws k).2 2) (- (k : Int)) (17 + (k : Int)) ∧
  (∀ r, r < n → (∀ p, p < k → gN ws p ≠ 2 * r) → gA ((TK d ws k).1 3) r = gA (d.1 9) r) ∧ (∀ r p, p < k → gN ws p = 2 * r → gA ((TK d ws k).1 3) r = sTime d (TK d ws p) (2 * r)) ∧
  (∀ r, r < n → (∀ p, p < k → gN ws p ≠ 2 * r + 1) → gA ((TK d ws k).1 4) r = gA (d.1 10) r) ∧ (∀ r p, p < k → gN ws p = 2 * r + 1 → gA ((TK d ws k).1 4) r = sTime d (TK d ws p) (2 * r + 1))
theorem bd_nStand {xs : List Int32} {how : Int32} {n : Nat} (h : xs.length ≤ n) (hn : n < 1000) : bd (nStand xs how) 0 n := by
  have h1 : cntOf xs how ≤ xs.length := List.countP_le_length
  exact bd_nI (by omega) (by omega) (by omega)
theorem sCome_bd {d t : RV} {v k : Nat} (hx : bdX d) (ht : bd (t.2 1) 0 (3000 + 700 * (k : Int))) (hk : k < 1000) : bd (sCome d t v) 0 (3060 + 700 * (k : Int)) ∧ (sCome d t v).toInt = (t.2 1).toInt + (sMin d t v).toInt := by
  have h := bd_add ht (min_bd hx.1 hx.2 (t.2 0) (sSt d v)) (by omega) (by omega)
  exact ⟨bd_wide h.1 (by omega) (by omega), h.2⟩
theorem sTime_bd {d t : RV} {v k : Nat} (hx : bdX d) (hT : bdT d) (ht : bd (t.2 1) 0 (3000 + 700 * (k : Int))) (hk : k < 1000) : bd (sTime d t v) 0 (3060 + 700 * (k : Int)) := by
  have h := (sCome_bd (v := v) hx ht hk).1
  unfold sTime
  split
  · split
    · exact bd_wide (hT.1 _) (by omega) (by omega)
    · exact h
  · exact h
theorem sSt_at {d : RV} {n v : Nat} (hN : bdN d n) (hv : v < 2 * n) (hn : n ≤ 17) : ∃ i, i < 12 ∧ sSt d v = nI i := by
  unfold sSt
  rw [stopOf_eq (by omega)]
  obtain ⟨i, j, hi, hj, e3, e4, -⟩ := hN (v / 2) (by omega)
  split
  · exact ⟨i, hi, e3⟩
  · exact ⟨j, hj, e4⟩
theorem tab_F {d : RV} {ws : List Nat} {n : Nat} (hn : n ≤ 17) (hw : wsOk ws n) (hl : lenD d n) (hb : bdD d n) (hf : bd (d.2 2) 0 3000) : ∀ k, k ≤ ws.length → tabF d ws n k := by
  obtain ⟨hbS, hbX, hbT, hbN, i0, hi0, e0⟩ := hb
  obtain ⟨hwl, hwv, hwd, hwo⟩ := hw
  obtain ⟨-, -, -, -, -, -, -, -, h8, h9, h10⟩ := hl
  intro k
  induction k with
  | zero =>
    intro _
    have e9 : (TK d ws 0).1 3 = d.1 9 := List.take_of_length_le (by omega)
    have e10 : (TK d ws 0).1 4 = d.1 10 := List.take_of_length_le (by omega)
    refine ⟨rfl, rfl, rfl, by rw [e9, h9], by rw [e10, h10], fun j hj => absurd hj (Nat.not_lt_zero j), hf, ⟨i0, hi0, e0⟩, ?_, fun r _ _ => by rw [e9], fun r p hp => absurd hp (Nat.not_lt_zero p), fun r _ _ => by rw [e10], fun r p hp => absurd hp (Nat.not_lt_zero p)⟩
    have h := bd_nStand (xs := d.1 8) (how := 1) (n := 17) (by omega) (by omega)
    exact bd_wide h (by omega) (by omega)
  | succ k ih =>
    intro hk
    obtain ⟨f1, f2, f3, f4, f5, fb, fc, ⟨i, hi, fi⟩, fe, ff1, ff2, fg1, fg2⟩ := ih (by omega)
    have hv := hwv k (by omega)
    obtain ⟨s0, s1, s2, -, -, r0, r1, r2, r3, r4⟩ := step_ok (d := d) (t := TK d ws k) (v := gN ws k) (by omega)
    have eT : TK d ws (k + 1) = (f_X5_step (TK d ws k) d (nI (gN ws k))).2 := rfl
    rw [← eT] at s0 s1 s2 r0 r1 r2 r3 r4
    rw [rAdd_app (by omega)] at r0 r1 r2
    rw [rSet_nI (by omega)] at r3 r4
    have htm := sTime_bd (v := gN ws k) hbX hbT fc (by omega)
    refine ⟨by rw [r0]; simp [f1], by rw [r1]; simp [f2], by rw [r2]; simp [f3], ?_, ?_, ?_, ?_, ?_, ?_, ?_, ?_, ?_, ?_⟩
    · rw [r3]; split <;> simp [f4]
    · rw [r4]; split <;> simp [f5]
    · intro j hj
      rw [r0, r1, r2, gA_app, gA_app, gA_app, f1, f2, f3]
      by_cases c : j < k
      · rw [if_pos c, if_pos c, if_pos c]
        exact fb j c
      · rw [if_neg c, if_neg c, if_neg c, if_pos (by omega), if_pos (by omega), if_pos (by omega), show j = k by omega]
        exact ⟨rfl, rfl, rfl⟩
    · rw [s1]
      exact bd_wide (bd_add htm hbS.2.2 (by omega) (by omega)).1 (by omega) (by omega)
    · rw [s0]
      exact sSt_at hbN hv hn
    · rw [s2]
      unfold sAb
      split
      · exact bd_wide (bd_add fe (bd_nI (n := 1) (lo := 1) (hi := 1) (by omega) (by omega) (by omega)) (by omega) (by omega)).1 (by omega) (by omega)
      · exact bd_wide (bd_add (y := -1) (c := -1) (e := -1) fe ⟨by rw [t32_m1]; omega, by rw [t32_m1]; omega⟩ (by omega) (by omega)).1 (by omega) (by omega)
    · intro r hr hp
      rw [r3]
      have h1 := ff1 r hr (fun p hq => hp p (by omega))
      have h2 := hp k (by omega)
      split
      · rw [gA_set (by omega), if_neg (by omega)]
        exact h1
      · exact h1
    · intro r p hp he
      rw [r3]
      by_cases c : p = k
      · subst c
        rw [if_pos (by omega), gA_set (by omega), if_pos (by omega), he]
      · have h1 := ff2 r p (by omega) he
        have h2 := hwd p k (by omega) (by omega)
        split
        · rw [gA_set (by omega), if_neg (by omega)]
          exact h1
        · exact h1
    · intro r hr hp
      rw [r4]
      have h1 := fg1 r hr (fun p hq => hp p (by omega))
      have h2 := hp k (by omega)
      split
      · exact h1
      · rw [gA_set (by omega), if_neg (by omega)]
        exact h1
    · intro r p hp he
      rw [r4]
      by_cases c : p = k
      · subst c
        rw [if_neg (by omega), gA_set (by omega), if_pos (by omega), he]
      · have h1 := fg2 r p (by omega) he
        have h2 := hwd p k (by omega) (by omega)
        split
        · exact h1
        · rw [gA_set (by omega), if_neg (by omega)]
          exact h1
