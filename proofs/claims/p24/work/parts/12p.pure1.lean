/-! ===== days and timetables: what their loops compute ===== -/
theorem rvR_self (v : RV) (k : Nat) : rvR v k (v.1 k) = v := by
  obtain ⟨a, b⟩ := v
  unfold rvR
  congr 1
  funext j
  by_cases h : j = k
  · subst h; simp
  · simp [h]
theorem rvR_rvR (v : RV) (k : Nat) (a b : List Int32) : rvR (rvR v k a) k b = rvR v k b := by
  unfold rvR
  congr 1
  funext j
  by_cases h : j = k
  · simp [h]
  · simp [h]
theorem f_endAtFirst_1 (d : RV) : (f_X0_endAtFirst d).1 = d.1 := by
  simp [f_X0_endAtFirst, yl, rvI]
/-- the day of which a ride's visits are taken: a bus on its way to one of them goes there -/
def fBase (d : RV) (ri : Int32) : RV := if f_X0_isOnItsWay d = 0 then d else if f_X6_rideOf (rAt (d.1 11) 0) = ri then f_X0_endAtFirst d else d
theorem fBase_1 (d : RV) (ri : Int32) : (fBase d ri).1 = d.1 := by
  unfold fBase
  split
  · rfl
  · split
    · exact f_endAtFirst_1 d
    · rfl
def fOff (xs : List Int32) (ri : Int32) : List Int32 := xs.filter (fun v => decide (¬ f_X6_rideOf v = ri))
theorem fOff_cons (v : Int32) (l : List Int32) (ri : Int32) : fOff (v :: l) ri = if f_X6_rideOf v = ri then fOff l ri else v :: fOff l ri := by
  unfold fOff
  rw [List.filter_cons]
  by_cases h : f_X6_rideOf v = ri
  · rw [if_pos h, if_neg (by simp [h])]
  · rw [if_neg h, if_pos (by simp [h])]
def fLeave (d : RV) (ri how : Int32) : RV := rvR (rvR (fBase d ri) 11 (fOff (d.1 11) ri)) 8 (rSet (d.1 8) ri how)
theorem nI_sub1 (k : Nat) : nI (k + 1) - 1 = nI k := nI_pred k
theorem i32_m1 (x : Int32) : x + (-1) = x - 1 := by rw [Int32.sub_eq_add_neg]
theorem p_X0_leaveOut {d : RV} {ri how : Int32} (hl : (d.1 11).length < 2147483648) : PO_X0_leaveOut ri how (fun d1 => d1 = fLeave d ri how) d := by
  have hb : (fBase d ri).1 = d.1 := fBase_1 d ri
  refine ⟨fun w d' x => ∃ i, i ≤ (d.1 11).length ∧ x = nI i - 1 ∧ w = i ∧ d' = rvR (fBase d ri) 11 ((d.1 11).take i ++ fOff ((d.1 11).drop i) ri), ?_, ?_⟩
  · rintro w d' x ⟨i, h1, rfl, rfl, rfl⟩
    unfold wp_X0_leaveOut_36
    simp only [yl]
    cases w with
    | zero =>
      rw [if_pos (by decide)]
      show _ = fLeave d ri how
      unfold fLeave
      rw [rvR_ne (by decide), hb]
      simp
    | succ k =>
      have hk : k < (d.1 11).length := h1
      rw [nI_sub1, if_neg (nI_pos (by omega)), rvR_eq, rvR_rvR, i32_m1]
      have e : rAt ((d.1 11).take (k + 1) ++ fOff ((d.1 11).drop (k + 1)) ri) (nI k) = (d.1 11)[k] := by
        rw [rAt_lt (by simp; omega) (by omega), List.getElem_append_left (by simp; omega), List.getElem_take]
      rw [e]
      have e2 : (d.1 11).take (k + 1) = (d.1 11).take k ++ [(d.1 11)[k]] := List.take_succ_eq_append_getElem hk
      have e3 : (d.1 11).drop k = (d.1 11)[k] :: (d.1 11).drop (k + 1) := List.drop_eq_getElem_cons hk
      by_cases c : f_X6_rideOf (d.1 11)[k] = ri
      · rw [if_pos c]
        refine ⟨k, by omega, k, by omega, rfl, rfl, ?_⟩
        congr 1
        unfold rDel
        rw [if_neg (nI_pos (by omega)), nI_clamp (by omega), e3, fOff_cons, if_pos c, e2]
        rw [List.append_assoc, List.eraseIdx_append_of_length_le (by simp; omega), List.length_take, Nat.min_eq_left (by omega), Nat.sub_self]
        rfl
      · rw [if_neg c]
        refine ⟨k, by omega, k, by omega, rfl, rfl, ?_⟩
        rw [e3, fOff_cons, if_neg c, e2, List.append_assoc]
        rfl
  · unfold wp_X0_leaveOut_0
    simp only [yl]
    have key : ∀ d0 : RV, d0 = fBase d ri → ∃ w9, ∃ i, i ≤ (d.1 11).length ∧ rLen (d0.1 11) - 1 = nI i - 1 ∧ w9 = i ∧ d0 = rvR (fBase d ri) 11 ((d.1 11).take i ++ fOff ((d.1 11).drop i) ri) := by
      rintro d0 rfl
      refine ⟨_, (d.1 11).length, Nat.le_refl _, by rw [hb]; rfl, rfl, ?_⟩
      have : (d.1 11).take (d.1 11).length ++ fOff ((d.1 11).drop (d.1 11).length) ri = (fBase d ri).1 11 := by rw [hb]; simp [fOff]
      rw [this, rvR_self]
    by_cases c : f_X0_isOnItsWay d = 0
    · rw [if_pos c]; exact key d (by unfold fBase; rw [if_pos c])
    · rw [if_neg c]
      by_cases c2 : f_X6_rideOf (rAt (d.1 11) 0) = ri
      · rw [if_pos c2]; exact key _ (by unfold fBase; rw [if_neg c, if_pos c2])
      · rw [if_neg c2]; exact key d (by unfold fBase; rw [if_neg c, if_neg c2])
/-- one visit is made: the first one leaves the route -/
def fDo (t d : RV) (m : Nat) : RV := rvR (f_X0_make d (rAt (d.1 11) 0) (rAt (t.1 0) (nI m))) 11 (rDel ((f_X0_make d (rAt (d.1 11) 0) (rAt (t.1 0) (nI m))).1 11) 0)
def fCarryN (t : RV) : Nat → Nat → RV → Nat × RV
  | 0, m, d => (m, d)
  | n + 1, m, d => if rAt (t.1 0) (nI m) < d.2 0 then fCarryN t n (m + 1) (fDo t d m) else (m, d)
def fCarry (t d : RV) : Nat × RV := fCarryN t (d.1 11).length 0 d
theorem p_X0_carryOut {t d : RV} (hl : (d.1 11).length < 2147483648) : PO_X0_carryOut t (fun r d1 => r = nI (fCarry t d).1 ∧ d1 = (fCarry t d).2) d := by
  refine ⟨fun w d' x2 x3 => ∃ m, m ≤ (d.1 11).length ∧ x3 = nI m ∧ x2 = nI (d.1 11).length ∧ w = (d.1 11).length - m ∧ fCarryN t ((d.1 11).length - m) m d' = fCarry t d, ?_, ?_⟩
  · rintro w d' x2 x3 ⟨m, h1, rfl, rfl, rfl, h2⟩
    unfold wp_X0_carryOut_10
    unfold yl
    by_cases c : (d.1 11).length ≤ m
    · rw [if_pos ((nI_leI hl (by omega)).mpr c)]
      have e : m = (d.1 11).length := by omega
      subst e
      rw [Nat.sub_self] at h2
      rw [← h2]
      exact ⟨rfl, rfl⟩
    · rw [if_neg (fun z => c ((nI_leI hl (by omega)).mp z))]
      obtain ⟨n, hn⟩ : ∃ n, (d.1 11).length - m = n + 1 := ⟨(d.1 11).length - m - 1, by omega⟩
      rw [hn] at h2
      unfold fCarryN at h2
      by_cases c2 : rAt (t.1 0) (nI m) < d'.2 0
      · rw [if_pos c2] at h2 ⊢
        refine ⟨_, ?_, m + 1, by omega, nI_1 m, rfl, rfl, ?_⟩
        · omega
        · rw [show (d.1 11).length - (m + 1) = n by omega]
          exact h2
      · rw [if_neg c2] at h2 ⊢
        rw [← h2]
        exact ⟨rfl, rfl⟩
  · exact ⟨_, 0, Nat.zero_le _, rfl, rfl, rfl, rfl⟩
def fFollow (t d : RV) : RV := (d.1 11).foldl (fun t v => (f_X5_step t d v).2) (f_X5_begin t d)
theorem p_X5_follow {t d : RV} (hl : (d.1 11).length < 2147483648) : PO_X5_follow d (fun t1 => t1 = fFollow t d) t := by
  refine ⟨fun w t' x => ∃ i, i ≤ (d.1 11).length ∧ x = nI i ∧ w = (d.1 11).length - i ∧ ((d.1 11).drop i).foldl (fun t v => (f_X5_step t d v).2) t' = fFollow t d, ?_, ?_⟩
  · rintro w t' x ⟨i, h1, rfl, rfl, h2⟩
    unfold wp_X5_follow_7 rLen
    simp only [yl]
    by_cases c : (d.1 11).length ≤ i
    · rw [if_pos ((nI_leI hl (by omega)).mpr c)]
      rw [List.drop_of_length_le c] at h2
      exact h2
    · rw [if_neg (fun z => c ((nI_leI hl (by omega)).mp z)), rAt_lt (by omega) (by omega)]
      rw [List.drop_eq_getElem_cons (by omega)] at h2
      refine ⟨_, ?_, i + 1, by omega, nI_1 i, rfl, h2⟩
      omega
  · exact ⟨_, 0, Nat.zero_le _, rfl, rfl, rfl⟩
def fKeepsL (d : RV) : List Int32 → RV → Int32 × RV
  | [], t => (1, t)
  | v :: l, t => if (f_X5_step t d v).1 = 0 then (0, (f_X5_step t d v).2) else fKeepsL d l (f_X5_step t d v).2
def fKeeps (t d : RV) : Int32 × RV := fKeepsL d (d.1 11) (f_X5_begin t d)
theorem p_X5_keepsAll {t d : RV} (hl : (d.1 11).length < 2147483648) : PO_X5_keepsAll d (fun r t1 => r = (fKeeps t d).1 ∧ t1 = (fKeeps t d).2) t := by
  refine ⟨fun w t' x => ∃ i, i ≤ (d.1 11).length ∧ x = nI i ∧ w = (d.1 11).length - i ∧ fKeepsL d ((d.1 11).drop i) t' = fKeeps t d, ?_, ?_⟩
  · rintro w t' x ⟨i, h1, rfl, rfl, h2⟩
    unfold wp_X5_keepsAll_7 rLen
    simp only [yl]
    by_cases c : (d.1 11).length ≤ i
    · rw [if_pos ((nI_leI hl (by omega)).mpr c)]
      rw [List.drop_of_length_le c] at h2
      rw [← h2]
      exact ⟨rfl, rfl⟩
    · rw [if_neg (fun z => c ((nI_leI hl (by omega)).mp z)), rAt_lt (by omega) (by omega)]
      rw [List.drop_eq_getElem_cons (by omega)] at h2
      unfold fKeepsL at h2
      by_cases c2 : (f_X5_step t' d (d.1 11)[i]).1 = 0
      · rw [if_pos c2] at h2 ⊢
        rw [← h2]
        exact ⟨rfl, rfl⟩
      · rw [if_neg c2] at h2 ⊢
        refine ⟨_, ?_, i + 1, by omega, nI_1 i, rfl, h2⟩
        omega
  · exact ⟨_, 0, Nat.zero_le _, rfl, rfl, rfl⟩
