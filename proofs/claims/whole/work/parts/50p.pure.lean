/-! ===== the bus: booking the pad's rides, the dearest ride ===== -/
theorem rAdd_le {cap : Nat} {xs : List Int32} {v : Int32} (h : xs.length ≤ cap) : (rAdd cap xs v).length ≤ cap := by
  unfold rAdd
  split
  · exact h
  · rw [List.length_append, List.length_singleton]; omega
theorem ffL_len : ∀ (l : List Int32) (pl pa nu : Int32) (ns : List Int32), ns.length ≤ 31 → (ffL l pl pa nu ns).2.length ≤ 31 := by
  intro l
  induction l with
  | nil =>
    intro pl pa nu ns h
    unfold ffL
    split
    · exact h
    · split
      · exact rAdd_le h
      · exact h
  | cons c l ih =>
    intro pl pa nu ns h
    unfold ffL
    split
    · split
      · exact h
      · split
        · exact ih _ _ _ _ (rAdd_le h)
        · exact h
    · split
      · exact h
      · split
        · exact ih _ _ _ _ h
        · exact h
theorem fFault_len (p : RV) : (fFault p).2.length ≤ 31 := ffL_len _ _ _ _ _ (by simp)
theorem nI_4 (k : Nat) : nI (4 * k) + 4 = nI (4 * (k + 1)) := by
  rw [show 4 * (k + 1) = (((4 * k + 1) + 1) + 1) + 1 by omega, ← nI_1, ← nI_1, ← nI_1, ← nI_1, Int32.add_assoc, Int32.add_assoc, Int32.add_assoc]
  rfl
/-- bookings n of the numbers, from the k-th on -/
def fBA (nums : List Int32) : Nat → Nat → RV → RV → RV → RV → Nat × RV × RV × RV × RV
  | 0, k, d, sv, sd, st => (k, d, sv, sd, st)
  | n + 1, k, d, sv, sd, st =>
    if 0 ≤ (f_X6_tryToBook d sv sd st (rAt nums (nI (4 * k))) (rAt nums (nI (4 * k) + 1)) (rAt nums (nI (4 * k) + 2)) (rAt nums (nI (4 * k) + 3))).1 then
      fBA nums n (k + 1) (f_X6_tryToBook d sv sd st (rAt nums (nI (4 * k))) (rAt nums (nI (4 * k) + 1)) (rAt nums (nI (4 * k) + 2)) (rAt nums (nI (4 * k) + 3))).2.2.1 (f_X6_tryToBook d sv sd st (rAt nums (nI (4 * k))) (rAt nums (nI (4 * k) + 1)) (rAt nums (nI (4 * k) + 2)) (rAt nums (nI (4 * k) + 3))).2.1 (f_X6_tryToBook d sv sd st (rAt nums (nI (4 * k))) (rAt nums (nI (4 * k) + 1)) (rAt nums (nI (4 * k) + 2)) (rAt nums (nI (4 * k) + 3))).2.2.1 (f_X6_tryToBook d sv sd st (rAt nums (nI (4 * k))) (rAt nums (nI (4 * k) + 1)) (rAt nums (nI (4 * k) + 2)) (rAt nums (nI (4 * k) + 3))).2.2.2
    else (k, d, (f_X6_tryToBook d sv sd st (rAt nums (nI (4 * k))) (rAt nums (nI (4 * k) + 1)) (rAt nums (nI (4 * k) + 2)) (rAt nums (nI (4 * k) + 3))).2.1, (f_X6_tryToBook d sv sd st (rAt nums (nI (4 * k))) (rAt nums (nI (4 * k) + 1)) (rAt nums (nI (4 * k) + 2)) (rAt nums (nI (4 * k) + 3))).2.2.1, (f_X6_tryToBook d sv sd st (rAt nums (nI (4 * k))) (rAt nums (nI (4 * k) + 1)) (rAt nums (nI (4 * k) + 2)) (rAt nums (nI (4 * k) + 3))).2.2.2)
def fHist (xs : List RV) (d : RV) : List RV := (if 6 ≤ xs.length then xs.drop 1 else xs) ++ [d]
def fBAll (d sv sd st p : RV) : Nat × RV × RV × RV × RV := fBA (fFault p).2 (((fFault p).2.length + 3) / 4) 0 d sv sd st
def fBookAll (d sv sd st p : RV) (xs : List RV) : Int32 × RV × RV × RV × RV × RV × List RV :=
  if (fFault p).1 = -6 then (nI (fBAll d sv sd st p).1, (fBAll d sv sd st p).2.1, (fBAll d sv sd st p).2.2.1, (fBAll d sv sd st p).2.2.2.1, (fBAll d sv sd st p).2.2.2.2, rvR (rvR p 1 (fFault p).2) 0 [], fHist xs d)
  else (-3, d, sv, sd, st, rvR p 1 (fFault p).2, xs)
theorem p_X6_bookAll {d sv sd st p : RV} {xs : List RV} : PO_X6_bookAll (fun r d1 sv1 sd1 st1 p1 xs1 => r = (fBookAll d sv sd st p xs).1 ∧ d1 = (fBookAll d sv sd st p xs).2.1 ∧ sv1 = (fBookAll d sv sd st p xs).2.2.1 ∧ sd1 = (fBookAll d sv sd st p xs).2.2.2.1 ∧ st1 = (fBookAll d sv sd st p xs).2.2.2.2.1 ∧ p1 = (fBookAll d sv sd st p xs).2.2.2.2.2.1 ∧ xs1 = (fBookAll d sv sd st p xs).2.2.2.2.2.2) d sv sd st p xs := by
  have hL : (fFault p).2.length ≤ 31 := fFault_len p
  generalize hn : ((fFault p).2.length + 3) / 4 = n
  refine ⟨fun w d' sv' sd' st' p' xs' x1 x2 => ∃ k, x1 = nI k ∧ x2 = nI (4 * k) ∧ k ≤ n ∧ w = n - k ∧ p' = rvR p 1 (fFault p).2 ∧ xs' = fHist xs d ∧ (fFault p).1 = -6 ∧ fBA (fFault p).2 (n - k) k d' sv' sd' st' = fBAll d sv sd st p, ?_, ?_⟩
  · rintro w d' sv' sd' st' p' xs' x1 x2 ⟨k, rfl, rfl, hk, rfl, rfl, rfl, hf, hb⟩
    unfold wp_X6_bookAll_30
    dsimp only [yl]
    rw [rvR_eq]
    have fin : ∀ (k' : Nat) (d' sv' sd' st' : RV), (k', d', sv', sd', st') = fBAll d sv sd st p → (nI k' = (fBookAll d sv sd st p xs).1 ∧ d' = (fBookAll d sv sd st p xs).2.1 ∧ sv' = (fBookAll d sv sd st p xs).2.2.1 ∧ sd' = (fBookAll d sv sd st p xs).2.2.2.1 ∧ st' = (fBookAll d sv sd st p xs).2.2.2.2.1 ∧ rvR (rvR p 1 (fFault p).2) 0 [] = (fBookAll d sv sd st p xs).2.2.2.2.2.1 ∧ fHist xs d = (fBookAll d sv sd st p xs).2.2.2.2.2.2) := by
      intro k' d' sv' sd' st' e
      unfold fBookAll
      rw [if_pos hf, ← e]
      exact ⟨rfl, rfl, rfl, rfl, rfl, rfl, rfl⟩
    unfold rLen
    by_cases c : (fFault p).2.length ≤ 4 * k
    · rw [if_pos ((nI_leI (by omega) (by omega)).mpr c)]
      rw [show n - k = 0 by omega] at hb
      exact fin _ _ _ _ _ hb
    · rw [if_neg (fun z => c ((nI_leI (by omega) (by omega)).mp z))]
      rw [show n - k = (n - (k + 1)) + 1 by omega] at hb
      unfold fBA at hb
      generalize f_X6_tryToBook d' sv' sd' st' (rAt (fFault p).2 (nI (4 * k))) (rAt (fFault p).2 (nI (4 * k) + 1)) (rAt (fFault p).2 (nI (4 * k) + 2)) (rAt (fFault p).2 (nI (4 * k) + 3)) = r at hb ⊢
      by_cases c2 : 0 ≤ r.1
      · rw [if_pos c2] at hb ⊢
        exact ⟨_, by omega, k + 1, nI_1 k, nI_4 k, by omega, rfl, rfl, rfl, hf, hb⟩
      · rw [if_neg c2] at hb ⊢
        exact fin _ _ _ _ _ hb
  · unfold wp_X6_bookAll_0
    dsimp only [yl]
    by_cases c : (fFault p).1 = -6
    · rw [if_pos c]
      refine ⟨_, 0, rfl, rfl, by omega, rfl, rfl, rfl, c, ?_⟩
      unfold fBAll
      rw [hn]
      rfl
    · rw [if_neg c]
      unfold fBookAll
      rw [if_neg c]
      exact ⟨rfl, rfl, rfl, rfl, rfl, rfl, rfl⟩
/-- over of a day -/
def fOver (d : RV) : Int32 := (fFollow T0 d).2 1
/-- the dearest of n rides, from the i-th on -/
def fDE (d : RV) : Nat → Nat → RV → RV → Int32 → Int32 → RV × RV × Int32 × Int32
  | 0, _, t, sd, b, m => (t, sd, b, m)
  | n + 1, i, t, sd, b, m =>
    if rAt (d.1 8) (nI i) = 0 then
      if b = -6 then fDE d n (i + 1) (fFollow T0 (fLeave d (nI i) 3)) (fLeave d (nI i) 3) (nI i) (fOver d - fOver (fLeave d (nI i) 3))
      else if fOver d - fOver (fLeave d (nI i) 3) ≤ m then fDE d n (i + 1) (fFollow T0 (fLeave d (nI i) 3)) (fLeave d (nI i) 3) b m
      else fDE d n (i + 1) (fFollow T0 (fLeave d (nI i) 3)) (fLeave d (nI i) 3) (nI i) (fOver d - fOver (fLeave d (nI i) 3))
    else fDE d n (i + 1) t sd b m
def fDEnd (wh : Int32) (s : RV × RV × Int32 × Int32) : Int32 × RV × RV := (if s.2.2.1 = -6 then -6 else if wh = 0 then s.2.2.1 else s.2.2.2, s.1, s.2.1)
def fDearest (d t sd : RV) (wh : Int32) : Int32 × RV × RV := if wh = 0 ∨ wh = 1 then fDEnd wh (fDE d (d.1 8).length 0 (fFollow T0 d) sd (-6) 0) else (-2, t, sd)
theorem p_X6_dearest {d t sv sd : RV} {wh : Int32} (hl : (d.1 8).length < 1000) : PO_X6_dearest d sv wh (fun r t1 sd1 => r = (fDearest d t sd wh).1 ∧ t1 = (fDearest d t sd wh).2.1 ∧ sd1 = (fDearest d t sd wh).2.2) t sd := by
  generalize hn : (d.1 8).length = n at hl
  obtain ⟨E0, hE⟩ : ∃ z, z = fDE d n 0 (fFollow T0 d) sd (-6) 0 := ⟨_, rfl⟩
  refine ⟨fun w t' sd' x2 x3 x4 x5 => ∃ i, x5 = nI i ∧ i ≤ n ∧ w = n - i ∧ x2 = fOver d ∧ (wh = 0 ∨ wh = 1) ∧ fDE d (n - i) i t' sd' x3 x4 = E0, ?_, ?_⟩
  · rintro w t' sd' x2 x3 x4 x5 ⟨i, rfl, hi, rfl, rfl, hw, hb⟩
    unfold wp_X6_dearest_30
    dsimp only [yl]
    unfold rLen
    rw [hn]
    by_cases c : n ≤ i
    · rw [if_pos ((nI_leI (by omega) (by omega)).mpr c)]
      rw [show n - i = 0 by omega] at hb
      have e : fDearest d t sd wh = fDEnd wh (t', sd', x3, x4) := by unfold fDearest; rw [if_pos hw, hn, ← hE, ← hb]; rfl
      rw [e]
      unfold fDEnd
      by_cases c1 : x3 = -6
      · rw [if_pos c1, if_pos c1]; exact ⟨rfl, rfl, rfl⟩
      · rw [if_neg c1, if_neg c1]
        by_cases c2 : wh = 0
        · rw [if_pos c2, if_pos c2]; exact ⟨rfl, rfl, rfl⟩
        · rw [if_neg c2, if_neg c2]; exact ⟨rfl, rfl, rfl⟩
    · rw [if_neg (fun z => c ((nI_leI (by omega) (by omega)).mp z))]
      rw [show n - i = (n - (i + 1)) + 1 by omega] at hb
      unfold fDE at hb
      by_cases c1 : rAt (d.1 8) (nI i) = 0
      · rw [if_pos c1] at hb ⊢
        show if x3 = -6 then _ else if fOver d - fOver (fLeave d (nI i) 3) ≤ x4 then _ else _
        by_cases c2 : x3 = -6
        · rw [if_pos c2] at hb ⊢
          exact ⟨_, by omega, i + 1, nI_1 i, by omega, rfl, rfl, hw, hb⟩
        · rw [if_neg c2] at hb ⊢
          by_cases c3 : fOver d - fOver (fLeave d (nI i) 3) ≤ x4
          · rw [if_pos c3] at hb ⊢
            exact ⟨_, by omega, i + 1, nI_1 i, by omega, rfl, rfl, hw, hb⟩
          · rw [if_neg c3] at hb ⊢
            exact ⟨_, by omega, i + 1, nI_1 i, by omega, rfl, rfl, hw, hb⟩
      · rw [if_neg c1] at hb ⊢
        exact ⟨_, by omega, i + 1, nI_1 i, by omega, rfl, rfl, hw, hb⟩
  · unfold wp_X6_dearest_0
    dsimp only [yl]
    by_cases c : wh = 0
    · rw [if_pos c]
      exact ⟨_, 0, rfl, by omega, rfl, rfl, Or.inl c, hE.symm⟩
    · rw [if_neg c]
      by_cases c2 : wh = 1
      · rw [if_pos c2]
        exact ⟨_, 0, rfl, by omega, rfl, rfl, Or.inr c2, hE.symm⟩
      · rw [if_neg c2]
        unfold fDearest
        rw [if_neg (by rintro (q | q); exact c q; exact c2 q)]
        exact ⟨rfl, rfl, rfl⟩
