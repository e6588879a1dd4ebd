/-! ===== the bus: booking the pad's rides, the dearest ride ===== -/
theorem rAdd_le {cap : Nat} {xs : List Int32} {v : Int32} (h : xs.length ≤ cap) : (rAdd cap xs v).length ≤ cap := by
  unfold rAdd
  split
  · exact h
  · rw [List.length_append, List.length_singleton]; omega
theorem nI_4 (k : Nat) : nI (4 * k) + 4 = nI (4 * (k + 1)) := by
  rw [show 4 * (k + 1) = (((4 * k + 1) + 1) + 1) + 1 by omega, ← nI_1, ← nI_1, ← nI_1, ← nI_1, Int32.add_assoc, Int32.add_assoc, Int32.add_assoc]
  rfl
/-- bookings n of the numbers, from the k-th on -/
def fBA (nums : List Int32) : Nat → Nat → RV → RV → RV → RV → Nat × RV × RV × RV × RV
  | 0, k, d, sv, sd, st => (k, d, sv, sd, st)
  | n + 1, k, d, sv, sd, st =>
    if 0 ≤ (f_X6_tryToBook d sv sd st (rAt nums (nI (4 * k))) (rAt nums (nI (4 * k) + 1)) (rAt nums (nI (4 * k) + 2)) (rAt nums (nI (4 * k) + 3))).1 then
      fBA nums n (k + 1) (f_X6_tryToBook d sv sd st (rAt nums (nI (4 * k))) (rAt nums (nI (4 * k) + 1)) (rAt nums (nI (4 * k) + 2)) (rAt nums (nI (4 * k) + 3))).2.2.1 (f_X6_tryToBook d sv sd st (rAt nums (nI (4 * k))) (rAt nums (nI (4 * k) + 1)) (rAt nums (nI (4 * k) + 2)) (rAt nums (nI (4 * k) + 3))).2.1 (f_X6_tryToBook d sv sd st (rAt nums (nI (4 * k))) (rAt nums (nI (4 * k) + 1)) (rAt nums (nI (4 * k) + 2)) (rAt nums (nI (4 * k) + 3))).2.2.1 (f_X6_tryToBook d sv sd st (rAt nums (nI (4 * k))) (rAt nums (nI (4 * k) + 1)) (rAt nums (nI (4 * k) + 2)) (rAt nums (nI (4 * k) + 3))).2.2.2
    else (k, d, (f_X6_tryToBook d sv sd st (rAt nums (nI (4 * k))) (rAt nums (nI (4 * k) + 1)) (rAt nums (nI (4 * k) + 2)) (rAt nums (nI (4 * k) + 3))).2.1, (f_X6_tryToBook d sv sd st (rAt nums (nI (4 * k))) (rAt nums (nI (4 * k) + 1)) (rAt nums (nI (4 * k) + 2)) (rAt nums (nI (4 * k) + 3))).2.2.1, (f_X6_tryToBook d sv sd st (rAt nums (nI (4 * k))) (rAt nums (nI (4 * k) + 1)) (rAt nums (nI (4 * k) + 2)) (rAt nums (nI (4 * k) + 3))).2.2.2)
def fHist (xs : List RV) (d : RV) : List RV := (if 6 ≤ xs.length then xs.drop 1 else xs) ++ [d]
/-- over of a day -/
def fOver (d : RV) : Int32 := (fFollow T0 d).2 1
/-- the dearest of n rides, from the i-th on -/
def fDE (d : RV) : Nat → Nat → RV → RV → Int32 → Int32 → RV × RV × Int32 × Int32
  | 0, _, t, sd, b, m => (t, sd, b, m)
  | n + 1, i, t, sd, b, m =>
    if rAt (d.1 8) (nI i) = 0 then
      if b = -6 then fDE d n (i + 1) (fFollow T0 (fLeave d (nI i) 3)) (fLeave d (nI i) 3) (nI i) (fOver d - fOver (fLeave d (nI i) 3))
      else if fOver d - fOver (fLeave d (nI i) 3) ≤ m then fDE d n (i + 1) (fFollow T0 (fLeave d (nI i) 3)) (fLeave d (nI i) 3) b m
      else fDE d n (i + 1) (fFollow T0 (fLeave d (nI i) 3)) (fLeave d (nI i) 3) (nI i) (fOver d - fOver (fLeave d (nI i) 3))
    else fDE d n (i + 1) t sd b m
def fDEnd (wh : Int32) (s : RV × RV × Int32 × Int32) : Int32 × RV × RV := (if s.2.2.1 = -6 then -6 else if wh = 0 then s.2.2.1 else s.2.2.2, s.1, s.2.1)
def fDearest (d t sd : RV) (wh : Int32) : Int32 × RV × RV := if wh = 0 ∨ wh = 1 then fDEnd wh (fDE d (d.1 8).length 0 (fFollow T0 d) sd (-6) 0) else (-2, t, sd)
