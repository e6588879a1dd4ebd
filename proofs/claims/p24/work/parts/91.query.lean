/-! ===== what the questions answer, whatever the timetable held ===== -/
theorem fst_if {c : Prop} [Decidable c] {α β : Type} (a b : α × β) : (if c then a else b).1 = if c then a.1 else b.1 := by
  split <;> rfl
def cF (d : RV) (wh : Int32) : Int32 := (f_X6_count d T0 T0 0 wh).1
def rF (d : RV) (k wh : Int32) : Int32 := (f_X6_ride d T0 k wh).1
def vF (d : RV) (k wh : Int32) : Int32 := (f_X6_visit d T0 k wh).1
def sF (d : RV) (k : Int32) : Int32 := (f_X6_spare d T0 k).1
theorem cnt_c {d t p : RV} {hn wh : Int32} (h12 : ¬ wh = 12) (h13 : ¬ wh = 13) : (f_X6_count d t p hn wh).1 = cF d wh := by
  unfold cF f_X6_count f_X6_overOf
  simp only [yl, fst_if, if_neg h12, if_neg h13]
theorem cnt_13 (d t p : RV) (hn : Int32) : (f_X6_count d t p hn 13).1 = hn := by
  unfold f_X6_count
  rw [if_neg (by decide), if_neg (by decide), if_neg (by decide), if_neg (by decide), if_neg (by decide), if_neg (by decide), if_neg (by decide), if_neg (by decide), if_neg (by decide), if_neg (by decide), if_neg (by decide), if_neg (by decide), if_neg (by decide), if_pos rfl]
theorem ride_c (d t : RV) (k wh : Int32) : (f_X6_ride d t k wh).1 = rF d k wh := by
  unfold rF f_X6_ride
  simp only [yl, fst_if]
theorem visit_c (d t : RV) (k wh : Int32) : (f_X6_visit d t k wh).1 = vF d k wh := by
  unfold vF f_X6_visit
  simp only [yl, fst_if]
theorem spare_c (d t : RV) (k : Int32) : (f_X6_spare d t k).1 = sF d k := by
  unfold sF f_X6_spare
  simp only [yl, fst_if]
theorem cF_0 (d : RV) : cF d 0 = rLen (d.1 1) := by
  unfold cF f_X6_count
  rw [if_pos rfl]
  rfl
theorem cF_1 (d : RV) : cF d 1 = rLen (d.1 8) := by
  unfold cF f_X6_count
  rw [if_neg (by decide), if_pos rfl]
  rfl
theorem cF_2 (d : RV) : cF d 2 = rLen (d.1 11) := by
  unfold cF f_X6_count
  rw [if_neg (by decide), if_neg (by decide), if_pos rfl]
  rfl
theorem cF_3 (d : RV) : cF d 3 = d.2 0 := by
  unfold cF f_X6_count
  rw [if_neg (by decide), if_neg (by decide), if_neg (by decide), if_pos rfl]
theorem cF_4 (d : RV) : cF d 4 = (fFollow T0 d).2 1 := by
  unfold cF f_X6_count
  rw [if_neg (by decide), if_neg (by decide), if_neg (by decide), if_neg (by decide), if_pos rfl]
  rfl
theorem cF_5 (d : RV) : cF d 5 = nStand (d.1 8) 1 := by
  unfold cF f_X6_count
  rw [if_neg (by decide), if_neg (by decide), if_neg (by decide), if_neg (by decide), if_neg (by decide), if_pos rfl]
  rfl
theorem cF_6 (d : RV) : cF d 6 = nStand (d.1 8) 2 := by
  unfold cF f_X6_count
  rw [if_neg (by decide), if_neg (by decide), if_neg (by decide), if_neg (by decide), if_neg (by decide), if_neg (by decide), if_pos rfl]
  rfl
theorem cF_9 (d : RV) : cF d 9 = rAt (d.1 0) 0 := by
  unfold cF f_X6_count
  rw [if_neg (by decide), if_neg (by decide), if_neg (by decide), if_neg (by decide), if_neg (by decide), if_neg (by decide), if_neg (by decide), if_neg (by decide), if_neg (by decide), if_pos rfl]
  rfl
theorem cF_10 (d : RV) : cF d 10 = rAt (d.1 0) 1 := by
  unfold cF f_X6_count
  rw [if_neg (by decide), if_neg (by decide), if_neg (by decide), if_neg (by decide), if_neg (by decide), if_neg (by decide), if_neg (by decide), if_neg (by decide), if_neg (by decide), if_neg (by decide), if_pos rfl]
  rfl
theorem cF_11 (d : RV) : cF d 11 = rAt (d.1 0) 2 := by
  unfold cF f_X6_count
  rw [if_neg (by decide), if_neg (by decide), if_neg (by decide), if_neg (by decide), if_neg (by decide), if_neg (by decide), if_neg (by decide), if_neg (by decide), if_neg (by decide), if_neg (by decide), if_neg (by decide), if_pos rfl]
  rfl
theorem has_in {d : RV} {k : Nat} (h : k < (d.1 8).length) (hl : (d.1 8).length < 1000) : ¬ f_X0_hasRide d (nI k) = 0 := by
  rw [hasRide_eq, if_neg (nI_pos (by omega)), if_neg (fun z => by have := (nI_leI (by omega) (by omega)).mp z; omega)]
  decide
theorem rF_at {d : RV} {k : Nat} (h : k < (d.1 8).length) (hl : (d.1 8).length < 1000) : rF d (nI k) 0 = gA (d.1 3) k ∧ rF d (nI k) 1 = gA (d.1 4) k ∧ rF d (nI k) 2 = gA (d.1 5) k ∧ rF d (nI k) 4 = gA (d.1 8) k ∧ rF d (nI k) 5 = gA ((fFollow T0 d).1 3) k ∧ rF d (nI k) 6 = gA ((fFollow T0 d).1 4) k ∧ rF d (nI k) 7 = gA (d.1 7) k := by
  have hr := has_in h hl
  unfold rF f_X6_ride
  simp only [yl, fst_if]
  rw [← rAt_gA (xs := d.1 3) (i := k) (by omega), ← rAt_gA (xs := d.1 4) (i := k) (by omega), ← rAt_gA (xs := d.1 5) (i := k) (by omega), ← rAt_gA (xs := d.1 8) (i := k) (by omega), ← rAt_gA (xs := (fFollow T0 d).1 3) (i := k) (by omega), ← rAt_gA (xs := (fFollow T0 d).1 4) (i := k) (by omega), ← rAt_gA (xs := d.1 7) (i := k) (by omega)]
  refine ⟨?_, ?_, ?_, ?_, ?_, ?_, ?_⟩
  · rw [if_neg hr, if_pos trivial]
  · rw [if_neg hr, if_neg (by decide), if_pos trivial]
  · rw [if_neg hr, if_neg (by decide), if_neg (by decide), if_pos trivial]
  · rw [if_neg hr, if_neg (by decide), if_neg (by decide), if_neg (by decide), if_neg (by decide), if_pos trivial]
  · rw [if_neg hr, if_neg (by decide), if_neg (by decide), if_neg (by decide), if_neg (by decide), if_neg (by decide), if_pos trivial]
  · rw [if_neg hr, if_neg (by decide), if_neg (by decide), if_neg (by decide), if_neg (by decide), if_neg (by decide), if_neg (by decide), if_pos trivial]
  · rw [if_neg hr, if_neg (by decide), if_neg (by decide), if_neg (by decide), if_neg (by decide), if_neg (by decide), if_neg (by decide), if_neg (by decide), if_pos trivial]
theorem sF_at {d : RV} {k : Nat} (h : k < (d.1 8).length) (hl : (d.1 8).length < 1000) : sF d (nI k) = if gA (d.1 8) k = 0 then gA (d.1 6) k - gA ((fFollow T0 d).1 4) k else if gA (d.1 8) k = 1 then gA (d.1 6) k - gA ((fFollow T0 d).1 4) k else -5 := by
  have hr := has_in h hl
  unfold sF f_X6_spare
  simp only [yl, fst_if]
  rw [if_neg hr, rAt_gA (xs := d.1 8) (i := k) (by omega), rAt_gA (xs := d.1 6) (i := k) (by omega), rAt_gA (xs := (fFollow T0 d).1 4) (i := k) (by omega)]
theorem vF_at {d : RV} {k : Nat} (h : k < (d.1 11).length) (hl : (d.1 11).length < 1000) : vF d (nI k) 0 = f_X6_rideOf (gA (d.1 11) k) ∧ vF d (nI k) 1 = (if f_X6_setsDown (gA (d.1 11) k) = 0 then 0 else 1) ∧ vF d (nI k) 2 = f_X0_stopOf d (gA (d.1 11) k) ∧ vF d (nI k) 3 = gA ((fFollow T0 d).1 0) k ∧ vF d (nI k) 4 = gA ((fFollow T0 d).1 1) k ∧ vF d (nI k) 5 = gA ((fFollow T0 d).1 2) k := by
  have h0 : ¬ nI k < 0 := nI_pos (by omega)
  have h1 : nI k < rLen (d.1 11) := (nI_ltI (by omega) (by omega)).mpr h
  unfold vF f_X6_visit
  simp only [yl, fst_if]
  rw [← rAt_gA (xs := d.1 11) (i := k) (by omega), ← rAt_gA (xs := (fFollow T0 d).1 0) (i := k) (by omega), ← rAt_gA (xs := (fFollow T0 d).1 1) (i := k) (by omega), ← rAt_gA (xs := (fFollow T0 d).1 2) (i := k) (by omega)]
  refine ⟨?_, ?_, ?_, ?_, ?_, ?_⟩
  · rw [if_neg h0, if_pos h1, if_pos trivial]
  · rw [if_neg h0, if_pos h1, if_neg (by decide), if_pos trivial]
  · rw [if_neg h0, if_pos h1, if_neg (by decide), if_neg (by decide), if_pos trivial]
  · rw [if_neg h0, if_pos h1, if_neg (by decide), if_neg (by decide), if_neg (by decide), if_pos trivial]
  · rw [if_neg h0, if_pos h1, if_neg (by decide), if_neg (by decide), if_neg (by decide), if_neg (by decide), if_pos trivial]
  · rw [if_neg h0, if_pos h1, if_neg (by decide), if_neg (by decide), if_neg (by decide), if_neg (by decide), if_neg (by decide), if_pos trivial]
theorem vF_end (d : RV) (hl : (d.1 11).length < 1000) : vF d (rLen (d.1 11)) 0 = -1 := by
  unfold vF f_X6_visit
  simp only [yl, fst_if]
  unfold rLen
  rw [if_neg (nI_pos (by omega)), if_neg (fun z => by have := (nI_ltI (by omega) (by omega)).mp z; omega)]
/-! ===== the digest is a number of the day ===== -/
def dgF (f : Nat → Int64 → Int64) : Nat → Int64 → Int64
  | 0, h => h
  | n + 1, h => f n (dgF f n h)
theorem dgF_zero (f : Nat → Int64 → Int64) (h : Int64) : dgF f 0 h = h := rfl
theorem dgF_succ (f : Nat → Int64 → Int64) (n : Nat) (h : Int64) : dgF f (n + 1) h = f n (dgF f n h) := rfl
def dg6 (d : RV) : Nat → Int64 → Int64 := fun k h => (31 : Int64) * h + (cF d (nI k)).toInt64
def dg45 (d : RV) (k : Nat) : Nat → Int64 → Int64 := fun j h => (31 : Int64) * h + (rF d (nI k) (nI j)).toInt64
def dg33 (d : RV) : Nat → Int64 → Int64 := fun k h => dgF (dg45 d k) 8 h
def dg93 (d : RV) (k : Nat) : Nat → Int64 → Int64 := fun j h => (31 : Int64) * h + (vF d (nI k) (nI j)).toInt64
def dg81 (d : RV) : Nat → Int64 → Int64 := fun k h => dgF (dg93 d k) 6 h
def dg129 (d : RV) : Nat → Int64 → Int64 := fun k h => ((31 : Int64) * (((31 : Int64) * h) + (f_X6_coordinate d (nI k) 0).toInt64)) + (f_X6_coordinate d (nI k) 1).toInt64
def dgA (d : RV) : Int64 := dgF (dg6 d) 12 3
def dgB (d : RV) : Int64 := dgF (dg33 d) (d.1 8).length (dgA d)
def dgC (d : RV) : Int64 := dgF (dg81 d) (d.1 11).length (dgB d)
def digD (d : RV) : Int64 := dgF (dg129 d) (d.1 1).length (dgC d)
theorem p_L_digest {d p t : RV} {xs : List RV} (h8 : (d.1 8).length ≤ 17) (h11 : (d.1 11).length ≤ 34) (h1 : (d.1 1).length ≤ 12) : PO_L_digest d p xs (fun r _ => r = digD d) t := by
  refine ⟨fun w _ h x => ∃ k, k ≤ 12 ∧ x = nI k ∧ h = dgF (dg6 d) k 3 ∧ w = 3000 + (12 - k), fun w _ h x => ∃ k, k ≤ (d.1 8).length ∧ x = nI k ∧ h = dgF (dg33 d) k (dgA d) ∧ w = 1000 + 10 * ((d.1 8).length - k), fun w _ h x y => ∃ k j, k < (d.1 8).length ∧ j ≤ 8 ∧ x = nI k ∧ y = nI j ∧ h = dgF (dg45 d k) j (dgF (dg33 d) k (dgA d)) ∧ w = 1000 + 10 * ((d.1 8).length - (k + 1)) + (8 - j) + 1, fun w _ h x => ∃ k, k ≤ (d.1 11).length ∧ x = nI k ∧ h = dgF (dg81 d) k (dgB d) ∧ w = 100 + 10 * ((d.1 11).length - k), fun w _ h x y => ∃ k j, k < (d.1 11).length ∧ j ≤ 6 ∧ x = nI k ∧ y = nI j ∧ h = dgF (dg93 d k) j (dgF (dg81 d) k (dgB d)) ∧ w = 100 + 10 * ((d.1 11).length - (k + 1)) + (6 - j) + 1, fun w _ h x => ∃ k, k ≤ (d.1 1).length ∧ x = nI k ∧ h = dgF (dg129 d) k (dgC d) ∧ w = (d.1 1).length - k, ?_, ?_, ?_, ?_, ?_, ?_, ?_⟩
  · rintro w t' h x ⟨k, hk, rfl, rfl, rfl⟩
    unfold wp_L_digest_6
    dsimp only [yl]
    by_cases c : 12 ≤ k
    · rw [if_pos (show (12 : Int32) ≤ nI k from (nI_leI (a := 12) (by omega) (by omega)).mpr c)]
      refine ⟨_, ?_, 0, by omega, rfl, ?_, rfl⟩
      · omega
      · rw [show k = 12 by omega, dgF_zero]; rfl
    · rw [if_neg (fun (z : (12 : Int32) ≤ nI k) => c ((nI_leI (a := 12) (by omega) (by omega)).mp z))]
      have e12 : ¬ nI k = 12 := fun z => absurd ((nI_eq (b := 12) (by omega) (by omega)).mp z) (by omega)
      have e13 : ¬ nI k = 13 := fun z => absurd ((nI_eq (b := 13) (by omega) (by omega)).mp z) (by omega)
      rw [cnt_c e12 e13]
      exact ⟨_, by omega, k + 1, by omega, nI_1 k, (dgF_succ (dg6 d) k 3).symm, rfl⟩
  · rintro w t' h x ⟨k, hk, rfl, rfl, rfl⟩
    unfold wp_L_digest_33
    dsimp only [yl]
    rw [cnt_c (by decide) (by decide), cF_1]
    by_cases c : (d.1 8).length ≤ k
    · rw [if_pos (show rLen (d.1 8) ≤ nI k from (nI_leI (by omega) (by omega)).mpr c)]
      refine ⟨_, ?_, 0, by omega, rfl, ?_, rfl⟩
      · omega
      · rw [show k = (d.1 8).length by omega, dgF_zero]; rfl
    · rw [if_neg (fun (z : rLen (d.1 8) ≤ nI k) => c ((nI_leI (by omega) (by omega)).mp z))]
      exact ⟨_, by omega, k, 0, by omega, by omega, rfl, rfl, (dgF_zero _ _).symm, rfl⟩
  · rintro w t' h x y ⟨k, j, hk, hj, rfl, rfl, rfl, rfl⟩
    unfold wp_L_digest_45
    dsimp only [yl]
    by_cases c : 8 ≤ j
    · rw [if_pos (show (8 : Int32) ≤ nI j from (nI_leI (a := 8) (by omega) (by omega)).mpr c)]
      refine ⟨_, ?_, k + 1, by omega, nI_1 k, ?_, rfl⟩
      · omega
      · rw [show j = 8 by omega, dgF_succ]; rfl
    · rw [if_neg (fun (z : (8 : Int32) ≤ nI j) => c ((nI_leI (a := 8) (by omega) (by omega)).mp z)), ride_c]
      exact ⟨_, by omega, k, j + 1, hk, by omega, rfl, nI_1 j, (dgF_succ (dg45 d k) j _).symm, rfl⟩
  · rintro w t' h x ⟨k, hk, rfl, rfl, rfl⟩
    unfold wp_L_digest_81
    dsimp only [yl]
    rw [cnt_c (by decide) (by decide), cF_2]
    by_cases c : (d.1 11).length ≤ k
    · rw [if_pos (show rLen (d.1 11) ≤ nI k from (nI_leI (by omega) (by omega)).mpr c)]
      refine ⟨_, ?_, 0, by omega, rfl, ?_, rfl⟩
      · omega
      · rw [show k = (d.1 11).length by omega, dgF_zero]; rfl
    · rw [if_neg (fun (z : rLen (d.1 11) ≤ nI k) => c ((nI_leI (by omega) (by omega)).mp z))]
      exact ⟨_, by omega, k, 0, by omega, by omega, rfl, rfl, (dgF_zero _ _).symm, rfl⟩
  · rintro w t' h x y ⟨k, j, hk, hj, rfl, rfl, rfl, rfl⟩
    unfold wp_L_digest_93
    dsimp only [yl]
    by_cases c : 6 ≤ j
    · rw [if_pos (show (6 : Int32) ≤ nI j from (nI_leI (a := 6) (by omega) (by omega)).mpr c)]
      refine ⟨_, ?_, k + 1, by omega, nI_1 k, ?_, rfl⟩
      · omega
      · rw [show j = 6 by omega, dgF_succ]; rfl
    · rw [if_neg (fun (z : (6 : Int32) ≤ nI j) => c ((nI_leI (a := 6) (by omega) (by omega)).mp z)), visit_c]
      exact ⟨_, by omega, k, j + 1, hk, by omega, rfl, nI_1 j, (dgF_succ (dg93 d k) j _).symm, rfl⟩
  · rintro w t' h x ⟨k, hk, rfl, rfl, rfl⟩
    unfold wp_L_digest_129
    dsimp only [yl]
    rw [cnt_c (by decide) (by decide), cF_0]
    by_cases c : (d.1 1).length ≤ k
    · rw [if_pos (show rLen (d.1 1) ≤ nI k from (nI_leI (by omega) (by omega)).mpr c), show k = (d.1 1).length by omega]
      rfl
    · rw [if_neg (fun (z : rLen (d.1 1) ≤ nI k) => c ((nI_leI (by omega) (by omega)).mp z))]
      exact ⟨_, by omega, k + 1, by omega, nI_1 k, (dgF_succ (dg129 d) k _).symm, rfl⟩
  · exact ⟨_, 0, by omega, rfl, (dgF_zero _ _).symm, rfl⟩
