/-! ===== all ways to put a ride in ===== -/
def fWay (d : RV) (ride : Int32) (s : RV × RV × RV) (pk dn : Int32) : RV × RV × RV :=
  (if (fKeeps T0 (f_X4_lay s.1 s.2.1 (d.1 11) ride pk dn)).1 = 0 then s.1 else f_X4_takeWay s.1 (fKeeps T0 (f_X4_lay s.1 s.2.1 (d.1 11) ride pk dn)).2 ride pk dn, f_X4_lay s.1 s.2.1 (d.1 11) ride pk dn, (fKeeps T0 (f_X4_lay s.1 s.2.1 (d.1 11) ride pk dn)).2)
/-- the ways with the picking up at i, the setting down from j on, of a route of n -/
def dnsOf (n i j : Nat) : List (Nat × Nat) := (List.range' j (n + 2 - j)).map (fun q => (i, q))
def waysFrom (n i : Nat) : List (Nat × Nat) := (List.range' i (n + 1 - i)).flatMap (fun q => dnsOf n q (q + 1))
def fFold (d : RV) (ride : Int32) (l : List (Nat × Nat)) (s : RV × RV × RV) : RV × RV × RV := l.foldl (fun s w => fWay d ride s (nI w.1) (nI w.2)) s
theorem waysFrom_end {n i : Nat} (h : n < i) : waysFrom n i = [] := by
  unfold waysFrom
  rw [show n + 1 - i = 0 by omega]
  rfl
theorem waysFrom_step {n i : Nat} (h : i ≤ n) : waysFrom n i = dnsOf n i (i + 1) ++ waysFrom n (i + 1) := by
  unfold waysFrom
  rw [show n + 1 - i = (n + 1 - (i + 1)) + 1 by omega, List.range'_succ, List.flatMap_cons]
theorem dnsOf_end {n i j : Nat} (h : n + 1 < j) : dnsOf n i j = [] := by
  unfold dnsOf
  rw [show n + 2 - j = 0 by omega]
  rfl
theorem dnsOf_step {n i j : Nat} (h : j ≤ n + 1) : dnsOf n i j = (i, j) :: dnsOf n i (j + 1) := by
  unfold dnsOf
  rw [show n + 2 - j = (n + 2 - (j + 1)) + 1 by omega, List.range'_succ, List.map_cons]
def fP0 (d : RV) : Nat := if f_X0_isOnItsWay d = 0 then 0 else 1
/-- the day with the ride added, its number -/
def fRide (d : RV) (fr to wa bt : Int32) : Int32 := (f_X0_addRide (f_X0_beReady d) fr to wa bt).1
def fDay1 (d : RV) (fr to wa bt : Int32) : RV := (f_X0_addRide (f_X0_beReady d) fr to wa bt).2
def fTried (d : RV) (fr to wa bt : Int32) (sv st : RV) : RV × RV × RV := fFold d (fRide d fr to wa bt) (waysFrom (d.1 11).length (fP0 d)) (rvI sv 0 0, fDay1 d fr to wa bt, st)
def fFindEnd (d : RV) (ride : Int32) (s : RV × RV × RV) : Int32 × RV × RV × RV := if s.1.2 0 ≤ 0 then (0, s) else (1, s.1, f_X4_lay s.1 s.2.1 (d.1 11) ride (s.1.2 5) (s.1.2 6), s.2.2)
def fFind (d : RV) (fr to wa bt : Int32) (sv st : RV) : Int32 × RV × RV × RV := fFindEnd d (fRide d fr to wa bt) (fTried d fr to wa bt sv st)
theorem p_X4_find {d : RV} {fr to wa bt : Int32} {sv sd st : RV} (hl : (d.1 11).length < 1000) : PO_X4_find d fr to wa bt (fun r sv1 sd1 st1 => r = (fFind d fr to wa bt sv st).1 ∧ sv1 = (fFind d fr to wa bt sv st).2.1 ∧ sd1 = (fFind d fr to wa bt sv st).2.2.1 ∧ st1 = (fFind d fr to wa bt sv st).2.2.2) sv sd st := by
  generalize hn : (d.1 11).length = n at hl
  refine ⟨fun w sv' sd' st' x6 x7 x8 => ∃ i, x8 = nI i ∧ x7 = nI n ∧ x6 = fRide d fr to wa bt ∧ i ≤ n + 1 ∧ w = (n + 1 - i) * (n + 3) ∧ fFold d (fRide d fr to wa bt) (waysFrom n i) (sv', sd', st') = fTried d fr to wa bt sv st,
    fun w sv' sd' st' x6 x7 x8 x9 => ∃ i j, x8 = nI i ∧ x9 = nI j ∧ x7 = nI n ∧ x6 = fRide d fr to wa bt ∧ i ≤ n ∧ j ≤ n + 2 ∧ w = (n - i) * (n + 3) + (n + 2 - j) + 1 ∧ fFold d (fRide d fr to wa bt) (dnsOf n i j ++ waysFrom n (i + 1)) (sv', sd', st') = fTried d fr to wa bt sv st, ?_, ?_, ?_⟩
  · rintro w sv' sd' st' x6 x7 x8 ⟨i, rfl, rfl, rfl, h1, rfl, h2⟩
    unfold wp_X4_find_58
    dsimp only [yl]
    by_cases c : n < i
    · rw [if_pos ((nI_ltI (by omega) (by omega)).mpr c)]
      rw [waysFrom_end c] at h2
      have h3 : fFind d fr to wa bt sv st = fFindEnd d (fRide d fr to wa bt) (sv', sd', st') := by unfold fFind; rw [← h2]; rfl
      rw [h3]
      unfold fFindEnd
      by_cases c2 : sv'.2 0 ≤ 0
      · rw [if_pos c2, if_pos c2]; exact ⟨rfl, rfl, rfl, rfl⟩
      · rw [if_neg c2, if_neg c2]; exact ⟨rfl, rfl, rfl, rfl⟩
    · rw [if_neg (fun z => c ((nI_ltI (by omega) (by omega)).mp z))]
      rw [waysFrom_step (by omega)] at h2
      refine ⟨_, ?_, i, i + 1, rfl, nI_1 i, rfl, rfl, by omega, by omega, rfl, h2⟩
      rw [show n + 1 - i = (n - i) + 1 by omega, Nat.succ_mul]
      omega
  · rintro w sv' sd' st' x6 x7 x8 x9 ⟨i, j, rfl, rfl, rfl, rfl, h1, h0, rfl, h2⟩
    unfold wp_X4_find_71
    dsimp only [yl]
    by_cases c : n + 1 < j
    · rw [if_pos (by rw [nI_1]; exact (nI_ltI (by omega) (by omega)).mpr c)]
      rw [dnsOf_end c] at h2
      refine ⟨_, ?_, i + 1, nI_1 i, rfl, rfl, by omega, rfl, h2⟩
      rw [show n + 1 - (i + 1) = n - i by omega]
      omega
    · rw [if_neg (fun z => c ((nI_ltI (by omega) (by omega)).mp (by rw [nI_1] at z; exact z)))]
      rw [dnsOf_step (by omega)] at h2
      have h3 : fFold d (fRide d fr to wa bt) (dnsOf n i (j + 1) ++ waysFrom n (i + 1)) (fWay d (fRide d fr to wa bt) (sv', sd', st') (nI i) (nI j)) = fTried d fr to wa bt sv st := h2
      unfold fWay at h3
      by_cases c2 : (fKeeps T0 (f_X4_lay sv' sd' (d.1 11) (fRide d fr to wa bt) (nI i) (nI j))).1 = 0
      · rw [if_pos c2]
        rw [if_pos c2] at h3
        exact ⟨_, by omega, i, j + 1, rfl, nI_1 j, rfl, rfl, h1, by omega, rfl, h3⟩
      · rw [if_neg c2]
        rw [if_neg c2] at h3
        exact ⟨_, by omega, i, j + 1, rfl, nI_1 j, rfl, rfl, h1, by omega, rfl, h3⟩
  · unfold wp_X4_find_0
    dsimp only [yl]
    have e : fTried d fr to wa bt sv st = fFold d (fRide d fr to wa bt) (waysFrom n (fP0 d)) (rvI sv 0 0, fDay1 d fr to wa bt, st) := by unfold fTried; rw [hn]
    unfold rLen
    rw [hn]
    by_cases c : f_X0_isOnItsWay d = 0
    · rw [if_pos c]
      refine ⟨_, 0, rfl, rfl, rfl, by omega, rfl, ?_⟩
      rw [e, show fP0 d = 0 from if_pos c]; rfl
    · rw [if_neg c]
      refine ⟨_, 1, rfl, rfl, rfl, by omega, rfl, ?_⟩
      rw [e, show fP0 d = 1 from if_neg c]; rfl
