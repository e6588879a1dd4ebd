/-! ===== the law: one turn keeps that the two agree ===== -/
def xI (x0 : Int32) : RV → RV → RV → RV → RV → RV → MV → SL × SL → List RV → Int32 → Prop := fun d _ _ _ _ p m o xs i => modR m d p xs (slA o.1) (slA o.2) ∧ i = x0
theorem ite_T {c p q : Prop} [Decidable c] (h : c) (hp : p) : if c then p else q := by rw [if_pos h]; exact hp
theorem ite_P {c p q : Prop} [Decidable c] (hp : p) (hq : q) : if c then p else q := by split <;> assumption
set_option maxHeartbeats 1000000 in
theorem pl_132 {L : Nat} {sx : Nat → Int32} {d t sv sd st p : RV} {m : MV} {o : SL × SL} {xs : List RV} {x3 : Int32} (hM : modR m d p xs (slA o.1) (slA o.2)) (h1 : vp_in (x3 + (1 : Int32)) L) (h2 : vp_in (x3 + (2 : Int32)) L) (h3 : vp_in (x3 + (3 : Int32)) L) (h4 : vp_in (x3 + (4 : Int32)) L) (h5 : vp_in (x3 + (5 : Int32)) L) : wl_132 L sx (xI x3) d t sv sd st p m o xs x3 := by
  unfold wl_132
  try dsimp only [yl]
  refine ⟨h1, h2, h1, h2, ?_⟩
  exact zz_set rfl hM (fun m' h' => ite_T rfl ⟨h', rfl⟩)
set_option maxHeartbeats 1000000 in
theorem pl_165 {L : Nat} {sx : Nat → Int32} {d t sv sd st p : RV} {m : MV} {o : SL × SL} {xs : List RV} {x3 : Int32} (hM : modR m d p xs (slA o.1) (slA o.2)) (h1 : vp_in (x3 + (1 : Int32)) L) (h2 : vp_in (x3 + (2 : Int32)) L) (h3 : vp_in (x3 + (3 : Int32)) L) (h4 : vp_in (x3 + (4 : Int32)) L) (h5 : vp_in (x3 + (5 : Int32)) L) : wl_165 L sx (xI x3) d t sv sd st p m o xs x3 := by
  unfold wl_165
  try dsimp only [yl]
  refine ⟨h1, h2, h1, h2, ?_⟩
  exact zz_stop rfl hM (fun m' h' => ite_T rfl ⟨h', rfl⟩)
set_option maxHeartbeats 1000000 in
theorem pl_198 {L : Nat} {sx : Nat → Int32} {d t sv sd st p : RV} {m : MV} {o : SL × SL} {xs : List RV} {x3 : Int32} (hM : modR m d p xs (slA o.1) (slA o.2)) (h1 : vp_in (x3 + (1 : Int32)) L) (h2 : vp_in (x3 + (2 : Int32)) L) (h3 : vp_in (x3 + (3 : Int32)) L) (h4 : vp_in (x3 + (4 : Int32)) L) (h5 : vp_in (x3 + (5 : Int32)) L) : wl_198 L sx (xI x3) d t sv sd st p m o xs x3 := by
  unfold wl_198
  try dsimp only [yl]
  refine ⟨h1, h2, h3, h4, h1, h2, h3, h4, ?_⟩
  exact zz_book rfl hM (fun m' h' => ite_T rfl ⟨h', rfl⟩)
set_option maxHeartbeats 1000000 in
theorem pl_251 {L : Nat} {sx : Nat → Int32} {d t sv sd st p : RV} {m : MV} {o : SL × SL} {xs : List RV} {x3 : Int32} (hM : modR m d p xs (slA o.1) (slA o.2)) (h1 : vp_in (x3 + (1 : Int32)) L) (h2 : vp_in (x3 + (2 : Int32)) L) (h3 : vp_in (x3 + (3 : Int32)) L) (h4 : vp_in (x3 + (4 : Int32)) L) (h5 : vp_in (x3 + (5 : Int32)) L) : wl_251 L sx (xI x3) d t sv sd st p m o xs x3 := by
  unfold wl_251
  try dsimp only [yl]
  refine ⟨h1, h1, ?_⟩
  exact zz_cancel rfl hM (fun m' h' => ite_T rfl ⟨h', rfl⟩)
set_option maxHeartbeats 1000000 in
theorem pl_274 {L : Nat} {sx : Nat → Int32} {d t sv sd st p : RV} {m : MV} {o : SL × SL} {xs : List RV} {x3 : Int32} (hM : modR m d p xs (slA o.1) (slA o.2)) (h1 : vp_in (x3 + (1 : Int32)) L) (h2 : vp_in (x3 + (2 : Int32)) L) (h3 : vp_in (x3 + (3 : Int32)) L) (h4 : vp_in (x3 + (4 : Int32)) L) (h5 : vp_in (x3 + (5 : Int32)) L) : wl_274 L sx (xI x3) d t sv sd st p m o xs x3 := by
  unfold wl_274
  try dsimp only [yl]
  refine ⟨h1, h1, ?_⟩
  exact zz_pass rfl hM (fun m' h' => ite_T rfl ⟨h', rfl⟩)
set_option maxHeartbeats 1000000 in
theorem pl_297 {L : Nat} {sx : Nat → Int32} {d t sv sd st p : RV} {m : MV} {o : SL × SL} {xs : List RV} {x3 : Int32} (hM : modR m d p xs (slA o.1) (slA o.2)) (h1 : vp_in (x3 + (1 : Int32)) L) (h2 : vp_in (x3 + (2 : Int32)) L) (h3 : vp_in (x3 + (3 : Int32)) L) (h4 : vp_in (x3 + (4 : Int32)) L) (h5 : vp_in (x3 + (5 : Int32)) L) : wl_297 L sx (xI x3) d t sv sd st p m o xs x3 := by
  unfold wl_297
  try dsimp only [yl]
  refine ⟨h1, h1, ?_⟩
  exact zz_miss rfl hM (fun m' h' => ite_T rfl ⟨h', rfl⟩)
set_option maxHeartbeats 1000000 in
theorem pl_320 {L : Nat} {sx : Nat → Int32} {d t sv sd st p : RV} {m : MV} {o : SL × SL} {xs : List RV} {x3 : Int32} (hM : modR m d p xs (slA o.1) (slA o.2)) (h1 : vp_in (x3 + (1 : Int32)) L) (h2 : vp_in (x3 + (2 : Int32)) L) (h3 : vp_in (x3 + (3 : Int32)) L) (h4 : vp_in (x3 + (4 : Int32)) L) (h5 : vp_in (x3 + (5 : Int32)) L) : wl_320 L sx (xI x3) d t sv sd st p m o xs x3 := by
  unfold wl_320
  try dsimp only [yl]
  exact zz_bookAll rfl hM (fun m' h' => ite_T rfl ⟨h', rfl⟩)
set_option maxHeartbeats 1000000 in
theorem pl_333 {L : Nat} {sx : Nat → Int32} {d t sv sd st p : RV} {m : MV} {o : SL × SL} {xs : List RV} {x3 : Int32} (hM : modR m d p xs (slA o.1) (slA o.2)) (h1 : vp_in (x3 + (1 : Int32)) L) (h2 : vp_in (x3 + (2 : Int32)) L) (h3 : vp_in (x3 + (3 : Int32)) L) (h4 : vp_in (x3 + (4 : Int32)) L) (h5 : vp_in (x3 + (5 : Int32)) L) : wl_333 L sx (xI x3) d t sv sd st p m o xs x3 := by
  unfold wl_333
  try dsimp only [yl]
  refine ⟨h1, h2, h1, h2, ?_⟩
  exact zz_ride hM (fun m' h' => ite_T rfl ⟨h', rfl⟩)
set_option maxHeartbeats 1000000 in
theorem pl_366 {L : Nat} {sx : Nat → Int32} {d t sv sd st p : RV} {m : MV} {o : SL × SL} {xs : List RV} {x3 : Int32} (hM : modR m d p xs (slA o.1) (slA o.2)) (h1 : vp_in (x3 + (1 : Int32)) L) (h2 : vp_in (x3 + (2 : Int32)) L) (h3 : vp_in (x3 + (3 : Int32)) L) (h4 : vp_in (x3 + (4 : Int32)) L) (h5 : vp_in (x3 + (5 : Int32)) L) : wl_366 L sx (xI x3) d t sv sd st p m o xs x3 := by
  unfold wl_366
  try dsimp only [yl]
  refine ⟨h1, h2, h1, h2, ?_⟩
  exact zz_visit hM (fun m' h' => ite_T rfl ⟨h', rfl⟩)
set_option maxHeartbeats 1000000 in
theorem pl_399 {L : Nat} {sx : Nat → Int32} {d t sv sd st p : RV} {m : MV} {o : SL × SL} {xs : List RV} {x3 : Int32} (hM : modR m d p xs (slA o.1) (slA o.2)) (h1 : vp_in (x3 + (1 : Int32)) L) (h2 : vp_in (x3 + (2 : Int32)) L) (h3 : vp_in (x3 + (3 : Int32)) L) (h4 : vp_in (x3 + (4 : Int32)) L) (h5 : vp_in (x3 + (5 : Int32)) L) : wl_399 L sx (xI x3) d t sv sd st p m o xs x3 := by
  unfold wl_399
  try dsimp only [yl]
  refine ⟨h1, h2, h1, h2, ?_⟩
  exact zz_coordinate hM (fun m' h' => ite_T rfl ⟨h', rfl⟩)
set_option maxHeartbeats 1000000 in
theorem pl_432 {L : Nat} {sx : Nat → Int32} {d t sv sd st p : RV} {m : MV} {o : SL × SL} {xs : List RV} {x3 : Int32} (hM : modR m d p xs (slA o.1) (slA o.2)) (h1 : vp_in (x3 + (1 : Int32)) L) (h2 : vp_in (x3 + (2 : Int32)) L) (h3 : vp_in (x3 + (3 : Int32)) L) (h4 : vp_in (x3 + (4 : Int32)) L) (h5 : vp_in (x3 + (5 : Int32)) L) : wl_432 L sx (xI x3) d t sv sd st p m o xs x3 := by
  unfold wl_432
  try dsimp only [yl]
  refine ⟨h1, h1, ?_⟩
  exact zz_count hM (fun m' h' => ite_T rfl ⟨h', rfl⟩)
set_option maxHeartbeats 1000000 in
theorem pl_455 {L : Nat} {sx : Nat → Int32} {d t sv sd st p : RV} {m : MV} {o : SL × SL} {xs : List RV} {x3 : Int32} (hM : modR m d p xs (slA o.1) (slA o.2)) (h1 : vp_in (x3 + (1 : Int32)) L) (h2 : vp_in (x3 + (2 : Int32)) L) (h3 : vp_in (x3 + (3 : Int32)) L) (h4 : vp_in (x3 + (4 : Int32)) L) (h5 : vp_in (x3 + (5 : Int32)) L) : wl_455 L sx (xI x3) d t sv sd st p m o xs x3 := by
  unfold wl_455
  try dsimp only [yl]
  refine ⟨h1, h2, h3, h4, h5, h1, h2, h3, h4, h5, ?_⟩
  exact zz_ifBooked hM (fun m' h' => ite_T rfl ⟨h', rfl⟩)
set_option maxHeartbeats 1000000 in
theorem pl_518 {L : Nat} {sx : Nat → Int32} {d t sv sd st p : RV} {m : MV} {o : SL × SL} {xs : List RV} {x3 : Int32} (hM : modR m d p xs (slA o.1) (slA o.2)) (h1 : vp_in (x3 + (1 : Int32)) L) (h2 : vp_in (x3 + (2 : Int32)) L) (h3 : vp_in (x3 + (3 : Int32)) L) (h4 : vp_in (x3 + (4 : Int32)) L) (h5 : vp_in (x3 + (5 : Int32)) L) : wl_518 L sx (xI x3) d t sv sd st p m o xs x3 := by
  unfold wl_518
  try dsimp only [yl]
  refine ⟨h1, h2, h3, h1, h2, h3, ?_⟩
  exact zz_earliestBy hM (fun m' h' => ite_T rfl ⟨h', rfl⟩)
set_option maxHeartbeats 1000000 in
theorem pl_561 {L : Nat} {sx : Nat → Int32} {d t sv sd st p : RV} {m : MV} {o : SL × SL} {xs : List RV} {x3 : Int32} (hM : modR m d p xs (slA o.1) (slA o.2)) (h1 : vp_in (x3 + (1 : Int32)) L) (h2 : vp_in (x3 + (2 : Int32)) L) (h3 : vp_in (x3 + (3 : Int32)) L) (h4 : vp_in (x3 + (4 : Int32)) L) (h5 : vp_in (x3 + (5 : Int32)) L) : wl_561 L sx (xI x3) d t sv sd st p m o xs x3 := by
  unfold wl_561
  try dsimp only [yl]
  refine ⟨h1, h1, ?_⟩
  exact zz_spare hM (fun m' h' => ite_T rfl ⟨h', rfl⟩)
set_option maxHeartbeats 1000000 in
theorem pl_584 {L : Nat} {sx : Nat → Int32} {d t sv sd st p : RV} {m : MV} {o : SL × SL} {xs : List RV} {x3 : Int32} (hM : modR m d p xs (slA o.1) (slA o.2)) (h1 : vp_in (x3 + (1 : Int32)) L) (h2 : vp_in (x3 + (2 : Int32)) L) (h3 : vp_in (x3 + (3 : Int32)) L) (h4 : vp_in (x3 + (4 : Int32)) L) (h5 : vp_in (x3 + (5 : Int32)) L) : wl_584 L sx (xI x3) d t sv sd st p m o xs x3 := by
  unfold wl_584
  try dsimp only [yl]
  refine ⟨h1, h1, ?_⟩
  exact zz_dearest hM (fun m' h' => ite_T rfl ⟨h', rfl⟩)
set_option maxHeartbeats 1000000 in
theorem pl_607 {L : Nat} {sx : Nat → Int32} {d t sv sd st p : RV} {m : MV} {o : SL × SL} {xs : List RV} {x3 : Int32} (hM : modR m d p xs (slA o.1) (slA o.2)) (h1 : vp_in (x3 + (1 : Int32)) L) (h2 : vp_in (x3 + (2 : Int32)) L) (h3 : vp_in (x3 + (3 : Int32)) L) (h4 : vp_in (x3 + (4 : Int32)) L) (h5 : vp_in (x3 + (5 : Int32)) L) : wl_607 L sx (xI x3) d t sv sd st p m o xs x3 := by
  unfold wl_607
  try dsimp only [yl]
  refine ⟨h1, h2, h1, h2, ?_⟩
  exact zz_put rfl hM (fun m' h' => ite_T rfl ⟨h', rfl⟩)
set_option maxHeartbeats 1000000 in
theorem pl_660 {L : Nat} {sx : Nat → Int32} {d t sv sd st p : RV} {m : MV} {o : SL × SL} {xs : List RV} {x3 : Int32} (hM : modR m d p xs (slA o.1) (slA o.2)) (h1 : vp_in (x3 + (1 : Int32)) L) (h2 : vp_in (x3 + (2 : Int32)) L) (h3 : vp_in (x3 + (3 : Int32)) L) (h4 : vp_in (x3 + (4 : Int32)) L) (h5 : vp_in (x3 + (5 : Int32)) L) : wl_660 L sx (xI x3) d t sv sd st p m o xs x3 := by
  unfold wl_660
  try dsimp only [yl]
  exact zz_wipe rfl hM (fun m' h' => ite_T rfl ⟨h', rfl⟩)
set_option maxHeartbeats 1000000 in
theorem pl_673 {L : Nat} {sx : Nat → Int32} {d t sv sd st p : RV} {m : MV} {o : SL × SL} {xs : List RV} {x3 : Int32} (hM : modR m d p xs (slA o.1) (slA o.2)) (h1 : vp_in (x3 + (1 : Int32)) L) (h2 : vp_in (x3 + (2 : Int32)) L) (h3 : vp_in (x3 + (3 : Int32)) L) (h4 : vp_in (x3 + (4 : Int32)) L) (h5 : vp_in (x3 + (5 : Int32)) L) : wl_673 L sx (xI x3) d t sv sd st p m o xs x3 := by
  unfold wl_673
  try dsimp only [yl]
  exact zz_fault rfl hM (fun m' h' => ite_T rfl ⟨h', rfl⟩)
set_option maxHeartbeats 1000000 in
theorem pl_686 {L : Nat} {sx : Nat → Int32} {d t sv sd st p : RV} {m : MV} {o : SL × SL} {xs : List RV} {x3 : Int32} (hM : modR m d p xs (slA o.1) (slA o.2)) (h1 : vp_in (x3 + (1 : Int32)) L) (h2 : vp_in (x3 + (2 : Int32)) L) (h3 : vp_in (x3 + (3 : Int32)) L) (h4 : vp_in (x3 + (4 : Int32)) L) (h5 : vp_in (x3 + (5 : Int32)) L) : wl_686 L sx (xI x3) d t sv sd st p m o xs x3 := by
  unfold wl_686
  try dsimp only [yl]
  intro q0 q1 q2 hq
  exact zz_undo hq.symm hM (fun m' h' => ite_T rfl ⟨h', rfl⟩)
set_option maxHeartbeats 1000000 in
theorem pl_699 {L : Nat} {sx : Nat → Int32} {d t sv sd st p : RV} {m : MV} {o : SL × SL} {xs : List RV} {x3 : Int32} (hM : modR m d p xs (slA o.1) (slA o.2)) (h1 : vp_in (x3 + (1 : Int32)) L) (h2 : vp_in (x3 + (2 : Int32)) L) (h3 : vp_in (x3 + (3 : Int32)) L) (h4 : vp_in (x3 + (4 : Int32)) L) (h5 : vp_in (x3 + (5 : Int32)) L) : wl_699 L sx (xI x3) d t sv sd st p m o xs x3 := by
  unfold wl_699
  try dsimp only [yl]
  refine ⟨h1, ?_⟩
  intro q0 q1 hq
  refine ⟨h1, ?_⟩
  exact zz_save hq.symm hM (fun m' h' => ite_T rfl ⟨h', rfl⟩)
set_option maxHeartbeats 1000000 in
theorem pl_722 {L : Nat} {sx : Nat → Int32} {d t sv sd st p : RV} {m : MV} {o : SL × SL} {xs : List RV} {x3 : Int32} (hM : modR m d p xs (slA o.1) (slA o.2)) (h1 : vp_in (x3 + (1 : Int32)) L) (h2 : vp_in (x3 + (2 : Int32)) L) (h3 : vp_in (x3 + (3 : Int32)) L) (h4 : vp_in (x3 + (4 : Int32)) L) (h5 : vp_in (x3 + (5 : Int32)) L) : wl_722 L sx (xI x3) d t sv sd st p m o xs x3 := by
  unfold wl_722
  try dsimp only [yl]
  refine ⟨h1, ?_⟩
  intro q0 q1 q2 hq
  refine ⟨h1, ?_⟩
  exact zz_restore hq.symm hM (fun m' h' => ite_T rfl ⟨h', rfl⟩)
def lwCs : List Nat := [132, 165, 198, 251, 274, 297, 320, 333, 366, 399, 432, 455, 518, 561, 584, 607, 660, 673, 686, 699, 722, 745]
theorem pl_18 {L : Nat} {sx : Nat → Int32} {Xc : Nat → Prop} {x3 : Int32} (h0 : nI L - (6 : Int32) < x3 → Xc 751) (hin : ¬ nI L - (6 : Int32) < x3 → vp_in x3 L ∧ ∀ t ∈ lwCs, Xc t) : wl_18 L sx Xc x3 := by
  unfold wl_18
  by_cases hc : nI L - (6 : Int32) < x3
  · rw [if_pos hc]; exact h0 hc
  · rw [if_neg hc]
    obtain ⟨h1, h2⟩ := hin hc
    refine ⟨h1, ?_⟩
    generalize (sx x3.toNatClampNeg &&& (31 : Int32)) = q
    refine ite_P (h2 _ (by decide)) ?_
    refine ite_P (h2 _ (by decide)) ?_
    refine ite_P (h2 _ (by decide)) ?_
    refine ite_P (h2 _ (by decide)) ?_
    refine ite_P (h2 _ (by decide)) ?_
    refine ite_P (h2 _ (by decide)) ?_
    refine ite_P (h2 _ (by decide)) ?_
    refine ite_P (h2 _ (by decide)) ?_
    refine ite_P (h2 _ (by decide)) ?_
    refine ite_P (h2 _ (by decide)) ?_
    refine ite_P (h2 _ (by decide)) ?_
    refine ite_P (h2 _ (by decide)) ?_
    refine ite_P (h2 _ (by decide)) ?_
    refine ite_P (h2 _ (by decide)) ?_
    refine ite_P (h2 _ (by decide)) ?_
    refine ite_P (h2 _ (by decide)) ?_
    refine ite_P (h2 _ (by decide)) ?_
    refine ite_P (h2 _ (by decide)) ?_
    refine ite_P (h2 _ (by decide)) ?_
    refine ite_P (h2 _ (by decide)) ?_
    refine ite_P (h2 _ (by decide)) ?_
    exact h2 _ (by decide)
