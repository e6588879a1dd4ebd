/-! ===== a day that is copied is the other day ===== -/
theorem f_copy_I (d o : RV) : (f_X0_copy d o).2 0 = o.2 0 ∧ (f_X0_copy d o).2 1 = o.2 1 ∧ (f_X0_copy d o).2 2 = o.2 2 := by
  simp [f_X0_copy, yl, rvI]
theorem f_copy_R (d o : RV) : (f_X0_copy d o).1 0 = rCopy 3 (o.1 0) ∧ (f_X0_copy d o).1 1 = rCopy 12 (o.1 1) ∧ (f_X0_copy d o).1 2 = rCopy 12 (o.1 2) ∧ (f_X0_copy d o).1 3 = rCopy 17 (o.1 3) ∧ (f_X0_copy d o).1 4 = rCopy 17 (o.1 4) ∧ (f_X0_copy d o).1 5 = rCopy 17 (o.1 5) ∧ (f_X0_copy d o).1 6 = rCopy 17 (o.1 6) ∧ (f_X0_copy d o).1 7 = rCopy 17 (o.1 7) ∧ (f_X0_copy d o).1 8 = rCopy 17 (o.1 8) ∧ (f_X0_copy d o).1 9 = rCopy 17 (o.1 9) ∧ (f_X0_copy d o).1 10 = rCopy 17 (o.1 10) ∧ (f_X0_copy d o).1 11 = rCopy 34 (o.1 11) := by
  simp [f_X0_copy, yl, rvI, rvR]
theorem rCopy_id {cap : Nat} {xs : List Int32} (h : xs.length ≤ cap) : rCopy cap xs = xs := List.take_of_length_le h
theorem dayC_copy (A : Nat → Nat) (d o : RV) : dayC A (f_X0_copy d o) = dayC A o := by
  obtain ⟨h0, h1, h2⟩ := f_copy_I d o
  unfold dayC
  rw [h0, h1, h2]
theorem dayR_copy (g : yG) (A : Nat → Nat) (d o : RV) (G : Nat → Nat → Int32) (h : dayLen o) : dayR g A (f_X0_copy d o) G = dayR g A o G := by
  obtain ⟨a0, a1, a2, a3, a4, a5, a6, a7, a8, a9, a10, a11⟩ := f_copy_R d o
  obtain ⟨b0, b1, b2, b3, b4, b5, b6, b7, b8, b9, b10, b11⟩ := h
  unfold dayR
  rw [a0, a1, a2, a3, a4, a5, a6, a7, a8, a9, a10, a11, rCopy_id b0, rCopy_id b1, rCopy_id b2, rCopy_id b3, rCopy_id b4, rCopy_id b5, rCopy_id b6, rCopy_id b7, rCopy_id b8, rCopy_id b9, rCopy_id b10, rCopy_id b11]
theorem k_X0_copy (g : yG) (A : Nat → Nat) (d : RV) (G : Nat → Nat → Int32) (B : Nat → Nat) (o : RV) (GB : Nat → Nat → Int32) : yMv g yX0_copy wsX0_copy ({ frames := 2, cells := 0, slots := 0, locals := 43 } : Room) [.ref (A 0), .ref (B 0)] ([dayC A d, dayC B o] ++ (dayR g A d G ++ dayR g B o GB) : List va_W) (fun w => ∃ (d' : RV) (G' : Nat → Nat → Int32), d' = o ∧ w = ([dayC A d', dayC B o] ++ (dayR g A d' G' ++ dayR g B o GB) : List va_W)) 0 0 := by
  refine yMv_fact (F := dayLen o) (fun A9 hD => dayLen_of (g := g) (A := B) (G := GB) (fun x hx => by simp only [List.mem_append, hx, true_or, or_true]) hD) (fun hF => ?_)
  refine yMv.conv (c_X0_copy g A d G B o GB) rfl ?_
  rintro w ⟨d', G', rfl, rfl⟩
  refine ⟨_, ?_, o, G', rfl, rfl⟩
  rw [dayC_copy, dayR_copy g A d o G' hF]
