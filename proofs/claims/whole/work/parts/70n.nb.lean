/-! ===== the reference: what is a boolean ===== -/
theorem nb_in (a b c : Int32) : narrow .boolean (.int (f_X7_in a b c)) = .int (f_X7_in a b c) := by
  unfold f_X7_in
  split
  · rfl
  · split <;> rfl
