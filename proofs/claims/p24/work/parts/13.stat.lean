theorem dX6_leastOf_0 : decode cX6_leastOf 0 = .ok (.iload_n 0, 1) := by decide +kernel
theorem dX6_leastOf_1 : decode cX6_leastOf 1 = .ok (.ifCond .ne 7, 3) := by decide +kernel
theorem dX6_leastOf_4 : decode cX6_leastOf 4 = .ok (.iconst 1, 1) := by decide +kernel
theorem dX6_leastOf_5 : decode cX6_leastOf 5 = .ok (.goto 4, 3) := by decide +kernel
theorem dX6_leastOf_8 : decode cX6_leastOf 8 = .ok (.iconst 0, 1) := by decide +kernel
theorem dX6_leastOf_9 : decode cX6_leastOf 9 = .ok (.ireturn, 1) := by decide +kernel
set_option maxHeartbeats 4000000 in
set_option maxRecDepth 100000 in
theorem c_X6_leastOf (g : yG)  (s : Int32) : yM g yX6_leastOf wsX6_leastOf ({ frames := 0, cells := 0, slots := 0, locals := 0 } : Room) [.int s] ([] : List va_W) (fun r w => r = (f_X6_leastOf s) ∧ w = ([] : List va_W)) 0 0 := by
  refine y_entryI (cc := cX6_leastOf) (maxL := 1) (by decide +kernel) rfl (Nat.le_of_ble_eq_true rfl) (fun Z C HR => ?_)
  have C : yC Z g cX6_leastOf 1 wsX6_leastOf RX6 := C
  have h := f_X6_leastOf.eq_1 s
  show yJ Z _ 0 0 _ 0 [(0, .int s)] []
  refine y_iload_n C dX6_leastOf_0 0 rfl rfl ?_
  refine y_if_ne (tgt := 8) C dX6_leastOf_1 rfl (y_e h) (fun c1 h => ?_) (fun c1 h => ?_)
  · refine y_iconst (v := 0) C dX6_leastOf_8 (by decide) ?_
    exact HR 9 dX6_leastOf_9 (0 : Int32) _ _ _ _ (rfl) (Nat.le_of_ble_eq_true rfl) (Nat.le_of_ble_eq_true rfl) ⟨by rw [h], rfl⟩
  · refine y_iconst (v := 1) C dX6_leastOf_4 (by decide) ?_
    refine y_goto (tgt := 9) C dX6_leastOf_5 rfl ?_
    exact HR 9 dX6_leastOf_9 (1 : Int32) _ _ _ _ (rfl) (Nat.le_of_ble_eq_true rfl) (Nat.le_of_ble_eq_true rfl) ⟨by rw [h], rfl⟩
theorem dX6_mostOf_0 : decode cX6_mostOf 0 = .ok (.iload_n 0, 1) := by decide +kernel
theorem dX6_mostOf_1 : decode cX6_mostOf 1 = .ok (.ifCond .ne 8, 3) := by decide +kernel
theorem dX6_mostOf_4 : decode cX6_mostOf 4 = .ok (.bipush 8, 2) := by decide +kernel
theorem dX6_mostOf_6 : decode cX6_mostOf 6 = .ok (.goto 14, 3) := by decide +kernel
theorem dX6_mostOf_9 : decode cX6_mostOf 9 = .ok (.iload_n 0, 1) := by decide +kernel
theorem dX6_mostOf_10 : decode cX6_mostOf 10 = .ok (.iconst 1, 1) := by decide +kernel
theorem dX6_mostOf_11 : decode cX6_mostOf 11 = .ok (.if_icmp .ne 8, 3) := by decide +kernel
theorem dX6_mostOf_14 : decode cX6_mostOf 14 = .ok (.bipush 60, 2) := by decide +kernel
theorem dX6_mostOf_16 : decode cX6_mostOf 16 = .ok (.goto 4, 3) := by decide +kernel
theorem dX6_mostOf_19 : decode cX6_mostOf 19 = .ok (.iconst 5, 1) := by decide +kernel
theorem dX6_mostOf_20 : decode cX6_mostOf 20 = .ok (.ireturn, 1) := by decide +kernel
set_option maxHeartbeats 4000000 in
set_option maxRecDepth 100000 in
theorem c_X6_mostOf (g : yG)  (s : Int32) : yM g yX6_mostOf wsX6_mostOf ({ frames := 0, cells := 0, slots := 0, locals := 0 } : Room) [.int s] ([] : List va_W) (fun r w => r = (f_X6_mostOf s) ∧ w = ([] : List va_W)) 0 0 := by
  refine y_entryI (cc := cX6_mostOf) (maxL := 1) (by decide +kernel) rfl (Nat.le_of_ble_eq_true rfl) (fun Z C HR => ?_)
  have C : yC Z g cX6_mostOf 1 wsX6_mostOf RX6 := C
  have h := f_X6_mostOf.eq_1 s
  show yJ Z _ 0 0 _ 0 [(0, .int s)] []
  refine y_iload_n C dX6_mostOf_0 0 rfl rfl ?_
  refine y_if_ne (tgt := 9) C dX6_mostOf_1 rfl (y_e h) (fun c1 h => ?_) (fun c1 h => ?_)
  · refine y_iload_n C dX6_mostOf_9 0 rfl rfl ?_
    refine y_iconst (v := 1) C dX6_mostOf_10 (by decide) ?_
    refine y_icmp_ne (tgt := 19) C dX6_mostOf_11 rfl (y_e h) (fun c11 h => ?_) (fun c11 h => ?_)
    · refine y_iconst (v := 5) C dX6_mostOf_19 (by decide) ?_
      exact HR 20 dX6_mostOf_20 (5 : Int32) _ _ _ _ (rfl) (Nat.le_of_ble_eq_true rfl) (Nat.le_of_ble_eq_true rfl) ⟨by rw [h], rfl⟩
    · refine y_bipush (v := 60) C dX6_mostOf_14 (by decide) ?_
      refine y_goto (tgt := 20) C dX6_mostOf_16 rfl ?_
      exact HR 20 dX6_mostOf_20 (60 : Int32) _ _ _ _ (rfl) (Nat.le_of_ble_eq_true rfl) (Nat.le_of_ble_eq_true rfl) ⟨by rw [h], rfl⟩
  · refine y_bipush (v := 8) C dX6_mostOf_4 (by decide) ?_
    refine y_goto (tgt := 20) C dX6_mostOf_6 rfl ?_
    exact HR 20 dX6_mostOf_20 (8 : Int32) _ _ _ _ (rfl) (Nat.le_of_ble_eq_true rfl) (Nat.le_of_ble_eq_true rfl) ⟨by rw [h], rfl⟩
theorem dX6_rideOf_0 : decode cX6_rideOf 0 = .ok (.iload_n 0, 1) := by decide +kernel
theorem dX6_rideOf_1 : decode cX6_rideOf 1 = .ok (.iconst 1, 1) := by decide +kernel
theorem dX6_rideOf_2 : decode cX6_rideOf 2 = .ok (.ishr, 1) := by decide +kernel
theorem dX6_rideOf_3 : decode cX6_rideOf 3 = .ok (.ireturn, 1) := by decide +kernel
set_option maxHeartbeats 4000000 in
set_option maxRecDepth 100000 in
theorem c_X6_rideOf (g : yG)  (v : Int32) : yM g yX6_rideOf wsX6_rideOf ({ frames := 0, cells := 0, slots := 0, locals := 0 } : Room) [.int v] ([] : List va_W) (fun r w => r = (f_X6_rideOf v) ∧ w = ([] : List va_W)) 0 0 := by
  refine y_entryI (cc := cX6_rideOf) (maxL := 1) (by decide +kernel) rfl (Nat.le_of_ble_eq_true rfl) (fun Z C HR => ?_)
  have C : yC Z g cX6_rideOf 1 wsX6_rideOf RX6 := C
  have h := f_X6_rideOf.eq_1 v
  show yJ Z _ 0 0 _ 0 [(0, .int v)] []
  refine y_iload_n C dX6_rideOf_0 0 rfl rfl ?_
  refine y_iconst (v := 1) C dX6_rideOf_1 (by decide) ?_
  refine y_ishr C dX6_rideOf_2 ?_
  exact HR 3 dX6_rideOf_3 (v >>> ((1 : Int32) &&& 31)) _ _ _ _ (rfl) (Nat.le_of_ble_eq_true rfl) (Nat.le_of_ble_eq_true rfl) ⟨by rw [h], rfl⟩
theorem dX6_setsDown_0 : decode cX6_setsDown 0 = .ok (.iload_n 0, 1) := by decide +kernel
theorem dX6_setsDown_1 : decode cX6_setsDown 1 = .ok (.iconst 1, 1) := by decide +kernel
theorem dX6_setsDown_2 : decode cX6_setsDown 2 = .ok (.iand, 1) := by decide +kernel
theorem dX6_setsDown_3 : decode cX6_setsDown 3 = .ok (.iconst 1, 1) := by decide +kernel
theorem dX6_setsDown_4 : decode cX6_setsDown 4 = .ok (.if_icmp .ne 7, 3) := by decide +kernel
theorem dX6_setsDown_7 : decode cX6_setsDown 7 = .ok (.iconst 1, 1) := by decide +kernel
theorem dX6_setsDown_8 : decode cX6_setsDown 8 = .ok (.goto 4, 3) := by decide +kernel
theorem dX6_setsDown_11 : decode cX6_setsDown 11 = .ok (.iconst 0, 1) := by decide +kernel
theorem dX6_setsDown_12 : decode cX6_setsDown 12 = .ok (.ireturn, 1) := by decide +kernel
set_option maxHeartbeats 4000000 in
set_option maxRecDepth 100000 in
theorem c_X6_setsDown (g : yG)  (v : Int32) : yM g yX6_setsDown wsX6_setsDown ({ frames := 0, cells := 0, slots := 0, locals := 0 } : Room) [.int v] ([] : List va_W) (fun r w => r = (f_X6_setsDown v) ∧ w = ([] : List va_W)) 0 0 := by
  refine y_entryI (cc := cX6_setsDown) (maxL := 1) (by decide +kernel) rfl (Nat.le_of_ble_eq_true rfl) (fun Z C HR => ?_)
  have C : yC Z g cX6_setsDown 1 wsX6_setsDown RX6 := C
  have h := f_X6_setsDown.eq_1 v
  show yJ Z _ 0 0 _ 0 [(0, .int v)] []
  refine y_iload_n C dX6_setsDown_0 0 rfl rfl ?_
  refine y_iconst (v := 1) C dX6_setsDown_1 (by decide) ?_
  refine y_iand C dX6_setsDown_2 ?_
  refine y_iconst (v := 1) C dX6_setsDown_3 (by decide) ?_
  refine y_icmp_ne (tgt := 11) C dX6_setsDown_4 rfl (y_e h) (fun c4 h => ?_) (fun c4 h => ?_)
  · refine y_iconst (v := 0) C dX6_setsDown_11 (by decide) ?_
    exact HR 12 dX6_setsDown_12 (0 : Int32) _ _ _ _ (rfl) (Nat.le_of_ble_eq_true rfl) (Nat.le_of_ble_eq_true rfl) ⟨by rw [h], rfl⟩
  · refine y_iconst (v := 1) C dX6_setsDown_7 (by decide) ?_
    refine y_goto (tgt := 12) C dX6_setsDown_8 rfl ?_
    exact HR 12 dX6_setsDown_12 (1 : Int32) _ _ _ _ (rfl) (Nat.le_of_ble_eq_true rfl) (Nat.le_of_ble_eq_true rfl) ⟨by rw [h], rfl⟩
theorem dX6_pickUp_0 : decode cX6_pickUp 0 = .ok (.iconst 2, 1) := by decide +kernel
theorem dX6_pickUp_1 : decode cX6_pickUp 1 = .ok (.iload_n 0, 1) := by decide +kernel
theorem dX6_pickUp_2 : decode cX6_pickUp 2 = .ok (.imul, 1) := by decide +kernel
theorem dX6_pickUp_3 : decode cX6_pickUp 3 = .ok (.ireturn, 1) := by decide +kernel
set_option maxHeartbeats 4000000 in
set_option maxRecDepth 100000 in
theorem c_X6_pickUp (g : yG)  (v : Int32) : yM g yX6_pickUp wsX6_pickUp ({ frames := 0, cells := 0, slots := 0, locals := 0 } : Room) [.int v] ([] : List va_W) (fun r w => r = (f_X6_pickUp v) ∧ w = ([] : List va_W)) 0 0 := by
  refine y_entryI (cc := cX6_pickUp) (maxL := 1) (by decide +kernel) rfl (Nat.le_of_ble_eq_true rfl) (fun Z C HR => ?_)
  have C : yC Z g cX6_pickUp 1 wsX6_pickUp RX6 := C
  have h := f_X6_pickUp.eq_1 v
  show yJ Z _ 0 0 _ 0 [(0, .int v)] []
  refine y_iconst (v := 2) C dX6_pickUp_0 (by decide) ?_
  refine y_iload_n C dX6_pickUp_1 0 rfl rfl ?_
  refine y_imul C dX6_pickUp_2 ?_
  exact HR 3 dX6_pickUp_3 ((2 : Int32) * v) _ _ _ _ (rfl) (Nat.le_of_ble_eq_true rfl) (Nat.le_of_ble_eq_true rfl) ⟨by rw [h], rfl⟩
theorem dX6_setDown_0 : decode cX6_setDown 0 = .ok (.iconst 2, 1) := by decide +kernel
theorem dX6_setDown_1 : decode cX6_setDown 1 = .ok (.iload_n 0, 1) := by decide +kernel
theorem dX6_setDown_2 : decode cX6_setDown 2 = .ok (.imul, 1) := by decide +kernel
theorem dX6_setDown_3 : decode cX6_setDown 3 = .ok (.iconst 1, 1) := by decide +kernel
theorem dX6_setDown_4 : decode cX6_setDown 4 = .ok (.iadd, 1) := by decide +kernel
theorem dX6_setDown_5 : decode cX6_setDown 5 = .ok (.ireturn, 1) := by decide +kernel
set_option maxHeartbeats 4000000 in
set_option maxRecDepth 100000 in
theorem c_X6_setDown (g : yG)  (v : Int32) : yM g yX6_setDown wsX6_setDown ({ frames := 0, cells := 0, slots := 0, locals := 0 } : Room) [.int v] ([] : List va_W) (fun r w => r = (f_X6_setDown v) ∧ w = ([] : List va_W)) 0 0 := by
  refine y_entryI (cc := cX6_setDown) (maxL := 1) (by decide +kernel) rfl (Nat.le_of_ble_eq_true rfl) (fun Z C HR => ?_)
  have C : yC Z g cX6_setDown 1 wsX6_setDown RX6 := C
  have h := f_X6_setDown.eq_1 v
  show yJ Z _ 0 0 _ 0 [(0, .int v)] []
  refine y_iconst (v := 2) C dX6_setDown_0 (by decide) ?_
  refine y_iload_n C dX6_setDown_1 0 rfl rfl ?_
  refine y_imul C dX6_setDown_2 ?_
  refine y_iconst (v := 1) C dX6_setDown_3 (by decide) ?_
  refine y_iadd C dX6_setDown_4 ?_
  exact HR 5 dX6_setDown_5 (((2 : Int32) * v) + (1 : Int32)) _ _ _ _ (rfl) (Nat.le_of_ble_eq_true rfl) (Nat.le_of_ble_eq_true rfl) ⟨by rw [h], rfl⟩
