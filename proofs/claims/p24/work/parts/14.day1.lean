theorem dX0_hasStop_0 : decode cX0_hasStop 0 = .ok (.iload_n 1, 1) := by decide +kernel
theorem dX0_hasStop_1 : decode cX0_hasStop 1 = .ok (.ifCond .lt 18, 3) := by decide +kernel
theorem dX0_hasStop_4 : decode cX0_hasStop 4 = .ok (.iload_n 1, 1) := by decide +kernel
theorem dX0_hasStop_5 : decode cX0_hasStop 5 = .ok (.aload_n 0, 1) := by decide +kernel
theorem dX0_hasStop_6 : decode cX0_hasStop 6 = .ok (.getfield 20, 3) := by decide +kernel
theorem dX0_hasStop_9 : decode cX0_hasStop 9 = .ok (.invokevirtual 70, 3) := by decide +kernel
theorem dX0_hasStop_12 : decode cX0_hasStop 12 = .ok (.if_icmp .ge 7, 3) := by decide +kernel
theorem dX0_hasStop_15 : decode cX0_hasStop 15 = .ok (.iconst 1, 1) := by decide +kernel
theorem dX0_hasStop_16 : decode cX0_hasStop 16 = .ok (.goto 4, 3) := by decide +kernel
theorem dX0_hasStop_19 : decode cX0_hasStop 19 = .ok (.iconst 0, 1) := by decide +kernel
theorem dX0_hasStop_20 : decode cX0_hasStop 20 = .ok (.ireturn, 1) := by decide +kernel
set_option maxRecDepth 20000 in
theorem ggX0_hasStop_X3_length : GoodIn wsX0_hasStop wsX3_length := goodIn_r _ [6, 7, 23, 24] (by decide +kernel) (by decide +kernel)
set_option maxRecDepth 20000 in
theorem gX0_hasStop_X3_length : GoodIn wsX0_hasStop (wsV RX0 70 RX3 yX3_length wsX3_length) := goodIn_app (goodIn_of _ (by decide +kernel)) ggX0_hasStop_X3_length
theorem kX0_hasStop_1 : Cond.fieldLink RX0 20 "BookedDetours$Day" "xs" "LBookedDetours$Row;" ∈ wsX0_hasStop := List.mem_of_getElem? (i := 1) (by decide +kernel)
theorem hX0_hasStop_X0 : ∀ w ∈ u_ws RX0 TX0 15, w ∈ wsX0_hasStop := fun _ h => List.mem_cons_of_mem _ (List.mem_append_left _ (List.mem_append_right _ h))
set_option maxHeartbeats 4000000 in
set_option maxRecDepth 100000 in
theorem c_X0_hasStop (g : yG) (A : Nat → Nat) (d : RV) (G : Nat → Nat → Int32) (i : Int32) : yM g yX0_hasStop wsX0_hasStop ({ frames := 1, cells := 0, slots := 0, locals := 20 } : Room) [.ref (A 0), .int i] ([dayC A d] ++ dayR g A d G : List va_W) (fun r w => r = (f_X0_hasStop d i) ∧ w = ([dayC A d] ++ dayR g A d G : List va_W)) 0 0 := by
  refine y_entryI (cc := cX0_hasStop) (maxL := 2) (by decide +kernel) rfl (Nat.le_of_ble_eq_true rfl) (fun Z C HR => ?_)
  have C : yC Z g cX0_hasStop 2 wsX0_hasStop RX0 := C
  have h := f_X0_hasStop.eq_1 d i
  show yJ Z _ 0 0 _ 0 [(0, .ref (A 0)), (1, .int i)] []
  refine y_iload_n C dX0_hasStop_0 1 rfl rfl ?_
  refine y_if_lt (tgt := 19) C dX0_hasStop_1 rfl (y_e h) (fun c1 h => ?_) (fun c1 h => ?_)
  · refine y_iconst (v := 0) C dX0_hasStop_19 (by decide) ?_
    exact HR 20 dX0_hasStop_20 (0 : Int32) _ _ _ _ (rfl) (Nat.le_of_ble_eq_true rfl) (Nat.le_of_ble_eq_true rfl) ⟨by rw [h], rfl⟩
  · refine y_iload_n C dX0_hasStop_4 1 rfl rfl ?_
    refine y_aload_n C dX0_hasStop_5 0 rfl rfl ?_
    refine y_get (Cn := RX0) (T := TX0) (N := 15) (v := .ref (A 3)) C dX0_hasStop_6 hX0_hasStop_X0 0 (sh_3 g A d G) rfl 1 (Nat.le_of_ble_eq_true rfl) kX0_hasStop_1 rfl ?_
    refine y_callV (As := []) (rest := [.int i]) C dX0_hasStop_9 (c_X3_length g (A 3) (A 4) 12 (d.1 1) (G 1) (by decide)) rfl rfl rfl rfl ⟨Nat.le_of_ble_eq_true rfl, Nat.le_of_ble_eq_true rfl⟩ gX0_hasStop_X3_length (nA := 0) (by decide +kernel) rfl (rowW_recv ⟨_, rfl⟩) (Nat.le_of_ble_eq_true rfl) ⟨Nat.le_of_ble_eq_true rfl, Nat.le_of_ble_eq_true rfl⟩ [2] [0, 1, 3, 4, 5, 6, 7, 8, 9, 10, 11, 12] (nB := 13) rfl (by decide +kernel) (sh_4 g A d G) (fun r1 w9 hw => ?_)
    obtain ⟨er1, rfl⟩ := hw
    have h := y_letF h er1
    refine ⟨([dayC A d] ++ dayR g A d G : List va_W), ⟨(sh_4 g A d G), rfl, rfl⟩, ?_⟩
    refine y_icmp_ge (tgt := 19) C dX0_hasStop_12 rfl (y_e h) (fun c12 h => ?_) (fun c12 h => ?_)
    · refine y_iconst (v := 0) C dX0_hasStop_19 (by decide) ?_
      exact HR 20 dX0_hasStop_20 (0 : Int32) _ _ _ _ (rfl) (Nat.le_of_ble_eq_true rfl) (Nat.le_of_ble_eq_true rfl) ⟨by rw [h], rfl⟩
    · refine y_iconst (v := 1) C dX0_hasStop_15 (by decide) ?_
      refine y_goto (tgt := 20) C dX0_hasStop_16 rfl ?_
      exact HR 20 dX0_hasStop_20 (1 : Int32) _ _ _ _ (rfl) (Nat.le_of_ble_eq_true rfl) (Nat.le_of_ble_eq_true rfl) ⟨by rw [h], rfl⟩
theorem dX0_hasRide_0 : decode cX0_hasRide 0 = .ok (.iload_n 1, 1) := by decide +kernel
theorem dX0_hasRide_1 : decode cX0_hasRide 1 = .ok (.ifCond .lt 18, 3) := by decide +kernel
theorem dX0_hasRide_4 : decode cX0_hasRide 4 = .ok (.iload_n 1, 1) := by decide +kernel
theorem dX0_hasRide_5 : decode cX0_hasRide 5 = .ok (.aload_n 0, 1) := by decide +kernel
theorem dX0_hasRide_6 : decode cX0_hasRide 6 = .ok (.getfield 41, 3) := by decide +kernel
theorem dX0_hasRide_9 : decode cX0_hasRide 9 = .ok (.invokevirtual 70, 3) := by decide +kernel
theorem dX0_hasRide_12 : decode cX0_hasRide 12 = .ok (.if_icmp .ge 7, 3) := by decide +kernel
theorem dX0_hasRide_15 : decode cX0_hasRide 15 = .ok (.iconst 1, 1) := by decide +kernel
theorem dX0_hasRide_16 : decode cX0_hasRide 16 = .ok (.goto 4, 3) := by decide +kernel
theorem dX0_hasRide_19 : decode cX0_hasRide 19 = .ok (.iconst 0, 1) := by decide +kernel
theorem dX0_hasRide_20 : decode cX0_hasRide 20 = .ok (.ireturn, 1) := by decide +kernel
set_option maxRecDepth 20000 in
theorem ggX0_hasRide_X3_length : GoodIn wsX0_hasRide wsX3_length := goodIn_r _ [6, 7, 23, 24] (by decide +kernel) (by decide +kernel)
set_option maxRecDepth 20000 in
theorem gX0_hasRide_X3_length : GoodIn wsX0_hasRide (wsV RX0 70 RX3 yX3_length wsX3_length) := goodIn_app (goodIn_of _ (by decide +kernel)) ggX0_hasRide_X3_length
theorem kX0_hasRide_1 : Cond.fieldLink RX0 41 "BookedDetours$Day" "stands" "LBookedDetours$Row;" ∈ wsX0_hasRide := List.mem_of_getElem? (i := 1) (by decide +kernel)
theorem hX0_hasRide_X0 : ∀ w ∈ u_ws RX0 TX0 15, w ∈ wsX0_hasRide := fun _ h => List.mem_cons_of_mem _ (List.mem_append_left _ (List.mem_append_right _ h))
set_option maxHeartbeats 4000000 in
set_option maxRecDepth 100000 in
theorem c_X0_hasRide (g : yG) (A : Nat → Nat) (d : RV) (G : Nat → Nat → Int32) (i : Int32) : yM g yX0_hasRide wsX0_hasRide ({ frames := 1, cells := 0, slots := 0, locals := 20 } : Room) [.ref (A 0), .int i] ([dayC A d] ++ dayR g A d G : List va_W) (fun r w => r = (f_X0_hasRide d i) ∧ w = ([dayC A d] ++ dayR g A d G : List va_W)) 0 0 := by
  refine y_entryI (cc := cX0_hasRide) (maxL := 2) (by decide +kernel) rfl (Nat.le_of_ble_eq_true rfl) (fun Z C HR => ?_)
  have C : yC Z g cX0_hasRide 2 wsX0_hasRide RX0 := C
  have h := f_X0_hasRide.eq_1 d i
  show yJ Z _ 0 0 _ 0 [(0, .ref (A 0)), (1, .int i)] []
  refine y_iload_n C dX0_hasRide_0 1 rfl rfl ?_
  refine y_if_lt (tgt := 19) C dX0_hasRide_1 rfl (y_e h) (fun c1 h => ?_) (fun c1 h => ?_)
  · refine y_iconst (v := 0) C dX0_hasRide_19 (by decide) ?_
    exact HR 20 dX0_hasRide_20 (0 : Int32) _ _ _ _ (rfl) (Nat.le_of_ble_eq_true rfl) (Nat.le_of_ble_eq_true rfl) ⟨by rw [h], rfl⟩
  · refine y_iload_n C dX0_hasRide_4 1 rfl rfl ?_
    refine y_aload_n C dX0_hasRide_5 0 rfl rfl ?_
    refine y_get (Cn := RX0) (T := TX0) (N := 15) (v := .ref (A 17)) C dX0_hasRide_6 hX0_hasRide_X0 0 (sh_3 g A d G) rfl 8 (Nat.le_of_ble_eq_true rfl) kX0_hasRide_1 rfl ?_
    refine y_callV (As := []) (rest := [.int i]) C dX0_hasRide_9 (c_X3_length g (A 17) (A 18) 17 (d.1 8) (G 8) (by decide)) rfl rfl rfl rfl ⟨Nat.le_of_ble_eq_true rfl, Nat.le_of_ble_eq_true rfl⟩ gX0_hasRide_X3_length (nA := 0) (by decide +kernel) rfl (rowW_recv ⟨_, rfl⟩) (Nat.le_of_ble_eq_true rfl) ⟨Nat.le_of_ble_eq_true rfl, Nat.le_of_ble_eq_true rfl⟩ [9] [0, 1, 2, 3, 4, 5, 6, 7, 8, 10, 11, 12] (nB := 13) rfl (by decide +kernel) (sh_5 g A d G) (fun r1 w9 hw => ?_)
    obtain ⟨er1, rfl⟩ := hw
    have h := y_letF h er1
    refine ⟨([dayC A d] ++ dayR g A d G : List va_W), ⟨(sh_5 g A d G), rfl, rfl⟩, ?_⟩
    refine y_icmp_ge (tgt := 19) C dX0_hasRide_12 rfl (y_e h) (fun c12 h => ?_) (fun c12 h => ?_)
    · refine y_iconst (v := 0) C dX0_hasRide_19 (by decide) ?_
      exact HR 20 dX0_hasRide_20 (0 : Int32) _ _ _ _ (rfl) (Nat.le_of_ble_eq_true rfl) (Nat.le_of_ble_eq_true rfl) ⟨by rw [h], rfl⟩
    · refine y_iconst (v := 1) C dX0_hasRide_15 (by decide) ?_
      refine y_goto (tgt := 20) C dX0_hasRide_16 rfl ?_
      exact HR 20 dX0_hasRide_20 (1 : Int32) _ _ _ _ (rfl) (Nat.le_of_ble_eq_true rfl) (Nat.le_of_ble_eq_true rfl) ⟨by rw [h], rfl⟩
theorem dX0_ridesThatStand_0 : decode cX0_ridesThatStand 0 = .ok (.iconst 0, 1) := by decide +kernel
theorem dX0_ridesThatStand_1 : decode cX0_ridesThatStand 1 = .ok (.istore_n 2, 1) := by decide +kernel
theorem dX0_ridesThatStand_2 : decode cX0_ridesThatStand 2 = .ok (.iconst 0, 1) := by decide +kernel
theorem dX0_ridesThatStand_3 : decode cX0_ridesThatStand 3 = .ok (.istore_n 3, 1) := by decide +kernel
theorem dX0_ridesThatStand_4 : decode cX0_ridesThatStand 4 = .ok (.iload_n 3, 1) := by decide +kernel
theorem dX0_ridesThatStand_5 : decode cX0_ridesThatStand 5 = .ok (.aload_n 0, 1) := by decide +kernel
theorem dX0_ridesThatStand_6 : decode cX0_ridesThatStand 6 = .ok (.getfield 41, 3) := by decide +kernel
theorem dX0_ridesThatStand_9 : decode cX0_ridesThatStand 9 = .ok (.invokevirtual 70, 3) := by decide +kernel
theorem dX0_ridesThatStand_12 : decode cX0_ridesThatStand 12 = .ok (.if_icmp .ge 24, 3) := by decide +kernel
theorem dX0_ridesThatStand_15 : decode cX0_ridesThatStand 15 = .ok (.aload_n 0, 1) := by decide +kernel
theorem dX0_ridesThatStand_16 : decode cX0_ridesThatStand 16 = .ok (.getfield 41, 3) := by decide +kernel
theorem dX0_ridesThatStand_19 : decode cX0_ridesThatStand 19 = .ok (.iload_n 3, 1) := by decide +kernel
theorem dX0_ridesThatStand_20 : decode cX0_ridesThatStand 20 = .ok (.invokevirtual 74, 3) := by decide +kernel
theorem dX0_ridesThatStand_23 : decode cX0_ridesThatStand 23 = .ok (.iload_n 1, 1) := by decide +kernel
theorem dX0_ridesThatStand_24 : decode cX0_ridesThatStand 24 = .ok (.if_icmp .ne 6, 3) := by decide +kernel
theorem dX0_ridesThatStand_27 : decode cX0_ridesThatStand 27 = .ok (.iinc 2 1, 3) := by decide +kernel
theorem dX0_ridesThatStand_30 : decode cX0_ridesThatStand 30 = .ok (.iinc 3 1, 3) := by decide +kernel
theorem dX0_ridesThatStand_33 : decode cX0_ridesThatStand 33 = .ok (.goto (-29), 3) := by decide +kernel
theorem dX0_ridesThatStand_36 : decode cX0_ridesThatStand 36 = .ok (.iload_n 2, 1) := by decide +kernel
theorem dX0_ridesThatStand_37 : decode cX0_ridesThatStand 37 = .ok (.ireturn, 1) := by decide +kernel
set_option maxRecDepth 20000 in
theorem ggX0_ridesThatStand_X3_length : GoodIn wsX0_ridesThatStand wsX3_length := goodIn_r _ [6, 7, 28, 29] (by decide +kernel) (by decide +kernel)
set_option maxRecDepth 20000 in
theorem gX0_ridesThatStand_X3_length : GoodIn wsX0_ridesThatStand (wsV RX0 70 RX3 yX3_length wsX3_length) := goodIn_app (goodIn_of _ (by decide +kernel)) ggX0_ridesThatStand_X3_length
set_option maxRecDepth 20000 in
theorem ggX0_ridesThatStand_X3_at : GoodIn wsX0_ridesThatStand wsX3_at := goodIn_r _ [11, 7, 12, 28, 29] (by decide +kernel) (by decide +kernel)
set_option maxRecDepth 20000 in
theorem gX0_ridesThatStand_X3_at : GoodIn wsX0_ridesThatStand (wsV RX0 74 RX3 yX3_at wsX3_at) := goodIn_app (goodIn_of _ (by decide +kernel)) ggX0_ridesThatStand_X3_at
theorem kX0_ridesThatStand_1 : Cond.fieldLink RX0 41 "BookedDetours$Day" "stands" "LBookedDetours$Row;" ∈ wsX0_ridesThatStand := List.mem_of_getElem? (i := 1) (by decide +kernel)
theorem hX0_ridesThatStand_X0 : ∀ w ∈ u_ws RX0 TX0 15, w ∈ wsX0_ridesThatStand := fun _ h => List.mem_cons_of_mem _ (List.mem_append_left _ (List.mem_append_right _ h))
set_option maxHeartbeats 4000000 in
set_option maxRecDepth 100000 in
theorem w_X0_ridesThatStand_4 {Z : yZ} (g : yG) (A : Nat → Nat) (d : RV) (G : Nat → Nat → Int32) (how : Int32) (C : yC Z g cX0_ridesThatStand 4 wsX0_ridesThatStand RX0) {post : Int32 → List va_W → Prop} (HR : yRi Z ({ frames := 1, cells := 0, slots := 0, locals := 21 } : Room) cX0_ridesThatStand .int post 0 0) {X4 : Int32 → Int32 → Prop} (hX4 : ∀ (x2 : Int32) (x3 : Int32), X4 x2 x3 → yJ Z ({ frames := 1, cells := 0, slots := 0, locals := 21 } : Room) 0 0 ([dayC A d] ++ dayR g A d G : List va_W) 4 [(0, .ref (A 0)), (1, .int how), (2, .int x2), (3, .int x3)] []) {K : Int32 → Prop} (hK : ∀ (r0 : Int32), K r0 → post r0 ([dayC A d] ++ dayR g A d G : List va_W)) (x2 : Int32) (x3 : Int32) (h : wp_X0_ridesThatStand_4 d how X4 K x2 x3) : yJ Z ({ frames := 1, cells := 0, slots := 0, locals := 21 } : Room) 0 0 ([dayC A d] ++ dayR g A d G : List va_W) 4 [(0, .ref (A 0)), (1, .int how), (2, .int x2), (3, .int x3)] [] := by
  unfold wp_X0_ridesThatStand_4 at h
  refine y_iload_n C dX0_ridesThatStand_4 3 rfl rfl ?_
  refine y_aload_n C dX0_ridesThatStand_5 0 rfl rfl ?_
  refine y_get (Cn := RX0) (T := TX0) (N := 15) (v := .ref (A 17)) C dX0_ridesThatStand_6 hX0_ridesThatStand_X0 0 (sh_3 g A d G) rfl 8 (Nat.le_of_ble_eq_true rfl) kX0_ridesThatStand_1 rfl ?_
  refine y_callV (As := []) (rest := [.int x3]) C dX0_ridesThatStand_9 (c_X3_length g (A 17) (A 18) 17 (d.1 8) (G 8) (by decide)) rfl rfl rfl rfl ⟨Nat.le_of_ble_eq_true rfl, Nat.le_of_ble_eq_true rfl⟩ gX0_ridesThatStand_X3_length (nA := 0) (by decide +kernel) rfl (rowW_recv ⟨_, rfl⟩) (Nat.le_of_ble_eq_true rfl) ⟨Nat.le_of_ble_eq_true rfl, Nat.le_of_ble_eq_true rfl⟩ [9] [0, 1, 2, 3, 4, 5, 6, 7, 8, 10, 11, 12] (nB := 13) rfl (by decide +kernel) (sh_5 g A d G) (fun r1 w9 hw => ?_)
  obtain ⟨er1, rfl⟩ := hw
  have h := y_letP h er1
  refine ⟨([dayC A d] ++ dayR g A d G : List va_W), ⟨(sh_5 g A d G), rfl, rfl⟩, ?_⟩
  refine y_icmp_ge (tgt := 36) C dX0_ridesThatStand_12 rfl h (fun c12 h => ?_) (fun c12 h => ?_)
  · refine y_iload_n C dX0_ridesThatStand_36 2 rfl rfl ?_
    exact HR 37 dX0_ridesThatStand_37 x2 _ _ _ _ (rfl) (Nat.le_of_ble_eq_true rfl) (Nat.le_of_ble_eq_true rfl) (hK _  h)
  · refine y_aload_n C dX0_ridesThatStand_15 0 rfl rfl ?_
    refine y_get (Cn := RX0) (T := TX0) (N := 15) (v := .ref (A 17)) C dX0_ridesThatStand_16 hX0_ridesThatStand_X0 0 (sh_3 g A d G) rfl 8 (Nat.le_of_ble_eq_true rfl) kX0_ridesThatStand_1 rfl ?_
    refine y_iload_n C dX0_ridesThatStand_19 3 rfl rfl ?_
    refine y_callV (As := [.int x3]) (rest := []) C dX0_ridesThatStand_20 (c_X3_at g (A 17) (A 18) 17 (d.1 8) (G 8) x3 (by decide)) rfl rfl rfl rfl ⟨Nat.le_of_ble_eq_true rfl, Nat.le_of_ble_eq_true rfl⟩ gX0_ridesThatStand_X3_at (nA := 1) (by decide +kernel) rfl (rowW_recv ⟨_, rfl⟩) (Nat.le_of_ble_eq_true rfl) ⟨Nat.le_of_ble_eq_true rfl, Nat.le_of_ble_eq_true rfl⟩ [9] [0, 1, 2, 3, 4, 5, 6, 7, 8, 10, 11, 12] (nB := 13) rfl (by decide +kernel) (sh_5 g A d G) (fun r2 w9 hw => ?_)
    obtain ⟨er2, rfl⟩ := hw
    have h := y_letP h er2
    refine ⟨([dayC A d] ++ dayR g A d G : List va_W), ⟨(sh_5 g A d G), rfl, rfl⟩, ?_⟩
    refine y_iload_n C dX0_ridesThatStand_23 1 rfl rfl ?_
    refine y_icmp_ne (tgt := 30) C dX0_ridesThatStand_24 rfl h (fun c24 h => ?_) (fun c24 h => ?_)
    · refine y_iinc (v := (x3 + (1 : Int32))) (lv' := [(3, .int (x3 + (1 : Int32))), (0, .ref (A 0)), (1, .int how), (2, .int x2)]) C dX0_ridesThatStand_30 3 rfl rfl (Nat.le_of_ble_eq_true rfl) rfl ?_
      refine y_goto (tgt := 4) C dX0_ridesThatStand_33 rfl ?_
      refine y_sub (lv' := [(0, .ref (A 0)), (1, .int how), (2, .int x2), (3, .int (x3 + (1 : Int32)))]) [1, 2, 3, 0] rfl ?_
      exact hX4 _ _ h
    · refine y_iinc (v := (x2 + (1 : Int32))) (lv' := [(2, .int (x2 + (1 : Int32))), (0, .ref (A 0)), (1, .int how), (3, .int x3)]) C dX0_ridesThatStand_27 2 rfl rfl (Nat.le_of_ble_eq_true rfl) rfl ?_
      refine y_iinc (v := (x3 + (1 : Int32))) (lv' := [(3, .int (x3 + (1 : Int32))), (2, .int (x2 + (1 : Int32))), (0, .ref (A 0)), (1, .int how)]) C dX0_ridesThatStand_30 3 rfl rfl (Nat.le_of_ble_eq_true rfl) rfl ?_
      refine y_goto (tgt := 4) C dX0_ridesThatStand_33 rfl ?_
      refine y_sub (lv' := [(0, .ref (A 0)), (1, .int how), (2, .int (x2 + (1 : Int32))), (3, .int (x3 + (1 : Int32)))]) [2, 3, 1, 0] rfl ?_
      exact hX4 _ _ h
set_option maxHeartbeats 4000000 in
set_option maxRecDepth 100000 in
theorem l_X0_ridesThatStand {Z : yZ} (g : yG) (A : Nat → Nat) (d : RV) (G : Nat → Nat → Int32) (how : Int32) (C : yC Z g cX0_ridesThatStand 4 wsX0_ridesThatStand RX0) {post : Int32 → List va_W → Prop} (HR : yRi Z ({ frames := 1, cells := 0, slots := 0, locals := 21 } : Room) cX0_ridesThatStand .int post 0 0) {K : Int32 → Prop} (hK : ∀ (r0 : Int32), K r0 → post r0 ([dayC A d] ++ dayR g A d G : List va_W)) {I4 : Nat → Int32 → Int32 → Prop} (o4 : ∀ (w0 : Nat) (x2 : Int32) (x3 : Int32), I4 w0 x2 x3 → wp_X0_ridesThatStand_4 d how (fun (x29 : Int32) (x39 : Int32) => ∃ w9, w9 < w0 ∧ I4 w9 x29 x39) K x2 x3) : ∀ w0 : Nat, (∀ (x2 : Int32) (x3 : Int32), I4 w0 x2 x3 → yJ Z ({ frames := 1, cells := 0, slots := 0, locals := 21 } : Room) 0 0 ([dayC A d] ++ dayR g A d G : List va_W) 4 [(0, .ref (A 0)), (1, .int how), (2, .int x2), (3, .int x3)] []) := by
  intro w0
  induction w0 using Nat.strongRecOn with
  | _ w0 ih =>
    exact fun x2 x3 hi => w_X0_ridesThatStand_4 g A d G how C HR (fun x2 x3 hq => by obtain ⟨w9, hlt, hi⟩ := hq; exact (ih w9 hlt) x2 x3 hi) hK x2 x3 (o4 w0 x2 x3 hi)
set_option maxHeartbeats 4000000 in
set_option maxRecDepth 100000 in
theorem t_X0_ridesThatStand (g : yG) (A : Nat → Nat) (d : RV) (G : Nat → Nat → Int32) (how : Int32) {post : Int32 → List va_W → Prop} {K : Int32 → Prop} (hK : ∀ (r0 : Int32), K r0 → post r0 ([dayC A d] ++ dayR g A d G : List va_W)) (hPO : PO_X0_ridesThatStand d how K  ) : yM g yX0_ridesThatStand wsX0_ridesThatStand ({ frames := 1, cells := 0, slots := 0, locals := 21 } : Room) [.ref (A 0), .int how] ([dayC A d] ++ dayR g A d G : List va_W) post 0 0 := by
  refine y_entryI (cc := cX0_ridesThatStand) (maxL := 4) (by decide +kernel) rfl (Nat.le_of_ble_eq_true rfl) (fun Z C HR => ?_)
  have C : yC Z g cX0_ridesThatStand 4 wsX0_ridesThatStand RX0 := C
  obtain ⟨I4, o4, h⟩ := hPO
  have hX4 : ∀ (x2 : Int32) (x3 : Int32), (fun (x29 : Int32) (x39 : Int32) => ∃ w9, I4 w9 x29 x39) x2 x3 → yJ Z ({ frames := 1, cells := 0, slots := 0, locals := 21 } : Room) 0 0 ([dayC A d] ++ dayR g A d G : List va_W) 4 [(0, .ref (A 0)), (1, .int how), (2, .int x2), (3, .int x3)] [] := by
    intro x2 x3 hq
    obtain ⟨w9, hi⟩ := hq
    exact (l_X0_ridesThatStand g A d G how C HR hK o4 w9) x2 x3 hi
  unfold wp_X0_ridesThatStand_0 at h
  show yJ Z _ 0 0 _ 0 [(0, .ref (A 0)), (1, .int how)] []
  refine y_iconst (v := 0) C dX0_ridesThatStand_0 (by decide) ?_
  refine y_istore_n (lv' := [(2, .int (0 : Int32)), (0, .ref (A 0)), (1, .int how)]) C dX0_ridesThatStand_1 rfl (Nat.le_of_ble_eq_true rfl) rfl ?_
  refine y_iconst (v := 0) C dX0_ridesThatStand_2 (by decide) ?_
  refine y_istore_n (lv' := [(3, .int (0 : Int32)), (2, .int (0 : Int32)), (0, .ref (A 0)), (1, .int how)]) C dX0_ridesThatStand_3 rfl (Nat.le_of_ble_eq_true rfl) rfl ?_
  refine y_sub (lv' := [(0, .ref (A 0)), (1, .int how), (2, .int (0 : Int32)), (3, .int (0 : Int32))]) [2, 3, 1, 0] rfl ?_
  exact hX4 _ _ h
set_option maxHeartbeats 4000000 in
set_option maxRecDepth 100000 in
theorem c_X0_ridesThatStand (g : yG) (A : Nat → Nat) (d : RV) (G : Nat → Nat → Int32) (how : Int32)  : yM g yX0_ridesThatStand wsX0_ridesThatStand ({ frames := 1, cells := 0, slots := 0, locals := 21 } : Room) [.ref (A 0), .int how] ([dayC A d] ++ dayR g A d G : List va_W) (fun r w => r = (nStand (d.1 8) how) ∧ w = ([dayC A d] ++ dayR g A d G : List va_W)) 0 0 :=
  yM_fact (F := dayLen d) (fun A9 hD => dayLen_of (g := g) (A := A) (G := G) (fun x hx => by simp only [List.mem_append, hx, true_or, or_true]) hD) (fun hF => t_X0_ridesThatStand g A d G how (K := (fun (r1 : Int32) => r1 = (nStand (d.1 8) how))) (fun r1 e0 => ⟨e0, rfl⟩) (p_X0_ridesThatStand (by have := hF.2.2.2.2.2.2.2.2.1; omega)))
theorem dX0_minutes_0 : decode cX0_minutes 0 = .ok (.aload_n 0, 1) := by decide +kernel
theorem dX0_minutes_1 : decode cX0_minutes 1 = .ok (.getfield 20, 3) := by decide +kernel
theorem dX0_minutes_4 : decode cX0_minutes 4 = .ok (.iload_n 1, 1) := by decide +kernel
theorem dX0_minutes_5 : decode cX0_minutes 5 = .ok (.invokevirtual 74, 3) := by decide +kernel
theorem dX0_minutes_8 : decode cX0_minutes 8 = .ok (.aload_n 0, 1) := by decide +kernel
theorem dX0_minutes_9 : decode cX0_minutes 9 = .ok (.getfield 20, 3) := by decide +kernel
theorem dX0_minutes_12 : decode cX0_minutes 12 = .ok (.iload_n 2, 1) := by decide +kernel
theorem dX0_minutes_13 : decode cX0_minutes 13 = .ok (.invokevirtual 74, 3) := by decide +kernel
theorem dX0_minutes_16 : decode cX0_minutes 16 = .ok (.isub, 1) := by decide +kernel
theorem dX0_minutes_17 : decode cX0_minutes 17 = .ok (.invokestatic 78, 3) := by decide +kernel
theorem dX0_minutes_20 : decode cX0_minutes 20 = .ok (.aload_n 0, 1) := by decide +kernel
theorem dX0_minutes_21 : decode cX0_minutes 21 = .ok (.getfield 23, 3) := by decide +kernel
theorem dX0_minutes_24 : decode cX0_minutes 24 = .ok (.iload_n 1, 1) := by decide +kernel
theorem dX0_minutes_25 : decode cX0_minutes 25 = .ok (.invokevirtual 74, 3) := by decide +kernel
theorem dX0_minutes_28 : decode cX0_minutes 28 = .ok (.aload_n 0, 1) := by decide +kernel
theorem dX0_minutes_29 : decode cX0_minutes 29 = .ok (.getfield 23, 3) := by decide +kernel
theorem dX0_minutes_32 : decode cX0_minutes 32 = .ok (.iload_n 2, 1) := by decide +kernel
theorem dX0_minutes_33 : decode cX0_minutes 33 = .ok (.invokevirtual 74, 3) := by decide +kernel
theorem dX0_minutes_36 : decode cX0_minutes 36 = .ok (.isub, 1) := by decide +kernel
theorem dX0_minutes_37 : decode cX0_minutes 37 = .ok (.invokestatic 78, 3) := by decide +kernel
theorem dX0_minutes_40 : decode cX0_minutes 40 = .ok (.iadd, 1) := by decide +kernel
theorem dX0_minutes_41 : decode cX0_minutes 41 = .ok (.ireturn, 1) := by decide +kernel
set_option maxRecDepth 20000 in
theorem ggX0_minutes_X3_at : GoodIn wsX0_minutes wsX3_at := goodIn_r _ [11, 12, 13, 29, 30] (by decide +kernel) (by decide +kernel)
set_option maxRecDepth 20000 in
theorem gX0_minutes_X3_at : GoodIn wsX0_minutes (wsV RX0 74 RX3 yX3_at wsX3_at) := goodIn_app (goodIn_of _ (by decide +kernel)) ggX0_minutes_X3_at
theorem kX0_minutes_1 : Cond.fieldLink RX0 20 "BookedDetours$Day" "xs" "LBookedDetours$Row;" ∈ wsX0_minutes := List.mem_of_getElem? (i := 1) (by decide +kernel)
theorem kX0_minutes_2 : Cond.methodLink RX0 78 Lib.Math.abs.name ∈ wsX0_minutes := List.mem_of_getElem? (i := 2) (by decide +kernel)
theorem kX0_minutes_3 : Cond.static Lib.Math.abs.name ∈ wsX0_minutes := List.mem_of_getElem? (i := 3) (by decide +kernel)
theorem kX0_minutes_4 : Cond.initialized "java/lang/Math" ∈ wsX0_minutes := List.mem_of_getElem? (i := 4) (by decide +kernel)
theorem kX0_minutes_5 : Cond.code Lib.Math.abs.name Lib.Math.abs.code 1 (some .int) ∈ wsX0_minutes := List.mem_of_getElem? (i := 5) (by decide +kernel)
theorem kX0_minutes_6 : Cond.fieldLink RX0 23 "BookedDetours$Day" "ys" "LBookedDetours$Row;" ∈ wsX0_minutes := List.mem_of_getElem? (i := 6) (by decide +kernel)
theorem hX0_minutes_X0 : ∀ w ∈ u_ws RX0 TX0 15, w ∈ wsX0_minutes := fun _ h => List.mem_cons_of_mem _ (List.mem_append_left _ (List.mem_append_right _ h))
set_option maxHeartbeats 4000000 in
set_option maxRecDepth 100000 in
theorem c_X0_minutes (g : yG) (A : Nat → Nat) (d : RV) (G : Nat → Nat → Int32) (i : Int32) (j : Int32) : yM g yX0_minutes wsX0_minutes ({ frames := 1, cells := 0, slots := 0, locals := 21 } : Room) [.ref (A 0), .int i, .int j] ([dayC A d] ++ dayR g A d G : List va_W) (fun r w => r = (f_X0_minutes d i j) ∧ w = ([dayC A d] ++ dayR g A d G : List va_W)) 0 0 := by
  refine y_entryI (cc := cX0_minutes) (maxL := 3) (by decide +kernel) rfl (Nat.le_of_ble_eq_true rfl) (fun Z C HR => ?_)
  have C : yC Z g cX0_minutes 3 wsX0_minutes RX0 := C
  have h := f_X0_minutes.eq_1 d i j
  show yJ Z _ 0 0 _ 0 [(0, .ref (A 0)), (1, .int i), (2, .int j)] []
  refine y_aload_n C dX0_minutes_0 0 rfl rfl ?_
  refine y_get (Cn := RX0) (T := TX0) (N := 15) (v := .ref (A 3)) C dX0_minutes_1 hX0_minutes_X0 0 (sh_3 g A d G) rfl 1 (Nat.le_of_ble_eq_true rfl) kX0_minutes_1 rfl ?_
  refine y_iload_n C dX0_minutes_4 1 rfl rfl ?_
  refine y_callV (As := [.int i]) (rest := []) C dX0_minutes_5 (c_X3_at g (A 3) (A 4) 12 (d.1 1) (G 1) i (by decide)) rfl rfl rfl rfl ⟨Nat.le_of_ble_eq_true rfl, Nat.le_of_ble_eq_true rfl⟩ gX0_minutes_X3_at (nA := 1) (by decide +kernel) rfl (rowW_recv ⟨_, rfl⟩) (Nat.le_of_ble_eq_true rfl) ⟨Nat.le_of_ble_eq_true rfl, Nat.le_of_ble_eq_true rfl⟩ [2] [0, 1, 3, 4, 5, 6, 7, 8, 9, 10, 11, 12] (nB := 13) rfl (by decide +kernel) (sh_4 g A d G) (fun r1 w9 hw => ?_)
  obtain ⟨er1, rfl⟩ := hw
  have h := y_letF h er1
  refine ⟨([dayC A d] ++ dayR g A d G : List va_W), ⟨(sh_4 g A d G), rfl, rfl⟩, ?_⟩
  refine y_aload_n C dX0_minutes_8 0 rfl rfl ?_
  refine y_get (Cn := RX0) (T := TX0) (N := 15) (v := .ref (A 3)) C dX0_minutes_9 hX0_minutes_X0 0 (sh_3 g A d G) rfl 1 (Nat.le_of_ble_eq_true rfl) kX0_minutes_1 rfl ?_
  refine y_iload_n C dX0_minutes_12 2 rfl rfl ?_
  refine y_callV (As := [.int j]) (rest := [.int r1]) C dX0_minutes_13 (c_X3_at g (A 3) (A 4) 12 (d.1 1) (G 1) j (by decide)) rfl rfl rfl rfl ⟨Nat.le_of_ble_eq_true rfl, Nat.le_of_ble_eq_true rfl⟩ gX0_minutes_X3_at (nA := 1) (by decide +kernel) rfl (rowW_recv ⟨_, rfl⟩) (Nat.le_of_ble_eq_true rfl) ⟨Nat.le_of_ble_eq_true rfl, Nat.le_of_ble_eq_true rfl⟩ [2] [0, 1, 3, 4, 5, 6, 7, 8, 9, 10, 11, 12] (nB := 13) rfl (by decide +kernel) (sh_4 g A d G) (fun r2 w9 hw => ?_)
  obtain ⟨er2, rfl⟩ := hw
  have h := y_letF h er2
  refine ⟨([dayC A d] ++ dayR g A d G : List va_W), ⟨(sh_4 g A d G), rfl, rfl⟩, ?_⟩
  refine y_isub C dX0_minutes_16 ?_
  refine y_mabs C dX0_minutes_17 kX0_minutes_2 kX0_minutes_3 kX0_minutes_4 kX0_minutes_5 (Nat.le_of_ble_eq_true rfl) (Nat.le_of_ble_eq_true rfl) (Nat.le_of_ble_eq_true rfl) (Nat.le_of_ble_eq_true rfl) ?_
  refine y_topi (fun m3 em3 => ?_)
  have h := y_letF h em3
  refine y_aload_n C dX0_minutes_20 0 rfl rfl ?_
  refine y_get (Cn := RX0) (T := TX0) (N := 15) (v := .ref (A 5)) C dX0_minutes_21 hX0_minutes_X0 0 (sh_3 g A d G) rfl 2 (Nat.le_of_ble_eq_true rfl) kX0_minutes_6 rfl ?_
  refine y_iload_n C dX0_minutes_24 1 rfl rfl ?_
  refine y_callV (As := [.int i]) (rest := [.int m3]) C dX0_minutes_25 (c_X3_at g (A 5) (A 6) 12 (d.1 2) (G 2) i (by decide)) rfl rfl rfl rfl ⟨Nat.le_of_ble_eq_true rfl, Nat.le_of_ble_eq_true rfl⟩ gX0_minutes_X3_at (nA := 1) (by decide +kernel) rfl (rowW_recv ⟨_, rfl⟩) (Nat.le_of_ble_eq_true rfl) ⟨Nat.le_of_ble_eq_true rfl, Nat.le_of_ble_eq_true rfl⟩ [3] [0, 1, 2, 4, 5, 6, 7, 8, 9, 10, 11, 12] (nB := 13) rfl (by decide +kernel) (sh_6 g A d G) (fun r4 w9 hw => ?_)
  obtain ⟨er4, rfl⟩ := hw
  have h := y_letF h er4
  refine ⟨([dayC A d] ++ dayR g A d G : List va_W), ⟨(sh_6 g A d G), rfl, rfl⟩, ?_⟩
  refine y_aload_n C dX0_minutes_28 0 rfl rfl ?_
  refine y_get (Cn := RX0) (T := TX0) (N := 15) (v := .ref (A 5)) C dX0_minutes_29 hX0_minutes_X0 0 (sh_3 g A d G) rfl 2 (Nat.le_of_ble_eq_true rfl) kX0_minutes_6 rfl ?_
  refine y_iload_n C dX0_minutes_32 2 rfl rfl ?_
  refine y_callV (As := [.int j]) (rest := [.int r4, .int m3]) C dX0_minutes_33 (c_X3_at g (A 5) (A 6) 12 (d.1 2) (G 2) j (by decide)) rfl rfl rfl rfl ⟨Nat.le_of_ble_eq_true rfl, Nat.le_of_ble_eq_true rfl⟩ gX0_minutes_X3_at (nA := 1) (by decide +kernel) rfl (rowW_recv ⟨_, rfl⟩) (Nat.le_of_ble_eq_true rfl) ⟨Nat.le_of_ble_eq_true rfl, Nat.le_of_ble_eq_true rfl⟩ [3] [0, 1, 2, 4, 5, 6, 7, 8, 9, 10, 11, 12] (nB := 13) rfl (by decide +kernel) (sh_6 g A d G) (fun r5 w9 hw => ?_)
  obtain ⟨er5, rfl⟩ := hw
  have h := y_letF h er5
  refine ⟨([dayC A d] ++ dayR g A d G : List va_W), ⟨(sh_6 g A d G), rfl, rfl⟩, ?_⟩
  refine y_isub C dX0_minutes_36 ?_
  refine y_mabs C dX0_minutes_37 kX0_minutes_2 kX0_minutes_3 kX0_minutes_4 kX0_minutes_5 (Nat.le_of_ble_eq_true rfl) (Nat.le_of_ble_eq_true rfl) (Nat.le_of_ble_eq_true rfl) (Nat.le_of_ble_eq_true rfl) ?_
  refine y_topi (fun m6 em6 => ?_)
  have h := y_letF h em6
  refine y_iadd C dX0_minutes_40 ?_
  exact HR 41 dX0_minutes_41 (m3 + m6) _ _ _ _ (rfl) (Nat.le_of_ble_eq_true rfl) (Nat.le_of_ble_eq_true rfl) ⟨by rw [h], rfl⟩
theorem dX0_stopOf_0 : decode cX0_stopOf 0 = .ok (.iload_n 1, 1) := by decide +kernel
theorem dX0_stopOf_1 : decode cX0_stopOf 1 = .ok (.invokestatic 83, 3) := by decide +kernel
theorem dX0_stopOf_4 : decode cX0_stopOf 4 = .ok (.istore_n 2, 1) := by decide +kernel
theorem dX0_stopOf_5 : decode cX0_stopOf 5 = .ok (.iload_n 1, 1) := by decide +kernel
theorem dX0_stopOf_6 : decode cX0_stopOf 6 = .ok (.invokestatic 86, 3) := by decide +kernel
theorem dX0_stopOf_9 : decode cX0_stopOf 9 = .ok (.ifCond .eq 14, 3) := by decide +kernel
theorem dX0_stopOf_12 : decode cX0_stopOf 12 = .ok (.aload_n 0, 1) := by decide +kernel
theorem dX0_stopOf_13 : decode cX0_stopOf 13 = .ok (.getfield 29, 3) := by decide +kernel
theorem dX0_stopOf_16 : decode cX0_stopOf 16 = .ok (.iload_n 2, 1) := by decide +kernel
theorem dX0_stopOf_17 : decode cX0_stopOf 17 = .ok (.invokevirtual 74, 3) := by decide +kernel
theorem dX0_stopOf_20 : decode cX0_stopOf 20 = .ok (.goto 11, 3) := by decide +kernel
theorem dX0_stopOf_23 : decode cX0_stopOf 23 = .ok (.aload_n 0, 1) := by decide +kernel
theorem dX0_stopOf_24 : decode cX0_stopOf 24 = .ok (.getfield 26, 3) := by decide +kernel
theorem dX0_stopOf_27 : decode cX0_stopOf 27 = .ok (.iload_n 2, 1) := by decide +kernel
theorem dX0_stopOf_28 : decode cX0_stopOf 28 = .ok (.invokevirtual 74, 3) := by decide +kernel
theorem dX0_stopOf_31 : decode cX0_stopOf 31 = .ok (.ireturn, 1) := by decide +kernel
set_option maxRecDepth 20000 in
theorem ggX0_stopOf_X6_rideOf : GoodIn wsX0_stopOf wsX6_rideOf := goodIn_r _ [5] (by decide +kernel) (by decide +kernel)
set_option maxRecDepth 20000 in
theorem gX0_stopOf_X6_rideOf_n83 : GoodIn wsX0_stopOf (wsX6_rideOf) := ggX0_stopOf_X6_rideOf
set_option maxRecDepth 20000 in
theorem ggX0_stopOf_X6_setsDown : GoodIn wsX0_stopOf wsX6_setsDown := goodIn_r _ [7] (by decide +kernel) (by decide +kernel)
set_option maxRecDepth 20000 in
theorem gX0_stopOf_X6_setsDown_n86 : GoodIn wsX0_stopOf (wsX6_setsDown) := ggX0_stopOf_X6_setsDown
set_option maxRecDepth 20000 in
theorem ggX0_stopOf_X3_at : GoodIn wsX0_stopOf wsX3_at := goodIn_r _ [12, 13, 14, 30, 31] (by decide +kernel) (by decide +kernel)
set_option maxRecDepth 20000 in
theorem gX0_stopOf_X3_at : GoodIn wsX0_stopOf (wsV RX0 74 RX3 yX3_at wsX3_at) := goodIn_app (goodIn_of _ (by decide +kernel)) ggX0_stopOf_X3_at
theorem kX0_stopOf_4 : Cond.initialized RX6 ∈ wsX0_stopOf := List.mem_of_getElem? (i := 4) (by decide +kernel)
theorem kX0_stopOf_3 : Cond.static yX6_rideOf ∈ wsX0_stopOf := List.mem_of_getElem? (i := 3) (by decide +kernel)
theorem kX0_stopOf_6 : Cond.static yX6_setsDown ∈ wsX0_stopOf := List.mem_of_getElem? (i := 6) (by decide +kernel)
theorem kX0_stopOf_2 : Cond.fieldLink RX0 26 "BookedDetours$Day" "froms" "LBookedDetours$Row;" ∈ wsX0_stopOf := List.mem_of_getElem? (i := 2) (by decide +kernel)
theorem kX0_stopOf_1 : Cond.fieldLink RX0 29 "BookedDetours$Day" "tos" "LBookedDetours$Row;" ∈ wsX0_stopOf := List.mem_of_getElem? (i := 1) (by decide +kernel)
theorem hX0_stopOf_X0 : ∀ w ∈ u_ws RX0 TX0 15, w ∈ wsX0_stopOf := fun _ h => List.mem_cons_of_mem _ (List.mem_append_left _ (List.mem_append_right _ h))
set_option maxHeartbeats 4000000 in
set_option maxRecDepth 100000 in
theorem c_X0_stopOf (g : yG) (A : Nat → Nat) (d : RV) (G : Nat → Nat → Int32) (v : Int32) : yM g yX0_stopOf wsX0_stopOf ({ frames := 1, cells := 0, slots := 0, locals := 21 } : Room) [.ref (A 0), .int v] ([dayC A d] ++ dayR g A d G : List va_W) (fun r w => r = (f_X0_stopOf d v) ∧ w = ([dayC A d] ++ dayR g A d G : List va_W)) 0 0 := by
  refine y_entryI (cc := cX0_stopOf) (maxL := 3) (by decide +kernel) rfl (Nat.le_of_ble_eq_true rfl) (fun Z C HR => ?_)
  have C : yC Z g cX0_stopOf 3 wsX0_stopOf RX0 := C
  have h := f_X0_stopOf.eq_1 d v
  show yJ Z _ 0 0 _ 0 [(0, .ref (A 0)), (1, .int v)] []
  refine y_iload_n C dX0_stopOf_0 1 rfl rfl ?_
  refine y_callSN (host := RX6) (As := [.int v]) (rest := []) C dX0_stopOf_1 (c_X6_rideOf g v) rfl rfl rfl rfl ⟨Nat.le_of_ble_eq_true rfl, Nat.le_of_ble_eq_true rfl⟩ gX0_stopOf_X6_rideOf_n83 (List.mem_of_getElem? (i := 4) rfl) kX0_stopOf_4 kX0_stopOf_3 (nA := 1) (by decide +kernel) rfl (Nat.le_of_ble_eq_true rfl) ⟨Nat.le_of_ble_eq_true rfl, Nat.le_of_ble_eq_true rfl⟩ [] [0, 1, 2, 3, 4, 5, 6, 7, 8, 9, 10, 11, 12] (nB := 13) rfl (by decide +kernel) (sh_7 g A d G) (fun r1 w9 hw => ?_)
  obtain ⟨er1, rfl⟩ := hw
  have h := y_letF h er1
  refine ⟨([dayC A d] ++ dayR g A d G : List va_W), ⟨(sh_7 g A d G), rfl, rfl⟩, ?_⟩
  refine y_istore_n (lv' := [(2, .int r1), (0, .ref (A 0)), (1, .int v)]) C dX0_stopOf_4 rfl (Nat.le_of_ble_eq_true rfl) rfl ?_
  refine y_iload_n C dX0_stopOf_5 2 rfl rfl ?_
  refine y_callSN (host := RX6) (As := [.int v]) (rest := []) C dX0_stopOf_6 (c_X6_setsDown g v) rfl rfl rfl rfl ⟨Nat.le_of_ble_eq_true rfl, Nat.le_of_ble_eq_true rfl⟩ gX0_stopOf_X6_setsDown_n86 (List.mem_of_getElem? (i := 5) rfl) kX0_stopOf_4 kX0_stopOf_6 (nA := 1) (by decide +kernel) rfl (Nat.le_of_ble_eq_true rfl) ⟨Nat.le_of_ble_eq_true rfl, Nat.le_of_ble_eq_true rfl⟩ [] [0, 1, 2, 3, 4, 5, 6, 7, 8, 9, 10, 11, 12] (nB := 13) rfl (by decide +kernel) (sh_7 g A d G) (fun r2 w9 hw => ?_)
  obtain ⟨er2, rfl⟩ := hw
  have h := y_letF h er2
  refine ⟨([dayC A d] ++ dayR g A d G : List va_W), ⟨(sh_7 g A d G), rfl, rfl⟩, ?_⟩
  refine y_if_eq (tgt := 23) C dX0_stopOf_9 rfl (y_e h) (fun c9 h => ?_) (fun c9 h => ?_)
  · refine y_aload_n C dX0_stopOf_23 1 rfl rfl ?_
    refine y_get (Cn := RX0) (T := TX0) (N := 15) (v := .ref (A 7)) C dX0_stopOf_24 hX0_stopOf_X0 0 (sh_3 g A d G) rfl 3 (Nat.le_of_ble_eq_true rfl) kX0_stopOf_2 rfl ?_
    refine y_iload_n C dX0_stopOf_27 0 rfl rfl ?_
    refine y_callV (As := [.int r1]) (rest := []) C dX0_stopOf_28 (c_X3_at g (A 7) (A 8) 17 (d.1 3) (G 3) r1 (by decide)) rfl rfl rfl rfl ⟨Nat.le_of_ble_eq_true rfl, Nat.le_of_ble_eq_true rfl⟩ gX0_stopOf_X3_at (nA := 1) (by decide +kernel) rfl (rowW_recv ⟨_, rfl⟩) (Nat.le_of_ble_eq_true rfl) ⟨Nat.le_of_ble_eq_true rfl, Nat.le_of_ble_eq_true rfl⟩ [4] [0, 1, 2, 3, 5, 6, 7, 8, 9, 10, 11, 12] (nB := 13) rfl (by decide +kernel) (sh_8 g A d G) (fun r3 w9 hw => ?_)
    obtain ⟨er3, rfl⟩ := hw
    have h := y_letF h er3
    refine ⟨([dayC A d] ++ dayR g A d G : List va_W), ⟨(sh_8 g A d G), rfl, rfl⟩, ?_⟩
    exact HR 31 dX0_stopOf_31 r3 _ _ _ _ (rfl) (Nat.le_of_ble_eq_true rfl) (Nat.le_of_ble_eq_true rfl) ⟨by rw [h], rfl⟩
  · refine y_aload_n C dX0_stopOf_12 1 rfl rfl ?_
    refine y_get (Cn := RX0) (T := TX0) (N := 15) (v := .ref (A 9)) C dX0_stopOf_13 hX0_stopOf_X0 0 (sh_3 g A d G) rfl 4 (Nat.le_of_ble_eq_true rfl) kX0_stopOf_1 rfl ?_
    refine y_iload_n C dX0_stopOf_16 0 rfl rfl ?_
    refine y_callV (As := [.int r1]) (rest := []) C dX0_stopOf_17 (c_X3_at g (A 9) (A 10) 17 (d.1 4) (G 4) r1 (by decide)) rfl rfl rfl rfl ⟨Nat.le_of_ble_eq_true rfl, Nat.le_of_ble_eq_true rfl⟩ gX0_stopOf_X3_at (nA := 1) (by decide +kernel) rfl (rowW_recv ⟨_, rfl⟩) (Nat.le_of_ble_eq_true rfl) ⟨Nat.le_of_ble_eq_true rfl, Nat.le_of_ble_eq_true rfl⟩ [5] [0, 1, 2, 3, 4, 6, 7, 8, 9, 10, 11, 12] (nB := 13) rfl (by decide +kernel) (sh_9 g A d G) (fun r4 w9 hw => ?_)
    obtain ⟨er4, rfl⟩ := hw
    have h := y_letF h er4
    refine ⟨([dayC A d] ++ dayR g A d G : List va_W), ⟨(sh_9 g A d G), rfl, rfl⟩, ?_⟩
    refine y_goto (tgt := 31) C dX0_stopOf_20 rfl ?_
    exact HR 31 dX0_stopOf_31 r4 _ _ _ _ (rfl) (Nat.le_of_ble_eq_true rfl) (Nat.le_of_ble_eq_true rfl) ⟨by rw [h], rfl⟩
theorem dX0_isOnItsWay_0 : decode cX0_isOnItsWay 0 = .ok (.aload_n 0, 1) := by decide +kernel
theorem dX0_isOnItsWay_1 : decode cX0_isOnItsWay 1 = .ok (.getfield 50, 3) := by decide +kernel
theorem dX0_isOnItsWay_4 : decode cX0_isOnItsWay 4 = .ok (.invokevirtual 70, 3) := by decide +kernel
theorem dX0_isOnItsWay_7 : decode cX0_isOnItsWay 7 = .ok (.ifCond .le 18, 3) := by decide +kernel
theorem dX0_isOnItsWay_10 : decode cX0_isOnItsWay 10 = .ok (.aload_n 0, 1) := by decide +kernel
theorem dX0_isOnItsWay_11 : decode cX0_isOnItsWay 11 = .ok (.getfield 60, 3) := by decide +kernel
theorem dX0_isOnItsWay_14 : decode cX0_isOnItsWay 14 = .ok (.aload_n 0, 1) := by decide +kernel
theorem dX0_isOnItsWay_15 : decode cX0_isOnItsWay 15 = .ok (.getfield 67, 3) := by decide +kernel
theorem dX0_isOnItsWay_18 : decode cX0_isOnItsWay 18 = .ok (.if_icmp .le 7, 3) := by decide +kernel
theorem dX0_isOnItsWay_21 : decode cX0_isOnItsWay 21 = .ok (.iconst 1, 1) := by decide +kernel
theorem dX0_isOnItsWay_22 : decode cX0_isOnItsWay 22 = .ok (.goto 4, 3) := by decide +kernel
theorem dX0_isOnItsWay_25 : decode cX0_isOnItsWay 25 = .ok (.iconst 0, 1) := by decide +kernel
theorem dX0_isOnItsWay_26 : decode cX0_isOnItsWay 26 = .ok (.ireturn, 1) := by decide +kernel
set_option maxRecDepth 20000 in
theorem ggX0_isOnItsWay_X3_length : GoodIn wsX0_isOnItsWay wsX3_length := goodIn_r _ [8, 9, 25, 26] (by decide +kernel) (by decide +kernel)
set_option maxRecDepth 20000 in
theorem gX0_isOnItsWay_X3_length : GoodIn wsX0_isOnItsWay (wsV RX0 70 RX3 yX3_length wsX3_length) := goodIn_app (goodIn_of _ (by decide +kernel)) ggX0_isOnItsWay_X3_length
theorem kX0_isOnItsWay_1 : Cond.fieldLink RX0 50 "BookedDetours$Day" "route" "LBookedDetours$Row;" ∈ wsX0_isOnItsWay := List.mem_of_getElem? (i := 1) (by decide +kernel)
theorem kX0_isOnItsWay_2 : Cond.fieldLink RX0 60 "BookedDetours$Day" "now" "I" ∈ wsX0_isOnItsWay := List.mem_of_getElem? (i := 2) (by decide +kernel)
theorem kX0_isOnItsWay_3 : Cond.fieldLink RX0 67 "BookedDetours$Day" "busFree" "I" ∈ wsX0_isOnItsWay := List.mem_of_getElem? (i := 3) (by decide +kernel)
theorem hX0_isOnItsWay_X0 : ∀ w ∈ u_ws RX0 TX0 15, w ∈ wsX0_isOnItsWay := fun _ h => List.mem_cons_of_mem _ (List.mem_append_left _ (List.mem_append_right _ h))
set_option maxHeartbeats 4000000 in
set_option maxRecDepth 100000 in
theorem c_X0_isOnItsWay (g : yG) (A : Nat → Nat) (d : RV) (G : Nat → Nat → Int32)  : yM g yX0_isOnItsWay wsX0_isOnItsWay ({ frames := 1, cells := 0, slots := 0, locals := 20 } : Room) [.ref (A 0)] ([dayC A d] ++ dayR g A d G : List va_W) (fun r w => r = (f_X0_isOnItsWay d) ∧ w = ([dayC A d] ++ dayR g A d G : List va_W)) 0 0 := by
  refine y_entryI (cc := cX0_isOnItsWay) (maxL := 1) (by decide +kernel) rfl (Nat.le_of_ble_eq_true rfl) (fun Z C HR => ?_)
  have C : yC Z g cX0_isOnItsWay 1 wsX0_isOnItsWay RX0 := C
  have h := f_X0_isOnItsWay.eq_1 d
  show yJ Z _ 0 0 _ 0 [(0, .ref (A 0))] []
  refine y_aload_n C dX0_isOnItsWay_0 0 rfl rfl ?_
  refine y_get (Cn := RX0) (T := TX0) (N := 15) (v := .ref (A 23)) C dX0_isOnItsWay_1 hX0_isOnItsWay_X0 0 (sh_3 g A d G) rfl 11 (Nat.le_of_ble_eq_true rfl) kX0_isOnItsWay_1 rfl ?_
  refine y_callV (As := []) (rest := []) C dX0_isOnItsWay_4 (c_X3_length g (A 23) (A 24) 34 (d.1 11) (G 11) (by decide)) rfl rfl rfl rfl ⟨Nat.le_of_ble_eq_true rfl, Nat.le_of_ble_eq_true rfl⟩ gX0_isOnItsWay_X3_length (nA := 0) (by decide +kernel) rfl (rowW_recv ⟨_, rfl⟩) (Nat.le_of_ble_eq_true rfl) ⟨Nat.le_of_ble_eq_true rfl, Nat.le_of_ble_eq_true rfl⟩ [12] [0, 1, 2, 3, 4, 5, 6, 7, 8, 9, 10, 11] (nB := 13) rfl (by decide +kernel) (sh_10 g A d G) (fun r1 w9 hw => ?_)
  obtain ⟨er1, rfl⟩ := hw
  have h := y_letF h er1
  refine ⟨([dayC A d] ++ dayR g A d G : List va_W), ⟨(sh_10 g A d G), rfl, rfl⟩, ?_⟩
  refine y_if_le (tgt := 25) C dX0_isOnItsWay_7 rfl (y_e h) (fun c7 h => ?_) (fun c7 h => ?_)
  · refine y_iconst (v := 0) C dX0_isOnItsWay_25 (by decide) ?_
    exact HR 26 dX0_isOnItsWay_26 (0 : Int32) _ _ _ _ (rfl) (Nat.le_of_ble_eq_true rfl) (Nat.le_of_ble_eq_true rfl) ⟨by rw [h], rfl⟩
  · refine y_aload_n C dX0_isOnItsWay_10 0 rfl rfl ?_
    refine y_get (Cn := RX0) (T := TX0) (N := 15) (v := .int (d.2 0)) C dX0_isOnItsWay_11 hX0_isOnItsWay_X0 0 (sh_3 g A d G) rfl 12 (Nat.le_of_ble_eq_true rfl) kX0_isOnItsWay_2 rfl ?_
    refine y_aload_n C dX0_isOnItsWay_14 0 rfl rfl ?_
    refine y_get (Cn := RX0) (T := TX0) (N := 15) (v := .int (d.2 2)) C dX0_isOnItsWay_15 hX0_isOnItsWay_X0 0 (sh_3 g A d G) rfl 14 (Nat.le_of_ble_eq_true rfl) kX0_isOnItsWay_3 rfl ?_
    refine y_icmp_le (tgt := 25) C dX0_isOnItsWay_18 rfl (y_e h) (fun c18 h => ?_) (fun c18 h => ?_)
    · refine y_iconst (v := 0) C dX0_isOnItsWay_25 (by decide) ?_
      exact HR 26 dX0_isOnItsWay_26 (0 : Int32) _ _ _ _ (rfl) (Nat.le_of_ble_eq_true rfl) (Nat.le_of_ble_eq_true rfl) ⟨by rw [h], rfl⟩
    · refine y_iconst (v := 1) C dX0_isOnItsWay_21 (by decide) ?_
      refine y_goto (tgt := 26) C dX0_isOnItsWay_22 rfl ?_
      exact HR 26 dX0_isOnItsWay_26 (1 : Int32) _ _ _ _ (rfl) (Nat.le_of_ble_eq_true rfl) (Nat.le_of_ble_eq_true rfl) ⟨by rw [h], rfl⟩
