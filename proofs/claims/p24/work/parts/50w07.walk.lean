theorem dX6_coordinate_0 : decode cX6_coordinate 0 = .ok (.aload_n 0, 1) := by decide +kernel
theorem dX6_coordinate_1 : decode cX6_coordinate 1 = .ok (.getfield 12, 3) := by decide +kernel
theorem dX6_coordinate_4 : decode cX6_coordinate 4 = .ok (.iload_n 1, 1) := by decide +kernel
theorem dX6_coordinate_5 : decode cX6_coordinate 5 = .ok (.invokevirtual 168, 3) := by decide +kernel
theorem dX6_coordinate_8 : decode cX6_coordinate 8 = .ok (.ifCond .ne 5, 3) := by decide +kernel
theorem dX6_coordinate_11 : decode cX6_coordinate 11 = .ok (.iconst (-1), 1) := by decide +kernel
theorem dX6_coordinate_12 : decode cX6_coordinate 12 = .ok (.ireturn, 1) := by decide +kernel
theorem dX6_coordinate_13 : decode cX6_coordinate 13 = .ok (.iload_n 2, 1) := by decide +kernel
theorem dX6_coordinate_14 : decode cX6_coordinate 14 = .ok (.ifCond .ne 15, 3) := by decide +kernel
theorem dX6_coordinate_17 : decode cX6_coordinate 17 = .ok (.aload_n 0, 1) := by decide +kernel
theorem dX6_coordinate_18 : decode cX6_coordinate 18 = .ok (.getfield 12, 3) := by decide +kernel
theorem dX6_coordinate_21 : decode cX6_coordinate 21 = .ok (.getfield 79, 3) := by decide +kernel
theorem dX6_coordinate_24 : decode cX6_coordinate 24 = .ok (.iload_n 1, 1) := by decide +kernel
theorem dX6_coordinate_25 : decode cX6_coordinate 25 = .ok (.invokevirtual 72, 3) := by decide +kernel
theorem dX6_coordinate_28 : decode cX6_coordinate 28 = .ok (.ireturn, 1) := by decide +kernel
theorem dX6_coordinate_29 : decode cX6_coordinate 29 = .ok (.iload_n 2, 1) := by decide +kernel
theorem dX6_coordinate_30 : decode cX6_coordinate 30 = .ok (.iconst 1, 1) := by decide +kernel
theorem dX6_coordinate_31 : decode cX6_coordinate 31 = .ok (.if_icmp .ne 15, 3) := by decide +kernel
theorem dX6_coordinate_34 : decode cX6_coordinate 34 = .ok (.aload_n 0, 1) := by decide +kernel
theorem dX6_coordinate_35 : decode cX6_coordinate 35 = .ok (.getfield 12, 3) := by decide +kernel
theorem dX6_coordinate_38 : decode cX6_coordinate 38 = .ok (.getfield 85, 3) := by decide +kernel
theorem dX6_coordinate_41 : decode cX6_coordinate 41 = .ok (.iload_n 1, 1) := by decide +kernel
theorem dX6_coordinate_42 : decode cX6_coordinate 42 = .ok (.invokevirtual 72, 3) := by decide +kernel
theorem dX6_coordinate_45 : decode cX6_coordinate 45 = .ok (.ireturn, 1) := by decide +kernel
theorem dX6_coordinate_46 : decode cX6_coordinate 46 = .ok (.bipush (-2), 2) := by decide +kernel
theorem dX6_coordinate_48 : decode cX6_coordinate 48 = .ok (.ireturn, 1) := by decide +kernel
set_option maxRecDepth 20000 in
theorem ggX6_coordinate_X0_hasStop : GoodIn wsX6_coordinate wsX0_hasStop := goodIn_r _ [8, 9, 10, 11, 12, 13, 14, 15, 27, 28, 29, 30, 31, 32, 33, 34, 35, 36, 37, 38, 39, 40, 41, 42, 43] (by decide +kernel) (by decide +kernel)
set_option maxRecDepth 20000 in
theorem gX6_coordinate_X0_hasStop : GoodIn wsX6_coordinate (wsV RX6 168 RX0 yX0_hasStop wsX0_hasStop) := goodIn_app (goodIn_of _ (by decide +kernel)) ggX6_coordinate_X0_hasStop
set_option maxRecDepth 20000 in
theorem ggX6_coordinate_X3_at : GoodIn wsX6_coordinate wsX3_at := goodIn_r _ [19, 15, 20, 42, 43] (by decide +kernel) (by decide +kernel)
set_option maxRecDepth 20000 in
theorem gX6_coordinate_X3_at : GoodIn wsX6_coordinate (wsV RX6 72 RX3 yX3_at wsX3_at) := goodIn_app (goodIn_of _ (by decide +kernel)) ggX6_coordinate_X3_at
theorem kX6_coordinate_1 : Cond.fieldLink RX6 12 "BookedDetours" "day" "LBookedDetours$Day;" ∈ wsX6_coordinate := List.mem_of_getElem? (i := 1) (by decide +kernel)
theorem kX6_coordinate_3 : Cond.fieldLink RX6 85 "BookedDetours$Day" "ys" "LBookedDetours$Row;" ∈ wsX6_coordinate := List.mem_of_getElem? (i := 3) (by decide +kernel)
theorem kX6_coordinate_2 : Cond.fieldLink RX6 79 "BookedDetours$Day" "xs" "LBookedDetours$Row;" ∈ wsX6_coordinate := List.mem_of_getElem? (i := 2) (by decide +kernel)
theorem hX6_coordinate_X6 : ∀ w ∈ u_ws RX6 TX6 6, w ∈ wsX6_coordinate := fun _ h => List.mem_cons_of_mem _ (List.mem_append_left _ (List.mem_append_left _ (List.mem_append_right _ h)))
theorem hX6_coordinate_X0 : ∀ w ∈ u_ws RX0 TX0 15, w ∈ wsX6_coordinate := fun _ h => List.mem_cons_of_mem _ (List.mem_append_left _ (List.mem_append_right _ h))
set_option maxHeartbeats 4000000 in
set_option maxRecDepth 100000 in
theorem c_X6_coordinate (g : yG) (x rt rs rp rh rl : Nat) (A : Nat → Nat) (d : RV) (G : Nat → Nat → Int32) (st_ : Int32) (wh : Int32) : yM g yX6_coordinate wsX6_coordinate ({ frames := 2, cells := 0, slots := 0, locals := 41 } : Room) [.ref x, .int st_, .int wh] ([mnC x (A 0) rt rs rp rh rl, dayC A d] ++ dayR g A d G : List va_W) (fun r w => r = (f_X6_coordinate d st_ wh) ∧ w = ([mnC x (A 0) rt rs rp rh rl, dayC A d] ++ dayR g A d G : List va_W)) 0 0 := by
  refine y_entryI (cc := cX6_coordinate) (maxL := 3) (by decide +kernel) rfl (Nat.le_of_ble_eq_true rfl) (fun Z C HR => ?_)
  have C : yC Z g cX6_coordinate 3 wsX6_coordinate RX6 := C
  have h := f_X6_coordinate.eq_1 d st_ wh
  show yJ Z _ 0 0 _ 0 [(0, .ref x), (1, .int st_), (2, .int wh)] []
  refine y_aload_n C dX6_coordinate_0 0 rfl rfl ?_
  refine y_get (Cn := RX6) (T := TX6) (N := 6) (v := .ref (A 0)) C dX6_coordinate_1 hX6_coordinate_X6 0 (sh_140 g x (A 0) rt rs rp rh rl A d G) rfl 0 (Nat.le_of_ble_eq_true rfl) kX6_coordinate_1 rfl ?_
  refine y_iload_n C dX6_coordinate_4 1 rfl rfl ?_
  refine y_callV (As := [.int st_]) (rest := []) C dX6_coordinate_5 (c_X0_hasStop g A d G st_) rfl rfl rfl rfl ⟨Nat.le_of_ble_eq_true rfl, Nat.le_of_ble_eq_true rfl⟩ gX6_coordinate_X0_hasStop (nA := 1) (by decide +kernel) rfl (sh_18 g A d G) (Nat.le_of_ble_eq_true rfl) ⟨Nat.le_of_ble_eq_true rfl, Nat.le_of_ble_eq_true rfl⟩ [1, 2, 3, 4, 5, 6, 7, 8, 9, 10, 11, 12, 13] [0] (nB := 14) rfl (by decide +kernel) (sh_141 g x (A 0) rt rs rp rh rl A d G) (fun r1 w9 hw => ?_)
  obtain ⟨er1, rfl⟩ := hw
  have h := y_letF h er1
  refine ⟨([mnC x (A 0) rt rs rp rh rl, dayC A d] ++ dayR g A d G : List va_W), ⟨(sh_141 g x (A 0) rt rs rp rh rl A d G), rfl, rfl⟩, ?_⟩
  refine y_if_ne (tgt := 13) C dX6_coordinate_8 rfl (y_e h) (fun c8 h => ?_) (fun c8 h => ?_)
  · refine y_iload_n C dX6_coordinate_13 2 rfl rfl ?_
    refine y_if_ne (tgt := 29) C dX6_coordinate_14 rfl (y_e h) (fun c14 h => ?_) (fun c14 h => ?_)
    · refine y_iload_n C dX6_coordinate_29 2 rfl rfl ?_
      refine y_iconst (v := 1) C dX6_coordinate_30 (by decide) ?_
      refine y_icmp_ne (tgt := 46) C dX6_coordinate_31 rfl (y_e h) (fun c31 h => ?_) (fun c31 h => ?_)
      · refine y_bipush (v := -2) C dX6_coordinate_46 (by decide) ?_
        exact HR 48 dX6_coordinate_48 (-2 : Int32) _ _ _ _ (rfl) (Nat.le_of_ble_eq_true rfl) (Nat.le_of_ble_eq_true rfl) ⟨by rw [h], rfl⟩
      · refine y_aload_n C dX6_coordinate_34 0 rfl rfl ?_
        refine y_get (Cn := RX6) (T := TX6) (N := 6) (v := .ref (A 0)) C dX6_coordinate_35 hX6_coordinate_X6 0 (sh_140 g x (A 0) rt rs rp rh rl A d G) rfl 0 (Nat.le_of_ble_eq_true rfl) kX6_coordinate_1 rfl ?_
        refine y_get (Cn := RX0) (T := TX0) (N := 15) (v := .ref (A 5)) C dX6_coordinate_38 hX6_coordinate_X0 1 (sh_207 g x (A 0) rt rs rp rh rl A d G) rfl 2 (Nat.le_of_ble_eq_true rfl) kX6_coordinate_3 rfl ?_
        refine y_iload_n C dX6_coordinate_41 1 rfl rfl ?_
        refine y_callV (As := [.int st_]) (rest := []) C dX6_coordinate_42 (c_X3_at g (A 5) (A 6) 12 (d.1 2) (G 2) st_ (by decide)) rfl rfl rfl rfl ⟨Nat.le_of_ble_eq_true rfl, Nat.le_of_ble_eq_true rfl⟩ gX6_coordinate_X3_at (nA := 1) (by decide +kernel) rfl (rowW_recv ⟨_, rfl⟩) (Nat.le_of_ble_eq_true rfl) ⟨Nat.le_of_ble_eq_true rfl, Nat.le_of_ble_eq_true rfl⟩ [4] [0, 1, 2, 3, 5, 6, 7, 8, 9, 10, 11, 12, 13] (nB := 14) rfl (by decide +kernel) (sh_208 g x (A 0) rt rs rp rh rl A d G) (fun r2 w9 hw => ?_)
        obtain ⟨er2, rfl⟩ := hw
        have h := y_letF h er2
        refine ⟨([mnC x (A 0) rt rs rp rh rl, dayC A d] ++ dayR g A d G : List va_W), ⟨(sh_208 g x (A 0) rt rs rp rh rl A d G), rfl, rfl⟩, ?_⟩
        exact HR 45 dX6_coordinate_45 r2 _ _ _ _ (rfl) (Nat.le_of_ble_eq_true rfl) (Nat.le_of_ble_eq_true rfl) ⟨by rw [h], rfl⟩
    · refine y_aload_n C dX6_coordinate_17 0 rfl rfl ?_
      refine y_get (Cn := RX6) (T := TX6) (N := 6) (v := .ref (A 0)) C dX6_coordinate_18 hX6_coordinate_X6 0 (sh_140 g x (A 0) rt rs rp rh rl A d G) rfl 0 (Nat.le_of_ble_eq_true rfl) kX6_coordinate_1 rfl ?_
      refine y_get (Cn := RX0) (T := TX0) (N := 15) (v := .ref (A 3)) C dX6_coordinate_21 hX6_coordinate_X0 1 (sh_207 g x (A 0) rt rs rp rh rl A d G) rfl 1 (Nat.le_of_ble_eq_true rfl) kX6_coordinate_2 rfl ?_
      refine y_iload_n C dX6_coordinate_24 1 rfl rfl ?_
      refine y_callV (As := [.int st_]) (rest := []) C dX6_coordinate_25 (c_X3_at g (A 3) (A 4) 12 (d.1 1) (G 1) st_ (by decide)) rfl rfl rfl rfl ⟨Nat.le_of_ble_eq_true rfl, Nat.le_of_ble_eq_true rfl⟩ gX6_coordinate_X3_at (nA := 1) (by decide +kernel) rfl (rowW_recv ⟨_, rfl⟩) (Nat.le_of_ble_eq_true rfl) ⟨Nat.le_of_ble_eq_true rfl, Nat.le_of_ble_eq_true rfl⟩ [3] [0, 1, 2, 4, 5, 6, 7, 8, 9, 10, 11, 12, 13] (nB := 14) rfl (by decide +kernel) (sh_209 g x (A 0) rt rs rp rh rl A d G) (fun r3 w9 hw => ?_)
      obtain ⟨er3, rfl⟩ := hw
      have h := y_letF h er3
      refine ⟨([mnC x (A 0) rt rs rp rh rl, dayC A d] ++ dayR g A d G : List va_W), ⟨(sh_209 g x (A 0) rt rs rp rh rl A d G), rfl, rfl⟩, ?_⟩
      exact HR 28 dX6_coordinate_28 r3 _ _ _ _ (rfl) (Nat.le_of_ble_eq_true rfl) (Nat.le_of_ble_eq_true rfl) ⟨by rw [h], rfl⟩
  · refine y_iconst (v := -1) C dX6_coordinate_11 (by decide) ?_
    exact HR 12 dX6_coordinate_12 (-1 : Int32) _ _ _ _ (rfl) (Nat.le_of_ble_eq_true rfl) (Nat.le_of_ble_eq_true rfl) ⟨by rw [h], rfl⟩
