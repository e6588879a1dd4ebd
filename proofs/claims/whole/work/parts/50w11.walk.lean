theorem dX6_wipe_0 : decode cX6_wipe 0 = .ok (.aload_n 0, 1) := by decide +kernel
theorem dX6_wipe_1 : decode cX6_wipe 1 = .ok (.getfield 33, 3) := by decide +kernel
theorem dX6_wipe_4 : decode cX6_wipe 4 = .ok (.getfield 123, 3) := by decide +kernel
theorem dX6_wipe_7 : decode cX6_wipe 7 = .ok (.invokevirtual 59, 3) := by decide +kernel
theorem dX6_wipe_10 : decode cX6_wipe 10 = .ok (.istore_n 1, 1) := by decide +kernel
theorem dX6_wipe_11 : decode cX6_wipe 11 = .ok (.aload_n 0, 1) := by decide +kernel
theorem dX6_wipe_12 : decode cX6_wipe 12 = .ok (.getfield 33, 3) := by decide +kernel
theorem dX6_wipe_15 : decode cX6_wipe 15 = .ok (.getfield 123, 3) := by decide +kernel
theorem dX6_wipe_18 : decode cX6_wipe 18 = .ok (.invokevirtual 126, 3) := by decide +kernel
theorem dX6_wipe_21 : decode cX6_wipe 21 = .ok (.iload_n 1, 1) := by decide +kernel
theorem dX6_wipe_22 : decode cX6_wipe 22 = .ok (.ireturn, 1) := by decide +kernel
set_option maxRecDepth 20000 in
theorem ggX6_wipe_X3_length : GoodIn wsX6_wipe wsX3_length := goodIn_r _ [7, 8, 21, 22] (by decide +kernel) (by decide +kernel)
set_option maxRecDepth 20000 in
theorem gX6_wipe_X3_length : GoodIn wsX6_wipe (wsV RX6 59 RX3 yX3_length wsX3_length) := goodIn_app (goodIn_of _ (by decide +kernel)) ggX6_wipe_X3_length
set_option maxRecDepth 20000 in
theorem ggX6_wipe_X3_clear : GoodIn wsX6_wipe wsX3_clear := goodIn_r _ [12, 8, 21, 22] (by decide +kernel) (by decide +kernel)
set_option maxRecDepth 20000 in
theorem gX6_wipe_X3_clear : GoodIn wsX6_wipe (wsV RX6 126 RX3 yX3_clear wsX3_clear) := goodIn_app (goodIn_of _ (by decide +kernel)) ggX6_wipe_X3_clear
theorem kX6_wipe_1 : Cond.fieldLink RX6 33 "BookedDetours" "pad" "LBookedDetours$Pad;" ∈ wsX6_wipe := List.mem_of_getElem? (i := 1) (by decide +kernel)
theorem kX6_wipe_2 : Cond.fieldLink RX6 123 "BookedDetours$Pad" "signs" "LBookedDetours$Row;" ∈ wsX6_wipe := List.mem_of_getElem? (i := 2) (by decide +kernel)
theorem hX6_wipe_X6 : ∀ w ∈ u_ws RX6 TX6 6, w ∈ wsX6_wipe := fun _ h => List.mem_cons_of_mem _ (List.mem_append_left _ (List.mem_append_left _ (List.mem_append_right _ h)))
theorem hX6_wipe_X2 : ∀ w ∈ u_ws RX2 TX2 2, w ∈ wsX6_wipe := fun _ h => List.mem_cons_of_mem _ (List.mem_append_left _ (List.mem_append_right _ h))
set_option maxHeartbeats 4000000 in
set_option maxRecDepth 100000 in
theorem c_X6_wipe (g : yG) (x ra rt rs rh rl : Nat) (P : Nat → Nat) (p : RV) (GP : Nat → Nat → Int32)  : yM g yX6_wipe wsX6_wipe ({ frames := 1, cells := 0, slots := 0, locals := 20 } : Room) [.ref x] ([mnC x ra rt rs (P 0) rh rl, padC P p] ++ padR g P p GP : List va_W) (fun r w => r = (f_X6_wipe p).1 ∧ ∃ p' : RV, ∃ GP' : Nat → Nat → Int32, p' = (f_X6_wipe p).2 ∧ w = ([mnC x ra rt rs (P 0) rh rl, padC P p'] ++ padR g P p' GP' : List va_W)) 0 0 := by
  refine y_entryI (cc := cX6_wipe) (maxL := 2) (by decide +kernel) rfl (Nat.le_of_ble_eq_true rfl) (fun Z C HR => ?_)
  have C : yC Z g cX6_wipe 2 wsX6_wipe RX6 := C
  have h := f_X6_wipe.eq_1 p
  show yJ Z _ 0 0 _ 0 [(0, .ref x)] []
  refine y_aload_n C dX6_wipe_0 0 rfl rfl ?_
  refine y_get (Cn := RX6) (T := TX6) (N := 6) (v := .ref (P 0)) C dX6_wipe_1 hX6_wipe_X6 0 (sh_235 g x ra rt rs (P 0) rh rl P p GP) rfl 3 (Nat.le_of_ble_eq_true rfl) kX6_wipe_1 rfl ?_
  refine y_get (Cn := RX2) (T := TX2) (N := 2) (v := .ref (P 1)) C dX6_wipe_4 hX6_wipe_X2 1 (sh_236 g x ra rt rs (P 0) rh rl P p GP) rfl 0 (Nat.le_of_ble_eq_true rfl) kX6_wipe_2 rfl ?_
  refine y_callV (As := []) (rest := []) C dX6_wipe_7 (c_X3_length g (P 1) (P 2) 60 (p.1 0) (GP 0) (by decide)) rfl rfl rfl rfl ⟨Nat.le_of_ble_eq_true rfl, Nat.le_of_ble_eq_true rfl⟩ gX6_wipe_X3_length (nA := 0) (by decide +kernel) rfl (rowW_recv ⟨_, rfl⟩) (Nat.le_of_ble_eq_true rfl) ⟨Nat.le_of_ble_eq_true rfl, Nat.le_of_ble_eq_true rfl⟩ [2] [0, 1, 3] (nB := 4) rfl (by decide +kernel) (sh_237 g x ra rt rs (P 0) rh rl P p GP) (fun r1 w9 hw => ?_)
  obtain ⟨er1, rfl⟩ := hw
  have h := y_letF h er1
  refine ⟨([mnC x ra rt rs (P 0) rh rl, padC P p] ++ padR g P p GP : List va_W), ⟨(sh_237 g x ra rt rs (P 0) rh rl P p GP), rfl, rfl⟩, ?_⟩
  refine y_istore_n (lv' := [(1, .int r1), (0, .ref x)]) C dX6_wipe_10 rfl (Nat.le_of_ble_eq_true rfl) rfl ?_
  refine y_aload_n C dX6_wipe_11 1 rfl rfl ?_
  refine y_get (Cn := RX6) (T := TX6) (N := 6) (v := .ref (P 0)) C dX6_wipe_12 hX6_wipe_X6 0 (sh_235 g x ra rt rs (P 0) rh rl P p GP) rfl 3 (Nat.le_of_ble_eq_true rfl) kX6_wipe_1 rfl ?_
  refine y_get (Cn := RX2) (T := TX2) (N := 2) (v := .ref (P 1)) C dX6_wipe_15 hX6_wipe_X2 1 (sh_236 g x ra rt rs (P 0) rh rl P p GP) rfl 0 (Nat.le_of_ble_eq_true rfl) kX6_wipe_2 rfl ?_
  refine y_callVv (As := []) (rest := []) C dX6_wipe_18 (c_X3_clear g (P 1) (P 2) 60 (p.1 0) (GP 0) (by decide)) rfl rfl rfl rfl ⟨Nat.le_of_ble_eq_true rfl, Nat.le_of_ble_eq_true rfl⟩ gX6_wipe_X3_clear (nA := 0) (by decide +kernel) rfl (rowW_recv ⟨_, rfl⟩) (Nat.le_of_ble_eq_true rfl) ⟨Nat.le_of_ble_eq_true rfl, Nat.le_of_ble_eq_true rfl⟩ [2] [0, 1, 3] (nB := 4) rfl (by decide +kernel) (sh_237 g x ra rt rs (P 0) rh rl P p GP) (fun w9 hw => ?_)
  obtain ⟨y2, G3, e4, rfl⟩ := hw
  obtain ⟨p5, ep5⟩ : ∃ z : RV, z = rvR p 0 y2 := ⟨_, rfl⟩
  obtain ⟨G6, eG6⟩ : ∃ z : Nat → Nat → Int32, z = gs GP 0 G3 := ⟨_, rfl⟩
  have h := y_letF h (show p5 = rvR p 0 ([]) by rw [ep5, e4])
  refine ⟨([mnC x ra rt rs (P 0) rh rl, padC P p5] ++ padR g P p5 G6 : List va_W), (sh_241 g x ra rt rs (P 0) rh rl P p GP y2 G3 p5 G6 ep5 eG6), ?_⟩
  refine y_iload_n C dX6_wipe_21 0 rfl rfl ?_
  exact HR 22 dX6_wipe_22 r1 _ _ _ _ (rfl) (Nat.le_of_ble_eq_true rfl) (Nat.le_of_ble_eq_true rfl) ⟨by rw [h], p5, G6, by rw [h], rfl⟩
theorem dX6_fault_0 : decode cX6_fault 0 = .ok (.aload_n 0, 1) := by decide +kernel
theorem dX6_fault_1 : decode cX6_fault 1 = .ok (.getfield 33, 3) := by decide +kernel
theorem dX6_fault_4 : decode cX6_fault 4 = .ok (.invokevirtual 117, 3) := by decide +kernel
theorem dX6_fault_7 : decode cX6_fault 7 = .ok (.ireturn, 1) := by decide +kernel
set_option maxRecDepth 20000 in
theorem ggX6_fault_X2_findFault : GoodIn wsX6_fault wsX2_findFault := goodIn_r _ [6, 7, 8, 9, 10, 11, 12, 13, 14, 15, 16, 17, 18, 19, 20, 21, 22, 23, 24, 25, 5, 26, 27, 28, 29, 30, 31, 32, 33, 34, 35, 36, 37, 38, 39, 40, 47, 48, 49, 50] (by decide +kernel) (by decide +kernel)
set_option maxRecDepth 20000 in
theorem gX6_fault_X2_findFault : GoodIn wsX6_fault (wsV RX6 117 RX2 yX2_findFault wsX2_findFault) := goodIn_app (goodIn_of _ (by decide +kernel)) ggX6_fault_X2_findFault
theorem kX6_fault_1 : Cond.fieldLink RX6 33 "BookedDetours" "pad" "LBookedDetours$Pad;" ∈ wsX6_fault := List.mem_of_getElem? (i := 1) (by decide +kernel)
theorem hX6_fault_X6 : ∀ w ∈ u_ws RX6 TX6 6, w ∈ wsX6_fault := fun _ h => List.mem_cons_of_mem _ (List.mem_append_left _ (List.mem_append_left _ (List.mem_append_right _ h)))
set_option maxHeartbeats 4000000 in
set_option maxRecDepth 100000 in
theorem c_X6_fault (g : yG) (x ra rt rs rh rl : Nat) (P : Nat → Nat) (p : RV) (GP : Nat → Nat → Int32)  : yM g yX6_fault wsX6_fault ({ frames := 3, cells := 0, slots := 0, locals := 68 } : Room) [.ref x] ([mnC x ra rt rs (P 0) rh rl, padC P p] ++ padR g P p GP : List va_W) (fun r w => r = (f_X6_fault p).1 ∧ ∃ p' : RV, ∃ GP' : Nat → Nat → Int32, p' = (f_X6_fault p).2 ∧ w = ([mnC x ra rt rs (P 0) rh rl, padC P p'] ++ padR g P p' GP' : List va_W)) 0 0 := by
  refine y_entryI (cc := cX6_fault) (maxL := 1) (by decide +kernel) rfl (Nat.le_of_ble_eq_true rfl) (fun Z C HR => ?_)
  have C : yC Z g cX6_fault 1 wsX6_fault RX6 := C
  have h := f_X6_fault.eq_1 p
  show yJ Z _ 0 0 _ 0 [(0, .ref x)] []
  refine y_aload_n C dX6_fault_0 0 rfl rfl ?_
  refine y_get (Cn := RX6) (T := TX6) (N := 6) (v := .ref (P 0)) C dX6_fault_1 hX6_fault_X6 0 (sh_235 g x ra rt rs (P 0) rh rl P p GP) rfl 3 (Nat.le_of_ble_eq_true rfl) kX6_fault_1 rfl ?_
  refine y_callV (As := []) (rest := []) C dX6_fault_4 (c_X2_findFault g P p GP) rfl rfl rfl rfl ⟨Nat.le_of_ble_eq_true rfl, Nat.le_of_ble_eq_true rfl⟩ gX6_fault_X2_findFault (nA := 0) (by decide +kernel) rfl (sh_239 g P p GP) (Nat.le_of_ble_eq_true rfl) ⟨Nat.le_of_ble_eq_true rfl, Nat.le_of_ble_eq_true rfl⟩ [1, 2, 3] [0] (nB := 4) rfl (by decide +kernel) (sh_238 g x ra rt rs (P 0) rh rl P p GP) (fun r4 w9 hw => ?_)
  obtain ⟨er4, p1, G2, e3, rfl⟩ := hw
  have h := y_letF h er4
  have h := y_letF h e3
  refine ⟨([mnC x ra rt rs (P 0) rh rl, padC P p1] ++ padR g P p1 G2 : List va_W), (sh_240 g x ra rt rs (P 0) rh rl P p GP p1 G2), ?_⟩
  exact HR 7 dX6_fault_7 r4 _ _ _ _ (rfl) (Nat.le_of_ble_eq_true rfl) (Nat.le_of_ble_eq_true rfl) ⟨by rw [h], p1, G2, by rw [h], rfl⟩
