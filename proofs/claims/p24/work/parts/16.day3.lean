theorem dX0_addRide_0 : decode cX0_addRide 0 = .ok (.aload_n 0, 1) := by decide +kernel
theorem dX0_addRide_1 : decode cX0_addRide 1 = .ok (.getfield 26, 3) := by decide +kernel
theorem dX0_addRide_4 : decode cX0_addRide 4 = .ok (.iload_n 1, 1) := by decide +kernel
theorem dX0_addRide_5 : decode cX0_addRide 5 = .ok (.invokevirtual 53, 3) := by decide +kernel
theorem dX0_addRide_8 : decode cX0_addRide 8 = .ok (.aload_n 0, 1) := by decide +kernel
theorem dX0_addRide_9 : decode cX0_addRide 9 = .ok (.getfield 29, 3) := by decide +kernel
theorem dX0_addRide_12 : decode cX0_addRide 12 = .ok (.iload_n 2, 1) := by decide +kernel
theorem dX0_addRide_13 : decode cX0_addRide 13 = .ok (.invokevirtual 53, 3) := by decide +kernel
theorem dX0_addRide_16 : decode cX0_addRide 16 = .ok (.aload_n 0, 1) := by decide +kernel
theorem dX0_addRide_17 : decode cX0_addRide 17 = .ok (.getfield 32, 3) := by decide +kernel
theorem dX0_addRide_20 : decode cX0_addRide 20 = .ok (.iload_n 3, 1) := by decide +kernel
theorem dX0_addRide_21 : decode cX0_addRide 21 = .ok (.invokevirtual 53, 3) := by decide +kernel
theorem dX0_addRide_24 : decode cX0_addRide 24 = .ok (.aload_n 0, 1) := by decide +kernel
theorem dX0_addRide_25 : decode cX0_addRide 25 = .ok (.getfield 35, 3) := by decide +kernel
theorem dX0_addRide_28 : decode cX0_addRide 28 = .ok (.iload 4, 2) := by decide +kernel
theorem dX0_addRide_30 : decode cX0_addRide 30 = .ok (.invokevirtual 53, 3) := by decide +kernel
theorem dX0_addRide_33 : decode cX0_addRide 33 = .ok (.aload_n 0, 1) := by decide +kernel
theorem dX0_addRide_34 : decode cX0_addRide 34 = .ok (.getfield 38, 3) := by decide +kernel
theorem dX0_addRide_37 : decode cX0_addRide 37 = .ok (.aload_n 0, 1) := by decide +kernel
theorem dX0_addRide_38 : decode cX0_addRide 38 = .ok (.iload_n 1, 1) := by decide +kernel
theorem dX0_addRide_39 : decode cX0_addRide 39 = .ok (.iload_n 2, 1) := by decide +kernel
theorem dX0_addRide_40 : decode cX0_addRide 40 = .ok (.invokevirtual 90, 3) := by decide +kernel
theorem dX0_addRide_43 : decode cX0_addRide 43 = .ok (.invokevirtual 53, 3) := by decide +kernel
theorem dX0_addRide_46 : decode cX0_addRide 46 = .ok (.aload_n 0, 1) := by decide +kernel
theorem dX0_addRide_47 : decode cX0_addRide 47 = .ok (.getfield 41, 3) := by decide +kernel
theorem dX0_addRide_50 : decode cX0_addRide 50 = .ok (.iconst 0, 1) := by decide +kernel
theorem dX0_addRide_51 : decode cX0_addRide 51 = .ok (.invokevirtual 53, 3) := by decide +kernel
theorem dX0_addRide_54 : decode cX0_addRide 54 = .ok (.aload_n 0, 1) := by decide +kernel
theorem dX0_addRide_55 : decode cX0_addRide 55 = .ok (.getfield 44, 3) := by decide +kernel
theorem dX0_addRide_58 : decode cX0_addRide 58 = .ok (.bipush (-6), 2) := by decide +kernel
theorem dX0_addRide_60 : decode cX0_addRide 60 = .ok (.invokevirtual 53, 3) := by decide +kernel
theorem dX0_addRide_63 : decode cX0_addRide 63 = .ok (.aload_n 0, 1) := by decide +kernel
theorem dX0_addRide_64 : decode cX0_addRide 64 = .ok (.getfield 47, 3) := by decide +kernel
theorem dX0_addRide_67 : decode cX0_addRide 67 = .ok (.bipush (-6), 2) := by decide +kernel
theorem dX0_addRide_69 : decode cX0_addRide 69 = .ok (.invokevirtual 53, 3) := by decide +kernel
theorem dX0_addRide_72 : decode cX0_addRide 72 = .ok (.aload_n 0, 1) := by decide +kernel
theorem dX0_addRide_73 : decode cX0_addRide 73 = .ok (.getfield 41, 3) := by decide +kernel
theorem dX0_addRide_76 : decode cX0_addRide 76 = .ok (.invokevirtual 70, 3) := by decide +kernel
theorem dX0_addRide_79 : decode cX0_addRide 79 = .ok (.iconst 1, 1) := by decide +kernel
theorem dX0_addRide_80 : decode cX0_addRide 80 = .ok (.isub, 1) := by decide +kernel
theorem dX0_addRide_81 : decode cX0_addRide 81 = .ok (.ireturn, 1) := by decide +kernel
set_option maxRecDepth 20000 in
theorem ggX0_addRide_X3_add : GoodIn wsX0_addRide wsX3_add := goodIn_r _ [13, 14, 15, 16, 17, 12, 18, 19, 54, 55] (by decide +kernel) (by decide +kernel)
set_option maxRecDepth 20000 in
theorem gX0_addRide_X3_add : GoodIn wsX0_addRide (wsV RX0 53 RX3 yX3_add wsX3_add) := goodIn_app (goodIn_of _ (by decide +kernel)) ggX0_addRide_X3_add
set_option maxRecDepth 20000 in
theorem ggX0_addRide_X0_minutes : GoodIn wsX0_addRide wsX0_minutes := goodIn_r _ [24, 25, 26, 27, 28, 29, 30, 31, 32, 33, 12, 34, 14, 19, 39, 40, 41, 42, 43, 44, 45, 46, 47, 48, 49, 50, 51, 52, 53, 54, 55] (by decide +kernel) (by decide +kernel)
set_option maxRecDepth 20000 in
theorem gX0_addRide_X0_minutes : GoodIn wsX0_addRide (wsV RX0 90 RX0 yX0_minutes wsX0_minutes) := goodIn_app (goodIn_of _ (by decide +kernel)) ggX0_addRide_X0_minutes
set_option maxRecDepth 20000 in
theorem ggX0_addRide_X3_length : GoodIn wsX0_addRide wsX3_length := goodIn_r _ [38, 14, 54, 55] (by decide +kernel) (by decide +kernel)
set_option maxRecDepth 20000 in
theorem gX0_addRide_X3_length : GoodIn wsX0_addRide (wsV RX0 70 RX3 yX3_length wsX3_length) := goodIn_app (goodIn_of _ (by decide +kernel)) ggX0_addRide_X3_length
theorem kX0_addRide_1 : Cond.fieldLink RX0 26 "BookedDetours$Day" "froms" "LBookedDetours$Row;" ∈ wsX0_addRide := List.mem_of_getElem? (i := 1) (by decide +kernel)
theorem kX0_addRide_2 : Cond.fieldLink RX0 29 "BookedDetours$Day" "tos" "LBookedDetours$Row;" ∈ wsX0_addRide := List.mem_of_getElem? (i := 2) (by decide +kernel)
theorem kX0_addRide_3 : Cond.fieldLink RX0 32 "BookedDetours$Day" "waits" "LBookedDetours$Row;" ∈ wsX0_addRide := List.mem_of_getElem? (i := 3) (by decide +kernel)
theorem kX0_addRide_4 : Cond.fieldLink RX0 35 "BookedDetours$Day" "bys" "LBookedDetours$Row;" ∈ wsX0_addRide := List.mem_of_getElem? (i := 4) (by decide +kernel)
theorem kX0_addRide_5 : Cond.fieldLink RX0 38 "BookedDetours$Day" "straights" "LBookedDetours$Row;" ∈ wsX0_addRide := List.mem_of_getElem? (i := 5) (by decide +kernel)
theorem kX0_addRide_6 : Cond.fieldLink RX0 41 "BookedDetours$Day" "stands" "LBookedDetours$Row;" ∈ wsX0_addRide := List.mem_of_getElem? (i := 6) (by decide +kernel)
theorem kX0_addRide_7 : Cond.fieldLink RX0 44 "BookedDetours$Day" "picks" "LBookedDetours$Row;" ∈ wsX0_addRide := List.mem_of_getElem? (i := 7) (by decide +kernel)
theorem kX0_addRide_8 : Cond.fieldLink RX0 47 "BookedDetours$Day" "downs" "LBookedDetours$Row;" ∈ wsX0_addRide := List.mem_of_getElem? (i := 8) (by decide +kernel)
theorem hX0_addRide_X0 : ∀ w ∈ u_ws RX0 TX0 15, w ∈ wsX0_addRide := fun _ h => List.mem_cons_of_mem _ (List.mem_append_left _ (List.mem_append_right _ h))
set_option maxHeartbeats 4000000 in
set_option maxRecDepth 100000 in
theorem c_X0_addRide (g : yG) (A : Nat → Nat) (d : RV) (G : Nat → Nat → Int32) (fr : Int32) (to : Int32) (wa : Int32) (bt : Int32) : yM g yX0_addRide wsX0_addRide ({ frames := 2, cells := 0, slots := 0, locals := 44 } : Room) [.ref (A 0), .int fr, .int to, .int wa, .int bt] ([dayC A d] ++ dayR g A d G : List va_W) (fun r w => r = (f_X0_addRide d fr to wa bt).1 ∧ ∃ d' : RV, ∃ G' : Nat → Nat → Int32, d' = (f_X0_addRide d fr to wa bt).2 ∧ w = ([dayC A d'] ++ dayR g A d' G' : List va_W)) 0 0 := by
  refine y_entryI (cc := cX0_addRide) (maxL := 5) (by decide +kernel) rfl (Nat.le_of_ble_eq_true rfl) (fun Z C HR => ?_)
  have C : yC Z g cX0_addRide 5 wsX0_addRide RX0 := C
  have h := f_X0_addRide.eq_1 d fr to wa bt
  show yJ Z _ 0 0 _ 0 [(0, .ref (A 0)), (1, .int fr), (2, .int to), (3, .int wa), (4, .int bt)] []
  refine y_aload_n C dX0_addRide_0 0 rfl rfl ?_
  refine y_get (Cn := RX0) (T := TX0) (N := 15) (v := .ref (A 7)) C dX0_addRide_1 hX0_addRide_X0 0 (sh_3 g A d G) rfl 3 (Nat.le_of_ble_eq_true rfl) kX0_addRide_1 rfl ?_
  refine y_iload_n C dX0_addRide_4 1 rfl rfl ?_
  refine y_callVv (As := [.int fr]) (rest := []) C dX0_addRide_5 (c_X3_add g (A 7) (A 8) 17 (d.1 3) (G 3) fr (by decide)) rfl rfl rfl rfl ⟨Nat.le_of_ble_eq_true rfl, Nat.le_of_ble_eq_true rfl⟩ gX0_addRide_X3_add (nA := 1) (by decide +kernel) rfl (rowW_recv ⟨_, rfl⟩) (Nat.le_of_ble_eq_true rfl) ⟨Nat.le_of_ble_eq_true rfl, Nat.le_of_ble_eq_true rfl⟩ [4] [0, 1, 2, 3, 5, 6, 7, 8, 9, 10, 11, 12] (nB := 13) rfl (by decide +kernel) (sh_8 g A d G) (fun w9 hw => ?_)
  obtain ⟨y1, G2, e3, rfl⟩ := hw
  obtain ⟨d4, ed4⟩ : ∃ z : RV, z = rvR d 3 y1 := ⟨_, rfl⟩
  obtain ⟨G5, eG5⟩ : ∃ z : Nat → Nat → Int32, z = gs G 3 G2 := ⟨_, rfl⟩
  have h := y_letF h (show d4 = rvR d 3 (rAdd 17 (d.1 3) fr) by rw [ed4, e3])
  refine ⟨([dayC A d4] ++ dayR g A d4 G5 : List va_W), (sh_11 g A d G y1 G2 d4 G5 ed4 eG5), ?_⟩
  refine y_aload_n C dX0_addRide_8 0 rfl rfl ?_
  refine y_get (Cn := RX0) (T := TX0) (N := 15) (v := .ref (A 9)) C dX0_addRide_9 hX0_addRide_X0 0 (sh_3 g A d4 G5) rfl 4 (Nat.le_of_ble_eq_true rfl) kX0_addRide_2 rfl ?_
  refine y_iload_n C dX0_addRide_12 2 rfl rfl ?_
  refine y_callVv (As := [.int to]) (rest := []) C dX0_addRide_13 (c_X3_add g (A 9) (A 10) 17 (d4.1 4) (G5 4) to (by decide)) rfl rfl rfl rfl ⟨Nat.le_of_ble_eq_true rfl, Nat.le_of_ble_eq_true rfl⟩ gX0_addRide_X3_add (nA := 1) (by decide +kernel) rfl (rowW_recv ⟨_, rfl⟩) (Nat.le_of_ble_eq_true rfl) ⟨Nat.le_of_ble_eq_true rfl, Nat.le_of_ble_eq_true rfl⟩ [5] [0, 1, 2, 3, 4, 6, 7, 8, 9, 10, 11, 12] (nB := 13) rfl (by decide +kernel) (sh_9 g A d4 G5) (fun w9 hw => ?_)
  obtain ⟨y6, G7, e8, rfl⟩ := hw
  obtain ⟨d9, ed9⟩ : ∃ z : RV, z = rvR d4 4 y6 := ⟨_, rfl⟩
  obtain ⟨G10, eG10⟩ : ∃ z : Nat → Nat → Int32, z = gs G5 4 G7 := ⟨_, rfl⟩
  have h := y_letF h (show d9 = rvR d4 4 (rAdd 17 (d4.1 4) to) by rw [ed9, e8])
  refine ⟨([dayC A d9] ++ dayR g A d9 G10 : List va_W), (sh_12 g A d4 G5 y6 G7 d9 G10 ed9 eG10), ?_⟩
  refine y_aload_n C dX0_addRide_16 0 rfl rfl ?_
  refine y_get (Cn := RX0) (T := TX0) (N := 15) (v := .ref (A 11)) C dX0_addRide_17 hX0_addRide_X0 0 (sh_3 g A d9 G10) rfl 5 (Nat.le_of_ble_eq_true rfl) kX0_addRide_3 rfl ?_
  refine y_iload_n C dX0_addRide_20 3 rfl rfl ?_
  refine y_callVv (As := [.int wa]) (rest := []) C dX0_addRide_21 (c_X3_add g (A 11) (A 12) 17 (d9.1 5) (G10 5) wa (by decide)) rfl rfl rfl rfl ⟨Nat.le_of_ble_eq_true rfl, Nat.le_of_ble_eq_true rfl⟩ gX0_addRide_X3_add (nA := 1) (by decide +kernel) rfl (rowW_recv ⟨_, rfl⟩) (Nat.le_of_ble_eq_true rfl) ⟨Nat.le_of_ble_eq_true rfl, Nat.le_of_ble_eq_true rfl⟩ [6] [0, 1, 2, 3, 4, 5, 7, 8, 9, 10, 11, 12] (nB := 13) rfl (by decide +kernel) (sh_13 g A d9 G10) (fun w9 hw => ?_)
  obtain ⟨y11, G12, e13, rfl⟩ := hw
  obtain ⟨d14, ed14⟩ : ∃ z : RV, z = rvR d9 5 y11 := ⟨_, rfl⟩
  obtain ⟨G15, eG15⟩ : ∃ z : Nat → Nat → Int32, z = gs G10 5 G12 := ⟨_, rfl⟩
  have h := y_letF h (show d14 = rvR d9 5 (rAdd 17 (d9.1 5) wa) by rw [ed14, e13])
  refine ⟨([dayC A d14] ++ dayR g A d14 G15 : List va_W), (sh_14 g A d9 G10 y11 G12 d14 G15 ed14 eG15), ?_⟩
  refine y_aload_n C dX0_addRide_24 0 rfl rfl ?_
  refine y_get (Cn := RX0) (T := TX0) (N := 15) (v := .ref (A 13)) C dX0_addRide_25 hX0_addRide_X0 0 (sh_3 g A d14 G15) rfl 6 (Nat.le_of_ble_eq_true rfl) kX0_addRide_4 rfl ?_
  refine y_iload C dX0_addRide_28 4 rfl ?_
  refine y_callVv (As := [.int bt]) (rest := []) C dX0_addRide_30 (c_X3_add g (A 13) (A 14) 17 (d14.1 6) (G15 6) bt (by decide)) rfl rfl rfl rfl ⟨Nat.le_of_ble_eq_true rfl, Nat.le_of_ble_eq_true rfl⟩ gX0_addRide_X3_add (nA := 1) (by decide +kernel) rfl (rowW_recv ⟨_, rfl⟩) (Nat.le_of_ble_eq_true rfl) ⟨Nat.le_of_ble_eq_true rfl, Nat.le_of_ble_eq_true rfl⟩ [7] [0, 1, 2, 3, 4, 5, 6, 8, 9, 10, 11, 12] (nB := 13) rfl (by decide +kernel) (sh_15 g A d14 G15) (fun w9 hw => ?_)
  obtain ⟨y16, G17, e18, rfl⟩ := hw
  obtain ⟨d19, ed19⟩ : ∃ z : RV, z = rvR d14 6 y16 := ⟨_, rfl⟩
  obtain ⟨G20, eG20⟩ : ∃ z : Nat → Nat → Int32, z = gs G15 6 G17 := ⟨_, rfl⟩
  have h := y_letF h (show d19 = rvR d14 6 (rAdd 17 (d14.1 6) bt) by rw [ed19, e18])
  refine ⟨([dayC A d19] ++ dayR g A d19 G20 : List va_W), (sh_16 g A d14 G15 y16 G17 d19 G20 ed19 eG20), ?_⟩
  refine y_aload_n C dX0_addRide_33 0 rfl rfl ?_
  refine y_get (Cn := RX0) (T := TX0) (N := 15) (v := .ref (A 15)) C dX0_addRide_34 hX0_addRide_X0 0 (sh_3 g A d19 G20) rfl 7 (Nat.le_of_ble_eq_true rfl) kX0_addRide_5 rfl ?_
  refine y_aload_n C dX0_addRide_37 0 rfl rfl ?_
  refine y_iload_n C dX0_addRide_38 1 rfl rfl ?_
  refine y_iload_n C dX0_addRide_39 2 rfl rfl ?_
  refine y_callV (As := [.int fr, .int to]) (rest := [.ref (A 15)]) C dX0_addRide_40 (c_X0_minutes g A d19 G20 fr to) rfl rfl rfl rfl ⟨Nat.le_of_ble_eq_true rfl, Nat.le_of_ble_eq_true rfl⟩ gX0_addRide_X0_minutes (nA := 2) (by decide +kernel) rfl (sh_18 g A d19 G20) (Nat.le_of_ble_eq_true rfl) ⟨Nat.le_of_ble_eq_true rfl, Nat.le_of_ble_eq_true rfl⟩ [0, 1, 2, 3, 4, 5, 6, 7, 8, 9, 10, 11, 12] [] (nB := 13) rfl (by decide +kernel) (sh_17 g A d19 G20) (fun r21 w9 hw => ?_)
  obtain ⟨er21, rfl⟩ := hw
  have h := y_letF h er21
  refine ⟨([dayC A d19] ++ dayR g A d19 G20 : List va_W), ⟨(sh_17 g A d19 G20), rfl, rfl⟩, ?_⟩
  refine y_callVv (As := [.int r21]) (rest := []) C dX0_addRide_43 (c_X3_add g (A 15) (A 16) 17 (d19.1 7) (G20 7) r21 (by decide)) rfl rfl rfl rfl ⟨Nat.le_of_ble_eq_true rfl, Nat.le_of_ble_eq_true rfl⟩ gX0_addRide_X3_add (nA := 1) (by decide +kernel) rfl (rowW_recv ⟨_, rfl⟩) (Nat.le_of_ble_eq_true rfl) ⟨Nat.le_of_ble_eq_true rfl, Nat.le_of_ble_eq_true rfl⟩ [8] [0, 1, 2, 3, 4, 5, 6, 7, 9, 10, 11, 12] (nB := 13) rfl (by decide +kernel) (sh_19 g A d19 G20) (fun w9 hw => ?_)
  obtain ⟨y22, G23, e24, rfl⟩ := hw
  obtain ⟨d25, ed25⟩ : ∃ z : RV, z = rvR d19 7 y22 := ⟨_, rfl⟩
  obtain ⟨G26, eG26⟩ : ∃ z : Nat → Nat → Int32, z = gs G20 7 G23 := ⟨_, rfl⟩
  have h := y_letF h (show d25 = rvR d19 7 (rAdd 17 (d19.1 7) r21) by rw [ed25, e24])
  refine ⟨([dayC A d25] ++ dayR g A d25 G26 : List va_W), (sh_20 g A d19 G20 y22 G23 d25 G26 ed25 eG26), ?_⟩
  refine y_aload_n C dX0_addRide_46 0 rfl rfl ?_
  refine y_get (Cn := RX0) (T := TX0) (N := 15) (v := .ref (A 17)) C dX0_addRide_47 hX0_addRide_X0 0 (sh_3 g A d25 G26) rfl 8 (Nat.le_of_ble_eq_true rfl) kX0_addRide_6 rfl ?_
  refine y_iconst (v := 0) C dX0_addRide_50 (by decide) ?_
  refine y_callVv (As := [.int (0 : Int32)]) (rest := []) C dX0_addRide_51 (c_X3_add g (A 17) (A 18) 17 (d25.1 8) (G26 8) (0 : Int32) (by decide)) rfl rfl rfl rfl ⟨Nat.le_of_ble_eq_true rfl, Nat.le_of_ble_eq_true rfl⟩ gX0_addRide_X3_add (nA := 1) (by decide +kernel) rfl (rowW_recv ⟨_, rfl⟩) (Nat.le_of_ble_eq_true rfl) ⟨Nat.le_of_ble_eq_true rfl, Nat.le_of_ble_eq_true rfl⟩ [9] [0, 1, 2, 3, 4, 5, 6, 7, 8, 10, 11, 12] (nB := 13) rfl (by decide +kernel) (sh_5 g A d25 G26) (fun w9 hw => ?_)
  obtain ⟨y27, G28, e29, rfl⟩ := hw
  obtain ⟨d30, ed30⟩ : ∃ z : RV, z = rvR d25 8 y27 := ⟨_, rfl⟩
  obtain ⟨G31, eG31⟩ : ∃ z : Nat → Nat → Int32, z = gs G26 8 G28 := ⟨_, rfl⟩
  have h := y_letF h (show d30 = rvR d25 8 (rAdd 17 (d25.1 8) (0 : Int32)) by rw [ed30, e29])
  refine ⟨([dayC A d30] ++ dayR g A d30 G31 : List va_W), (sh_21 g A d25 G26 y27 G28 d30 G31 ed30 eG31), ?_⟩
  refine y_aload_n C dX0_addRide_54 0 rfl rfl ?_
  refine y_get (Cn := RX0) (T := TX0) (N := 15) (v := .ref (A 19)) C dX0_addRide_55 hX0_addRide_X0 0 (sh_3 g A d30 G31) rfl 9 (Nat.le_of_ble_eq_true rfl) kX0_addRide_7 rfl ?_
  refine y_bipush (v := -6) C dX0_addRide_58 (by decide) ?_
  refine y_callVv (As := [.int (-6 : Int32)]) (rest := []) C dX0_addRide_60 (c_X3_add g (A 19) (A 20) 17 (d30.1 9) (G31 9) (-6 : Int32) (by decide)) rfl rfl rfl rfl ⟨Nat.le_of_ble_eq_true rfl, Nat.le_of_ble_eq_true rfl⟩ gX0_addRide_X3_add (nA := 1) (by decide +kernel) rfl (rowW_recv ⟨_, rfl⟩) (Nat.le_of_ble_eq_true rfl) ⟨Nat.le_of_ble_eq_true rfl, Nat.le_of_ble_eq_true rfl⟩ [10] [0, 1, 2, 3, 4, 5, 6, 7, 8, 9, 11, 12] (nB := 13) rfl (by decide +kernel) (sh_22 g A d30 G31) (fun w9 hw => ?_)
  obtain ⟨y32, G33, e34, rfl⟩ := hw
  obtain ⟨d35, ed35⟩ : ∃ z : RV, z = rvR d30 9 y32 := ⟨_, rfl⟩
  obtain ⟨G36, eG36⟩ : ∃ z : Nat → Nat → Int32, z = gs G31 9 G33 := ⟨_, rfl⟩
  have h := y_letF h (show d35 = rvR d30 9 (rAdd 17 (d30.1 9) (-6 : Int32)) by rw [ed35, e34])
  refine ⟨([dayC A d35] ++ dayR g A d35 G36 : List va_W), (sh_23 g A d30 G31 y32 G33 d35 G36 ed35 eG36), ?_⟩
  refine y_aload_n C dX0_addRide_63 0 rfl rfl ?_
  refine y_get (Cn := RX0) (T := TX0) (N := 15) (v := .ref (A 21)) C dX0_addRide_64 hX0_addRide_X0 0 (sh_3 g A d35 G36) rfl 10 (Nat.le_of_ble_eq_true rfl) kX0_addRide_8 rfl ?_
  refine y_bipush (v := -6) C dX0_addRide_67 (by decide) ?_
  refine y_callVv (As := [.int (-6 : Int32)]) (rest := []) C dX0_addRide_69 (c_X3_add g (A 21) (A 22) 17 (d35.1 10) (G36 10) (-6 : Int32) (by decide)) rfl rfl rfl rfl ⟨Nat.le_of_ble_eq_true rfl, Nat.le_of_ble_eq_true rfl⟩ gX0_addRide_X3_add (nA := 1) (by decide +kernel) rfl (rowW_recv ⟨_, rfl⟩) (Nat.le_of_ble_eq_true rfl) ⟨Nat.le_of_ble_eq_true rfl, Nat.le_of_ble_eq_true rfl⟩ [11] [0, 1, 2, 3, 4, 5, 6, 7, 8, 9, 10, 12] (nB := 13) rfl (by decide +kernel) (sh_24 g A d35 G36) (fun w9 hw => ?_)
  obtain ⟨y37, G38, e39, rfl⟩ := hw
  obtain ⟨d40, ed40⟩ : ∃ z : RV, z = rvR d35 10 y37 := ⟨_, rfl⟩
  obtain ⟨G41, eG41⟩ : ∃ z : Nat → Nat → Int32, z = gs G36 10 G38 := ⟨_, rfl⟩
  have h := y_letF h (show d40 = rvR d35 10 (rAdd 17 (d35.1 10) (-6 : Int32)) by rw [ed40, e39])
  refine ⟨([dayC A d40] ++ dayR g A d40 G41 : List va_W), (sh_25 g A d35 G36 y37 G38 d40 G41 ed40 eG41), ?_⟩
  refine y_aload_n C dX0_addRide_72 0 rfl rfl ?_
  refine y_get (Cn := RX0) (T := TX0) (N := 15) (v := .ref (A 17)) C dX0_addRide_73 hX0_addRide_X0 0 (sh_3 g A d40 G41) rfl 8 (Nat.le_of_ble_eq_true rfl) kX0_addRide_6 rfl ?_
  refine y_callV (As := []) (rest := []) C dX0_addRide_76 (c_X3_length g (A 17) (A 18) 17 (d40.1 8) (G41 8) (by decide)) rfl rfl rfl rfl ⟨Nat.le_of_ble_eq_true rfl, Nat.le_of_ble_eq_true rfl⟩ gX0_addRide_X3_length (nA := 0) (by decide +kernel) rfl (rowW_recv ⟨_, rfl⟩) (Nat.le_of_ble_eq_true rfl) ⟨Nat.le_of_ble_eq_true rfl, Nat.le_of_ble_eq_true rfl⟩ [9] [0, 1, 2, 3, 4, 5, 6, 7, 8, 10, 11, 12] (nB := 13) rfl (by decide +kernel) (sh_5 g A d40 G41) (fun r42 w9 hw => ?_)
  obtain ⟨er42, rfl⟩ := hw
  have h := y_letF h er42
  refine ⟨([dayC A d40] ++ dayR g A d40 G41 : List va_W), ⟨(sh_5 g A d40 G41), rfl, rfl⟩, ?_⟩
  refine y_iconst (v := 1) C dX0_addRide_79 (by decide) ?_
  refine y_isub C dX0_addRide_80 ?_
  exact HR 81 dX0_addRide_81 (r42 - (1 : Int32)) _ _ _ _ (rfl) (Nat.le_of_ble_eq_true rfl) (Nat.le_of_ble_eq_true rfl) ⟨by rw [h], d40, G41, by rw [h], rfl⟩
