theorem dX0_make_0 : decode cX0_make 0 = .ok (.iload_n 1, 1) := by decide +kernel
theorem dX0_make_1 : decode cX0_make 1 = .ok (.invokestatic 83, 3) := by decide +kernel
theorem dX0_make_4 : decode cX0_make 4 = .ok (.istore_n 3, 1) := by decide +kernel
theorem dX0_make_5 : decode cX0_make 5 = .ok (.aload_n 0, 1) := by decide +kernel
theorem dX0_make_6 : decode cX0_make 6 = .ok (.aload_n 0, 1) := by decide +kernel
theorem dX0_make_7 : decode cX0_make 7 = .ok (.iload_n 1, 1) := by decide +kernel
theorem dX0_make_8 : decode cX0_make 8 = .ok (.invokevirtual 111, 3) := by decide +kernel
theorem dX0_make_11 : decode cX0_make 11 = .ok (.putfield 64, 3) := by decide +kernel
theorem dX0_make_14 : decode cX0_make 14 = .ok (.aload_n 0, 1) := by decide +kernel
theorem dX0_make_15 : decode cX0_make 15 = .ok (.iload_n 2, 1) := by decide +kernel
theorem dX0_make_16 : decode cX0_make 16 = .ok (.aload_n 0, 1) := by decide +kernel
theorem dX0_make_17 : decode cX0_make 17 = .ok (.getfield 14, 3) := by decide +kernel
theorem dX0_make_20 : decode cX0_make 20 = .ok (.iconst 2, 1) := by decide +kernel
theorem dX0_make_21 : decode cX0_make 21 = .ok (.invokevirtual 74, 3) := by decide +kernel
theorem dX0_make_24 : decode cX0_make 24 = .ok (.iadd, 1) := by decide +kernel
theorem dX0_make_25 : decode cX0_make 25 = .ok (.putfield 67, 3) := by decide +kernel
theorem dX0_make_28 : decode cX0_make 28 = .ok (.iload_n 1, 1) := by decide +kernel
theorem dX0_make_29 : decode cX0_make 29 = .ok (.invokestatic 86, 3) := by decide +kernel
theorem dX0_make_32 : decode cX0_make 32 = .ok (.ifCond .eq 24, 3) := by decide +kernel
theorem dX0_make_35 : decode cX0_make 35 = .ok (.aload_n 0, 1) := by decide +kernel
theorem dX0_make_36 : decode cX0_make 36 = .ok (.getfield 47, 3) := by decide +kernel
theorem dX0_make_39 : decode cX0_make 39 = .ok (.iload_n 3, 1) := by decide +kernel
theorem dX0_make_40 : decode cX0_make 40 = .ok (.iload_n 2, 1) := by decide +kernel
theorem dX0_make_41 : decode cX0_make 41 = .ok (.invokevirtual 107, 3) := by decide +kernel
theorem dX0_make_44 : decode cX0_make 44 = .ok (.aload_n 0, 1) := by decide +kernel
theorem dX0_make_45 : decode cX0_make 45 = .ok (.getfield 41, 3) := by decide +kernel
theorem dX0_make_48 : decode cX0_make 48 = .ok (.iload_n 3, 1) := by decide +kernel
theorem dX0_make_49 : decode cX0_make 49 = .ok (.iconst 2, 1) := by decide +kernel
theorem dX0_make_50 : decode cX0_make 50 = .ok (.invokevirtual 107, 3) := by decide +kernel
theorem dX0_make_53 : decode cX0_make 53 = .ok (.goto 21, 3) := by decide +kernel
theorem dX0_make_56 : decode cX0_make 56 = .ok (.aload_n 0, 1) := by decide +kernel
theorem dX0_make_57 : decode cX0_make 57 = .ok (.getfield 44, 3) := by decide +kernel
theorem dX0_make_60 : decode cX0_make 60 = .ok (.iload_n 3, 1) := by decide +kernel
theorem dX0_make_61 : decode cX0_make 61 = .ok (.iload_n 2, 1) := by decide +kernel
theorem dX0_make_62 : decode cX0_make 62 = .ok (.invokevirtual 107, 3) := by decide +kernel
theorem dX0_make_65 : decode cX0_make 65 = .ok (.aload_n 0, 1) := by decide +kernel
theorem dX0_make_66 : decode cX0_make 66 = .ok (.getfield 41, 3) := by decide +kernel
theorem dX0_make_69 : decode cX0_make 69 = .ok (.iload_n 3, 1) := by decide +kernel
theorem dX0_make_70 : decode cX0_make 70 = .ok (.iconst 1, 1) := by decide +kernel
theorem dX0_make_71 : decode cX0_make 71 = .ok (.invokevirtual 107, 3) := by decide +kernel
theorem dX0_make_74 : decode cX0_make 74 = .ok (.return_, 1) := by decide +kernel
set_option maxRecDepth 20000 in
theorem ggX0_make_X6_rideOf : GoodIn wsX0_make wsX6_rideOf := goodIn_r _ [9] (by decide +kernel) (by decide +kernel)
set_option maxRecDepth 20000 in
theorem gX0_make_X6_rideOf_n83 : GoodIn wsX0_make (wsX6_rideOf) := ggX0_make_X6_rideOf
set_option maxRecDepth 20000 in
theorem ggX0_make_X0_stopOf : GoodIn wsX0_make wsX0_stopOf := goodIn_r _ [14, 15, 16, 7, 8, 9, 17, 18, 19, 20, 21, 22, 23, 24, 25, 30, 31, 32, 33, 34, 35, 36, 37, 38, 39, 40, 41, 42, 43, 44, 45, 46] (by decide +kernel) (by decide +kernel)
set_option maxRecDepth 20000 in
theorem gX0_make_X0_stopOf : GoodIn wsX0_make (wsV RX0 111 RX0 yX0_stopOf wsX0_stopOf) := goodIn_app (goodIn_of _ (by decide +kernel)) ggX0_make_X0_stopOf
set_option maxRecDepth 20000 in
theorem ggX0_make_X3_at : GoodIn wsX0_make wsX3_at := goodIn_r _ [23, 24, 25, 45, 46] (by decide +kernel) (by decide +kernel)
set_option maxRecDepth 20000 in
theorem gX0_make_X3_at : GoodIn wsX0_make (wsV RX0 74 RX3 yX3_at wsX3_at) := goodIn_app (goodIn_of _ (by decide +kernel)) ggX0_make_X3_at
set_option maxRecDepth 20000 in
theorem ggX0_make_X6_setsDown : GoodIn wsX0_make wsX6_setsDown := goodIn_r _ [18] (by decide +kernel) (by decide +kernel)
set_option maxRecDepth 20000 in
theorem gX0_make_X6_setsDown_n86 : GoodIn wsX0_make (wsX6_setsDown) := ggX0_make_X6_setsDown
set_option maxRecDepth 20000 in
theorem ggX0_make_X3_change : GoodIn wsX0_make wsX3_change := goodIn_r _ [29, 24, 25, 45, 46] (by decide +kernel) (by decide +kernel)
set_option maxRecDepth 20000 in
theorem gX0_make_X3_change : GoodIn wsX0_make (wsV RX0 107 RX3 yX3_change wsX3_change) := goodIn_app (goodIn_of _ (by decide +kernel)) ggX0_make_X3_change
theorem kX0_make_8 : Cond.initialized RX6 ∈ wsX0_make := List.mem_of_getElem? (i := 8) (by decide +kernel)
theorem kX0_make_7 : Cond.static yX6_rideOf ∈ wsX0_make := List.mem_of_getElem? (i := 7) (by decide +kernel)
theorem kX0_make_1 : Cond.fieldLink RX0 64 "BookedDetours$Day" "busStop" "I" ∈ wsX0_make := List.mem_of_getElem? (i := 1) (by decide +kernel)
theorem kX0_make_2 : Cond.fieldLink RX0 14 "BookedDetours$Day" "settings" "LBookedDetours$Row;" ∈ wsX0_make := List.mem_of_getElem? (i := 2) (by decide +kernel)
theorem kX0_make_3 : Cond.fieldLink RX0 67 "BookedDetours$Day" "busFree" "I" ∈ wsX0_make := List.mem_of_getElem? (i := 3) (by decide +kernel)
theorem kX0_make_17 : Cond.static yX6_setsDown ∈ wsX0_make := List.mem_of_getElem? (i := 17) (by decide +kernel)
theorem kX0_make_6 : Cond.fieldLink RX0 44 "BookedDetours$Day" "picks" "LBookedDetours$Row;" ∈ wsX0_make := List.mem_of_getElem? (i := 6) (by decide +kernel)
theorem kX0_make_5 : Cond.fieldLink RX0 41 "BookedDetours$Day" "stands" "LBookedDetours$Row;" ∈ wsX0_make := List.mem_of_getElem? (i := 5) (by decide +kernel)
theorem kX0_make_4 : Cond.fieldLink RX0 47 "BookedDetours$Day" "downs" "LBookedDetours$Row;" ∈ wsX0_make := List.mem_of_getElem? (i := 4) (by decide +kernel)
theorem hX0_make_X0 : ∀ w ∈ u_ws RX0 TX0 15, w ∈ wsX0_make := fun _ h => List.mem_cons_of_mem _ (List.mem_append_left _ (List.mem_append_right _ h))
set_option maxHeartbeats 4000000 in
set_option maxRecDepth 100000 in
theorem c_X0_make (g : yG) (A : Nat → Nat) (d : RV) (G : Nat → Nat → Int32) (v : Int32) (ti : Int32) : yMv g yX0_make wsX0_make ({ frames := 2, cells := 0, slots := 0, locals := 43 } : Room) [.ref (A 0), .int v, .int ti] ([dayC A d] ++ dayR g A d G : List va_W) (fun w => ∃ d' : RV, ∃ G' : Nat → Nat → Int32, d' = (f_X0_make d v ti) ∧ w = ([dayC A d'] ++ dayR g A d' G' : List va_W)) 0 0 := by
  refine y_entryV (cc := cX0_make) (maxL := 4) (by decide +kernel) rfl (Nat.le_of_ble_eq_true rfl) (fun Z C _ HR => ?_)
  have C : yC Z g cX0_make 4 wsX0_make RX0 := C
  have h := f_X0_make.eq_1 d v ti
  show yJ Z _ 0 0 _ 0 [(0, .ref (A 0)), (1, .int v), (2, .int ti)] []
  refine y_iload_n C dX0_make_0 1 rfl rfl ?_
  refine y_callSN (host := RX6) (As := [.int v]) (rest := []) C dX0_make_1 (c_X6_rideOf g v) rfl rfl rfl rfl ⟨Nat.le_of_ble_eq_true rfl, Nat.le_of_ble_eq_true rfl⟩ gX0_make_X6_rideOf_n83 (List.mem_of_getElem? (i := 4) rfl) kX0_make_8 kX0_make_7 (nA := 1) (by decide +kernel) rfl (Nat.le_of_ble_eq_true rfl) ⟨Nat.le_of_ble_eq_true rfl, Nat.le_of_ble_eq_true rfl⟩ [] [0, 1, 2, 3, 4, 5, 6, 7, 8, 9, 10, 11, 12] (nB := 13) rfl (by decide +kernel) (sh_7 g A d G) (fun r1 w9 hw => ?_)
  obtain ⟨er1, rfl⟩ := hw
  have h := y_letF h er1
  refine ⟨([dayC A d] ++ dayR g A d G : List va_W), ⟨(sh_7 g A d G), rfl, rfl⟩, ?_⟩
  refine y_istore_n (lv' := [(3, .int r1), (0, .ref (A 0)), (1, .int v), (2, .int ti)]) C dX0_make_4 rfl (Nat.le_of_ble_eq_true rfl) rfl ?_
  refine y_aload_n C dX0_make_5 1 rfl rfl ?_
  refine y_aload_n C dX0_make_6 1 rfl rfl ?_
  refine y_iload_n C dX0_make_7 2 rfl rfl ?_
  refine y_callV (As := [.int v]) (rest := [.ref (A 0)]) C dX0_make_8 (c_X0_stopOf g A d G v) rfl rfl rfl rfl ⟨Nat.le_of_ble_eq_true rfl, Nat.le_of_ble_eq_true rfl⟩ gX0_make_X0_stopOf (nA := 1) (by decide +kernel) rfl (sh_18 g A d G) (Nat.le_of_ble_eq_true rfl) ⟨Nat.le_of_ble_eq_true rfl, Nat.le_of_ble_eq_true rfl⟩ [0, 1, 2, 3, 4, 5, 6, 7, 8, 9, 10, 11, 12] [] (nB := 13) rfl (by decide +kernel) (sh_17 g A d G) (fun r2 w9 hw => ?_)
  obtain ⟨er2, rfl⟩ := hw
  have h := y_letF h er2
  refine ⟨([dayC A d] ++ dayR g A d G : List va_W), ⟨(sh_17 g A d G), rfl, rfl⟩, ?_⟩
  obtain ⟨d3, ed3⟩ : ∃ z : RV, z = rvI d 1 r2 := ⟨_, rfl⟩
  have h := y_letF h ed3
  refine y_put (Cn := RX0) (T := TX0) (N := 15) (v := .int r2) (ty0 := tyX0) (L1 := ([dayC A d3] ++ dayR g A d3 G : List va_W)) C dX0_make_11 hX0_make_X0 0 (sh_3 g A d G) rfl 13 (Nat.le_of_ble_eq_true rfl) kX0_make_1 tyX0_ok nmX0 rfl rfl rfl (Nat.le_of_ble_eq_true rfl) (sh_27 g A d G r2 d3 ed3) ?_
  refine y_aload_n C dX0_make_14 1 rfl rfl ?_
  refine y_iload_n C dX0_make_15 3 rfl rfl ?_
  refine y_aload_n C dX0_make_16 1 rfl rfl ?_
  refine y_get (Cn := RX0) (T := TX0) (N := 15) (v := .ref (A 1)) C dX0_make_17 hX0_make_X0 0 (sh_3 g A d3 G) rfl 0 (Nat.le_of_ble_eq_true rfl) kX0_make_2 rfl ?_
  refine y_iconst (v := 2) C dX0_make_20 (by decide) ?_
  refine y_callV (As := [.int (2 : Int32)]) (rest := [.int ti, .ref (A 0)]) C dX0_make_21 (c_X3_at g (A 1) (A 2) 3 (d3.1 0) (G 0) (2 : Int32) (by decide)) rfl rfl rfl rfl ⟨Nat.le_of_ble_eq_true rfl, Nat.le_of_ble_eq_true rfl⟩ gX0_make_X3_at (nA := 1) (by decide +kernel) rfl (rowW_recv ⟨_, rfl⟩) (Nat.le_of_ble_eq_true rfl) ⟨Nat.le_of_ble_eq_true rfl, Nat.le_of_ble_eq_true rfl⟩ [1] [0, 2, 3, 4, 5, 6, 7, 8, 9, 10, 11, 12] (nB := 13) rfl (by decide +kernel) (sh_30 g A d3 G) (fun r4 w9 hw => ?_)
  obtain ⟨er4, rfl⟩ := hw
  have h := y_letF h er4
  refine ⟨([dayC A d3] ++ dayR g A d3 G : List va_W), ⟨(sh_30 g A d3 G), rfl, rfl⟩, ?_⟩
  refine y_iadd C dX0_make_24 ?_
  obtain ⟨d5, ed5⟩ : ∃ z : RV, z = rvI d3 2 (ti + r4) := ⟨_, rfl⟩
  have h := y_letF h ed5
  refine y_put (Cn := RX0) (T := TX0) (N := 15) (v := .int (ti + r4)) (ty0 := tyX0) (L1 := ([dayC A d5] ++ dayR g A d5 G : List va_W)) C dX0_make_25 hX0_make_X0 0 (sh_3 g A d3 G) rfl 14 (Nat.le_of_ble_eq_true rfl) kX0_make_3 tyX0_ok nmX0 rfl rfl rfl (Nat.le_of_ble_eq_true rfl) (sh_26 g A d3 G (ti + r4) d5 ed5) ?_
  refine y_iload_n C dX0_make_28 2 rfl rfl ?_
  refine y_callSN (host := RX6) (As := [.int v]) (rest := []) C dX0_make_29 (c_X6_setsDown g v) rfl rfl rfl rfl ⟨Nat.le_of_ble_eq_true rfl, Nat.le_of_ble_eq_true rfl⟩ gX0_make_X6_setsDown_n86 (List.mem_of_getElem? (i := 5) rfl) kX0_make_8 kX0_make_17 (nA := 1) (by decide +kernel) rfl (Nat.le_of_ble_eq_true rfl) ⟨Nat.le_of_ble_eq_true rfl, Nat.le_of_ble_eq_true rfl⟩ [] [0, 1, 2, 3, 4, 5, 6, 7, 8, 9, 10, 11, 12] (nB := 13) rfl (by decide +kernel) (sh_7 g A d5 G) (fun r6 w9 hw => ?_)
  obtain ⟨er6, rfl⟩ := hw
  have h := y_letF h er6
  refine ⟨([dayC A d5] ++ dayR g A d5 G : List va_W), ⟨(sh_7 g A d5 G), rfl, rfl⟩, ?_⟩
  refine y_if_eq (tgt := 56) C dX0_make_32 rfl (y_e h) (fun c32 h => ?_) (fun c32 h => ?_)
  · refine y_aload_n C dX0_make_56 1 rfl rfl ?_
    refine y_get (Cn := RX0) (T := TX0) (N := 15) (v := .ref (A 19)) C dX0_make_57 hX0_make_X0 0 (sh_3 g A d5 G) rfl 9 (Nat.le_of_ble_eq_true rfl) kX0_make_6 rfl ?_
    refine y_iload_n C dX0_make_60 0 rfl rfl ?_
    refine y_iload_n C dX0_make_61 3 rfl rfl ?_
    refine y_callVv (As := [.int r1, .int ti]) (rest := []) C dX0_make_62 (c_X3_change g (A 19) (A 20) 17 (d5.1 9) (G 9) r1 ti (by decide)) rfl rfl rfl rfl ⟨Nat.le_of_ble_eq_true rfl, Nat.le_of_ble_eq_true rfl⟩ gX0_make_X3_change (nA := 2) (by decide +kernel) rfl (rowW_recv ⟨_, rfl⟩) (Nat.le_of_ble_eq_true rfl) ⟨Nat.le_of_ble_eq_true rfl, Nat.le_of_ble_eq_true rfl⟩ [10] [0, 1, 2, 3, 4, 5, 6, 7, 8, 9, 11, 12] (nB := 13) rfl (by decide +kernel) (sh_22 g A d5 G) (fun w9 hw => ?_)
    obtain ⟨y7, G8, e9, rfl⟩ := hw
    obtain ⟨d10, ed10⟩ : ∃ z : RV, z = rvR d5 9 y7 := ⟨_, rfl⟩
    obtain ⟨G11, eG11⟩ : ∃ z : Nat → Nat → Int32, z = gs G 9 G8 := ⟨_, rfl⟩
    have h := y_letF h (show d10 = rvR d5 9 (rSet (d5.1 9) r1 ti) by rw [ed10, e9])
    refine ⟨([dayC A d10] ++ dayR g A d10 G11 : List va_W), (sh_23 g A d5 G y7 G8 d10 G11 ed10 eG11), ?_⟩
    refine y_aload_n C dX0_make_65 1 rfl rfl ?_
    refine y_get (Cn := RX0) (T := TX0) (N := 15) (v := .ref (A 17)) C dX0_make_66 hX0_make_X0 0 (sh_3 g A d10 G11) rfl 8 (Nat.le_of_ble_eq_true rfl) kX0_make_5 rfl ?_
    refine y_iload_n C dX0_make_69 0 rfl rfl ?_
    refine y_iconst (v := 1) C dX0_make_70 (by decide) ?_
    refine y_callVv (As := [.int r1, .int (1 : Int32)]) (rest := []) C dX0_make_71 (c_X3_change g (A 17) (A 18) 17 (d10.1 8) (G11 8) r1 (1 : Int32) (by decide)) rfl rfl rfl rfl ⟨Nat.le_of_ble_eq_true rfl, Nat.le_of_ble_eq_true rfl⟩ gX0_make_X3_change (nA := 2) (by decide +kernel) rfl (rowW_recv ⟨_, rfl⟩) (Nat.le_of_ble_eq_true rfl) ⟨Nat.le_of_ble_eq_true rfl, Nat.le_of_ble_eq_true rfl⟩ [9] [0, 1, 2, 3, 4, 5, 6, 7, 8, 10, 11, 12] (nB := 13) rfl (by decide +kernel) (sh_5 g A d10 G11) (fun w9 hw => ?_)
    obtain ⟨y12, G13, e14, rfl⟩ := hw
    obtain ⟨d15, ed15⟩ : ∃ z : RV, z = rvR d10 8 y12 := ⟨_, rfl⟩
    obtain ⟨G16, eG16⟩ : ∃ z : Nat → Nat → Int32, z = gs G11 8 G13 := ⟨_, rfl⟩
    have h := y_letF h (show d15 = rvR d10 8 (rSet (d10.1 8) r1 (1 : Int32)) by rw [ed15, e14])
    refine ⟨([dayC A d15] ++ dayR g A d15 G16 : List va_W), (sh_21 g A d10 G11 y12 G13 d15 G16 ed15 eG16), ?_⟩
    exact HR 74 dX0_make_74 _ _ _ _ (Nat.le_of_ble_eq_true rfl) (Nat.le_of_ble_eq_true rfl) ⟨d15, G16, by rw [h], rfl⟩
  · refine y_aload_n C dX0_make_35 1 rfl rfl ?_
    refine y_get (Cn := RX0) (T := TX0) (N := 15) (v := .ref (A 21)) C dX0_make_36 hX0_make_X0 0 (sh_3 g A d5 G) rfl 10 (Nat.le_of_ble_eq_true rfl) kX0_make_4 rfl ?_
    refine y_iload_n C dX0_make_39 0 rfl rfl ?_
    refine y_iload_n C dX0_make_40 3 rfl rfl ?_
    refine y_callVv (As := [.int r1, .int ti]) (rest := []) C dX0_make_41 (c_X3_change g (A 21) (A 22) 17 (d5.1 10) (G 10) r1 ti (by decide)) rfl rfl rfl rfl ⟨Nat.le_of_ble_eq_true rfl, Nat.le_of_ble_eq_true rfl⟩ gX0_make_X3_change (nA := 2) (by decide +kernel) rfl (rowW_recv ⟨_, rfl⟩) (Nat.le_of_ble_eq_true rfl) ⟨Nat.le_of_ble_eq_true rfl, Nat.le_of_ble_eq_true rfl⟩ [11] [0, 1, 2, 3, 4, 5, 6, 7, 8, 9, 10, 12] (nB := 13) rfl (by decide +kernel) (sh_24 g A d5 G) (fun w9 hw => ?_)
    obtain ⟨y17, G18, e19, rfl⟩ := hw
    obtain ⟨d20, ed20⟩ : ∃ z : RV, z = rvR d5 10 y17 := ⟨_, rfl⟩
    obtain ⟨G21, eG21⟩ : ∃ z : Nat → Nat → Int32, z = gs G 10 G18 := ⟨_, rfl⟩
    have h := y_letF h (show d20 = rvR d5 10 (rSet (d5.1 10) r1 ti) by rw [ed20, e19])
    refine ⟨([dayC A d20] ++ dayR g A d20 G21 : List va_W), (sh_25 g A d5 G y17 G18 d20 G21 ed20 eG21), ?_⟩
    refine y_aload_n C dX0_make_44 1 rfl rfl ?_
    refine y_get (Cn := RX0) (T := TX0) (N := 15) (v := .ref (A 17)) C dX0_make_45 hX0_make_X0 0 (sh_3 g A d20 G21) rfl 8 (Nat.le_of_ble_eq_true rfl) kX0_make_5 rfl ?_
    refine y_iload_n C dX0_make_48 0 rfl rfl ?_
    refine y_iconst (v := 2) C dX0_make_49 (by decide) ?_
    refine y_callVv (As := [.int r1, .int (2 : Int32)]) (rest := []) C dX0_make_50 (c_X3_change g (A 17) (A 18) 17 (d20.1 8) (G21 8) r1 (2 : Int32) (by decide)) rfl rfl rfl rfl ⟨Nat.le_of_ble_eq_true rfl, Nat.le_of_ble_eq_true rfl⟩ gX0_make_X3_change (nA := 2) (by decide +kernel) rfl (rowW_recv ⟨_, rfl⟩) (Nat.le_of_ble_eq_true rfl) ⟨Nat.le_of_ble_eq_true rfl, Nat.le_of_ble_eq_true rfl⟩ [9] [0, 1, 2, 3, 4, 5, 6, 7, 8, 10, 11, 12] (nB := 13) rfl (by decide +kernel) (sh_5 g A d20 G21) (fun w9 hw => ?_)
    obtain ⟨y22, G23, e24, rfl⟩ := hw
    obtain ⟨d25, ed25⟩ : ∃ z : RV, z = rvR d20 8 y22 := ⟨_, rfl⟩
    obtain ⟨G26, eG26⟩ : ∃ z : Nat → Nat → Int32, z = gs G21 8 G23 := ⟨_, rfl⟩
    have h := y_letF h (show d25 = rvR d20 8 (rSet (d20.1 8) r1 (2 : Int32)) by rw [ed25, e24])
    refine ⟨([dayC A d25] ++ dayR g A d25 G26 : List va_W), (sh_21 g A d20 G21 y22 G23 d25 G26 ed25 eG26), ?_⟩
    refine y_goto (tgt := 74) C dX0_make_53 rfl ?_
    exact HR 74 dX0_make_74 _ _ _ _ (Nat.le_of_ble_eq_true rfl) (Nat.le_of_ble_eq_true rfl) ⟨d25, G26, by rw [h], rfl⟩
theorem dX0_carryOut_0 : decode cX0_carryOut 0 = .ok (.aload_n 0, 1) := by decide +kernel
theorem dX0_carryOut_1 : decode cX0_carryOut 1 = .ok (.getfield 50, 3) := by decide +kernel
theorem dX0_carryOut_4 : decode cX0_carryOut 4 = .ok (.invokevirtual 70, 3) := by decide +kernel
theorem dX0_carryOut_7 : decode cX0_carryOut 7 = .ok (.istore_n 2, 1) := by decide +kernel
theorem dX0_carryOut_8 : decode cX0_carryOut 8 = .ok (.iconst 0, 1) := by decide +kernel
theorem dX0_carryOut_9 : decode cX0_carryOut 9 = .ok (.istore_n 3, 1) := by decide +kernel
theorem dX0_carryOut_10 : decode cX0_carryOut 10 = .ok (.iload_n 3, 1) := by decide +kernel
theorem dX0_carryOut_11 : decode cX0_carryOut 11 = .ok (.iload_n 2, 1) := by decide +kernel
theorem dX0_carryOut_12 : decode cX0_carryOut 12 = .ok (.if_icmp .ge 52, 3) := by decide +kernel
theorem dX0_carryOut_15 : decode cX0_carryOut 15 = .ok (.aload_n 1, 1) := by decide +kernel
theorem dX0_carryOut_16 : decode cX0_carryOut 16 = .ok (.getfield 114, 3) := by decide +kernel
theorem dX0_carryOut_19 : decode cX0_carryOut 19 = .ok (.iload_n 3, 1) := by decide +kernel
theorem dX0_carryOut_20 : decode cX0_carryOut 20 = .ok (.invokevirtual 74, 3) := by decide +kernel
theorem dX0_carryOut_23 : decode cX0_carryOut 23 = .ok (.istore 4, 2) := by decide +kernel
theorem dX0_carryOut_25 : decode cX0_carryOut 25 = .ok (.iload 4, 2) := by decide +kernel
theorem dX0_carryOut_27 : decode cX0_carryOut 27 = .ok (.aload_n 0, 1) := by decide +kernel
theorem dX0_carryOut_28 : decode cX0_carryOut 28 = .ok (.getfield 60, 3) := by decide +kernel
theorem dX0_carryOut_31 : decode cX0_carryOut 31 = .ok (.if_icmp .lt 5, 3) := by decide +kernel
theorem dX0_carryOut_34 : decode cX0_carryOut 34 = .ok (.iload_n 3, 1) := by decide +kernel
theorem dX0_carryOut_35 : decode cX0_carryOut 35 = .ok (.ireturn, 1) := by decide +kernel
theorem dX0_carryOut_36 : decode cX0_carryOut 36 = .ok (.aload_n 0, 1) := by decide +kernel
theorem dX0_carryOut_37 : decode cX0_carryOut 37 = .ok (.aload_n 0, 1) := by decide +kernel
theorem dX0_carryOut_38 : decode cX0_carryOut 38 = .ok (.getfield 50, 3) := by decide +kernel
theorem dX0_carryOut_41 : decode cX0_carryOut 41 = .ok (.iconst 0, 1) := by decide +kernel
theorem dX0_carryOut_42 : decode cX0_carryOut 42 = .ok (.invokevirtual 74, 3) := by decide +kernel
theorem dX0_carryOut_45 : decode cX0_carryOut 45 = .ok (.iload 4, 2) := by decide +kernel
theorem dX0_carryOut_47 : decode cX0_carryOut 47 = .ok (.invokevirtual 119, 3) := by decide +kernel
theorem dX0_carryOut_50 : decode cX0_carryOut 50 = .ok (.aload_n 0, 1) := by decide +kernel
theorem dX0_carryOut_51 : decode cX0_carryOut 51 = .ok (.getfield 50, 3) := by decide +kernel
theorem dX0_carryOut_54 : decode cX0_carryOut 54 = .ok (.iconst 0, 1) := by decide +kernel
theorem dX0_carryOut_55 : decode cX0_carryOut 55 = .ok (.invokevirtual 104, 3) := by decide +kernel
theorem dX0_carryOut_58 : decode cX0_carryOut 58 = .ok (.iinc 3 1, 3) := by decide +kernel
theorem dX0_carryOut_61 : decode cX0_carryOut 61 = .ok (.goto (-51), 3) := by decide +kernel
theorem dX0_carryOut_64 : decode cX0_carryOut 64 = .ok (.iload_n 2, 1) := by decide +kernel
theorem dX0_carryOut_65 : decode cX0_carryOut 65 = .ok (.ireturn, 1) := by decide +kernel
set_option maxRecDepth 20000 in
theorem ggX0_carryOut_X3_at : GoodIn wsX0_carryOut wsX3_at := goodIn_r _ [13, 9, 14, 70, 71] (by decide +kernel) (by decide +kernel)
set_option maxRecDepth 20000 in
theorem gX0_carryOut_X3_at : GoodIn wsX0_carryOut (wsV RX0 74 RX3 yX3_at wsX3_at) := goodIn_app (goodIn_of _ (by decide +kernel)) ggX0_carryOut_X3_at
set_option maxRecDepth 20000 in
theorem ggX0_carryOut_X0_make : GoodIn wsX0_carryOut wsX0_make := goodIn_r _ [19, 20, 21, 22, 23, 24, 25, 26, 27, 28, 29, 30, 31, 18, 32, 33, 34, 35, 36, 10, 11, 12, 7, 13, 9, 14, 37, 38, 39, 40, 45, 46, 47, 48, 49, 50, 51, 52, 53, 54, 55, 56, 57, 58, 59, 70, 71] (by decide +kernel) (by decide +kernel)
set_option maxRecDepth 20000 in
theorem gX0_carryOut_X0_make : GoodIn wsX0_carryOut (wsV RX0 119 RX0 yX0_make wsX0_make) := goodIn_app (goodIn_of _ (by decide +kernel)) ggX0_carryOut_X0_make
set_option maxRecDepth 20000 in
theorem ggX0_carryOut_X3_remove : GoodIn wsX0_carryOut wsX3_remove := goodIn_r _ [44, 9, 14, 70, 71] (by decide +kernel) (by decide +kernel)
set_option maxRecDepth 20000 in
theorem gX0_carryOut_X3_remove : GoodIn wsX0_carryOut (wsV RX0 104 RX3 yX3_remove wsX3_remove) := goodIn_app (goodIn_of _ (by decide +kernel)) ggX0_carryOut_X3_remove
set_option maxRecDepth 20000 in
theorem ggX0_carryOut_X3_length : GoodIn wsX0_carryOut wsX3_length := goodIn_r _ [8, 9, 70, 71] (by decide +kernel) (by decide +kernel)
set_option maxRecDepth 20000 in
theorem gX0_carryOut_X3_length : GoodIn wsX0_carryOut (wsV RX0 70 RX3 yX3_length wsX3_length) := goodIn_app (goodIn_of _ (by decide +kernel)) ggX0_carryOut_X3_length
theorem kX0_carryOut_2 : Cond.fieldLink RX0 114 "BookedDetours$Timetable" "times" "LBookedDetours$Row;" ∈ wsX0_carryOut := List.mem_of_getElem? (i := 2) (by decide +kernel)
theorem kX0_carryOut_3 : Cond.fieldLink RX0 60 "BookedDetours$Day" "now" "I" ∈ wsX0_carryOut := List.mem_of_getElem? (i := 3) (by decide +kernel)
theorem kX0_carryOut_1 : Cond.fieldLink RX0 50 "BookedDetours$Day" "route" "LBookedDetours$Row;" ∈ wsX0_carryOut := List.mem_of_getElem? (i := 1) (by decide +kernel)
theorem hX0_carryOut_X5 : ∀ w ∈ u_ws RX5 TX5 10, w ∈ wsX0_carryOut := fun _ h => List.mem_cons_of_mem _ (List.mem_append_left _ (List.mem_append_right _ h))
theorem hX0_carryOut_X0 : ∀ w ∈ u_ws RX0 TX0 15, w ∈ wsX0_carryOut := fun _ h => List.mem_cons_of_mem _ (List.mem_append_left _ (List.mem_append_left _ (List.mem_append_right _ h)))
set_option maxHeartbeats 4000000 in
set_option maxRecDepth 100000 in
theorem w_X0_carryOut_10 {Z : yZ} (g : yG) (A : Nat → Nat) (T : Nat → Nat) (t : RV) (GT : Nat → Nat → Int32) (C : yC Z g cX0_carryOut 5 wsX0_carryOut RX0) {post : Int32 → List va_W → Prop} (HR : yRi Z ({ frames := 3, cells := 0, slots := 0, locals := 66 } : Room) cX0_carryOut .int post 0 0) {X10 : RV → Int32 → Int32 → Prop} (hX10 : ∀ (d : RV) (x2 : Int32) (x3 : Int32) (G : Nat → Nat → Int32), X10 d x2 x3 → yJ Z ({ frames := 3, cells := 0, slots := 0, locals := 66 } : Room) 0 0 ([dayC A d, tabC T t] ++ (dayR g A d G ++ tabR g T t GT) : List va_W) 10 [(0, .ref (A 0)), (1, .ref (T 0)), (2, .int x2), (3, .int x3)] []) {K : Int32 → RV → Prop} (hK : ∀ (r0 : Int32) (d : RV) (G : Nat → Nat → Int32), K r0 d → post r0 ([dayC A d, tabC T t] ++ (dayR g A d G ++ tabR g T t GT) : List va_W)) (d : RV) (x2 : Int32) (x3 : Int32) (G : Nat → Nat → Int32) (h : wp_X0_carryOut_10 t X10 K d x2 x3) : yJ Z ({ frames := 3, cells := 0, slots := 0, locals := 66 } : Room) 0 0 ([dayC A d, tabC T t] ++ (dayR g A d G ++ tabR g T t GT) : List va_W) 10 [(0, .ref (A 0)), (1, .ref (T 0)), (2, .int x2), (3, .int x3)] [] := by
  unfold wp_X0_carryOut_10 at h
  refine y_iload_n C dX0_carryOut_10 3 rfl rfl ?_
  refine y_iload_n C dX0_carryOut_11 2 rfl rfl ?_
  refine y_icmp_ge (tgt := 64) C dX0_carryOut_12 rfl h (fun c12 h => ?_) (fun c12 h => ?_)
  · refine y_iload_n C dX0_carryOut_64 2 rfl rfl ?_
    exact HR 65 dX0_carryOut_65 x2 _ _ _ _ (rfl) (Nat.le_of_ble_eq_true rfl) (Nat.le_of_ble_eq_true rfl) (hK _ _ _ h)
  · refine y_aload_n C dX0_carryOut_15 1 rfl rfl ?_
    refine y_get (Cn := RX5) (T := TX5) (N := 10) (v := .ref (T 1)) C dX0_carryOut_16 hX0_carryOut_X5 1 (sh_31 g A d G T t GT) rfl 0 (Nat.le_of_ble_eq_true rfl) kX0_carryOut_2 rfl ?_
    refine y_iload_n C dX0_carryOut_19 3 rfl rfl ?_
    refine y_callV (As := [.int x3]) (rest := []) C dX0_carryOut_20 (c_X3_at g (T 1) (T 2) 34 (t.1 0) (GT 0) x3 (by decide)) rfl rfl rfl rfl ⟨Nat.le_of_ble_eq_true rfl, Nat.le_of_ble_eq_true rfl⟩ gX0_carryOut_X3_at (nA := 1) (by decide +kernel) rfl (rowW_recv ⟨_, rfl⟩) (Nat.le_of_ble_eq_true rfl) ⟨Nat.le_of_ble_eq_true rfl, Nat.le_of_ble_eq_true rfl⟩ [14] [0, 1, 2, 3, 4, 5, 6, 7, 8, 9, 10, 11, 12, 13, 15, 16, 17, 18] (nB := 19) rfl (by decide +kernel) (sh_32 g A d G T t GT) (fun r1 w9 hw => ?_)
    obtain ⟨er1, rfl⟩ := hw
    have h := y_letP h er1
    refine ⟨([dayC A d, tabC T t] ++ (dayR g A d G ++ tabR g T t GT) : List va_W), ⟨(sh_32 g A d G T t GT), rfl, rfl⟩, ?_⟩
    refine y_istore (lv' := [(4, .int r1), (0, .ref (A 0)), (1, .ref (T 0)), (2, .int x2), (3, .int x3)]) C dX0_carryOut_23 (Nat.le_of_ble_eq_true rfl) rfl ?_
    refine y_iload C dX0_carryOut_25 0 rfl ?_
    refine y_aload_n C dX0_carryOut_27 1 rfl rfl ?_
    refine y_get (Cn := RX0) (T := TX0) (N := 15) (v := .int (d.2 0)) C dX0_carryOut_28 hX0_carryOut_X0 0 (sh_33 g A d G T t GT) rfl 12 (Nat.le_of_ble_eq_true rfl) kX0_carryOut_3 rfl ?_
    refine y_icmp_lt (tgt := 36) C dX0_carryOut_31 rfl h (fun c31 h => ?_) (fun c31 h => ?_)
    · refine y_aload_n C dX0_carryOut_36 1 rfl rfl ?_
      refine y_aload_n C dX0_carryOut_37 1 rfl rfl ?_
      refine y_get (Cn := RX0) (T := TX0) (N := 15) (v := .ref (A 23)) C dX0_carryOut_38 hX0_carryOut_X0 0 (sh_33 g A d G T t GT) rfl 11 (Nat.le_of_ble_eq_true rfl) kX0_carryOut_1 rfl ?_
      refine y_iconst (v := 0) C dX0_carryOut_41 (by decide) ?_
      refine y_callV (As := [.int (0 : Int32)]) (rest := [.ref (A 0)]) C dX0_carryOut_42 (c_X3_at g (A 23) (A 24) 34 (d.1 11) (G 11) (0 : Int32) (by decide)) rfl rfl rfl rfl ⟨Nat.le_of_ble_eq_true rfl, Nat.le_of_ble_eq_true rfl⟩ gX0_carryOut_X3_at (nA := 1) (by decide +kernel) rfl (rowW_recv ⟨_, rfl⟩) (Nat.le_of_ble_eq_true rfl) ⟨Nat.le_of_ble_eq_true rfl, Nat.le_of_ble_eq_true rfl⟩ [13] [0, 1, 2, 3, 4, 5, 6, 7, 8, 9, 10, 11, 12, 14, 15, 16, 17, 18] (nB := 19) rfl (by decide +kernel) (sh_34 g A d G T t GT) (fun r2 w9 hw => ?_)
      obtain ⟨er2, rfl⟩ := hw
      have h := y_letP h er2
      refine ⟨([dayC A d, tabC T t] ++ (dayR g A d G ++ tabR g T t GT) : List va_W), ⟨(sh_34 g A d G T t GT), rfl, rfl⟩, ?_⟩
      refine y_iload C dX0_carryOut_45 0 rfl ?_
      refine y_callVv (As := [.int r2, .int r1]) (rest := []) C dX0_carryOut_47 (c_X0_make g A d G r2 r1) rfl rfl rfl rfl ⟨Nat.le_of_ble_eq_true rfl, Nat.le_of_ble_eq_true rfl⟩ gX0_carryOut_X0_make (nA := 2) (by decide +kernel) rfl (sh_18 g A d G) (Nat.le_of_ble_eq_true rfl) ⟨Nat.le_of_ble_eq_true rfl, Nat.le_of_ble_eq_true rfl⟩ [0, 2, 3, 4, 5, 6, 7, 8, 9, 10, 11, 12, 13] [1, 14, 15, 16, 17, 18] (nB := 19) rfl (by decide +kernel) (sh_35 g A d G T t GT) (fun w9 hw => ?_)
      obtain ⟨d3, G4, e5, rfl⟩ := hw
      have h := y_letP h e5
      refine ⟨([dayC A d3, tabC T t] ++ (dayR g A d3 G4 ++ tabR g T t GT) : List va_W), (sh_36 g A d G T t GT d3 G4), ?_⟩
      refine y_aload_n C dX0_carryOut_50 1 rfl rfl ?_
      refine y_get (Cn := RX0) (T := TX0) (N := 15) (v := .ref (A 23)) C dX0_carryOut_51 hX0_carryOut_X0 0 (sh_33 g A d3 G4 T t GT) rfl 11 (Nat.le_of_ble_eq_true rfl) kX0_carryOut_1 rfl ?_
      refine y_iconst (v := 0) C dX0_carryOut_54 (by decide) ?_
      refine y_callVv (As := [.int (0 : Int32)]) (rest := []) C dX0_carryOut_55 (c_X3_remove g (A 23) (A 24) 34 (d3.1 11) (G4 11) (0 : Int32) (by decide)) rfl rfl rfl rfl ⟨Nat.le_of_ble_eq_true rfl, Nat.le_of_ble_eq_true rfl⟩ gX0_carryOut_X3_remove (nA := 1) (by decide +kernel) rfl (rowW_recv ⟨_, rfl⟩) (Nat.le_of_ble_eq_true rfl) ⟨Nat.le_of_ble_eq_true rfl, Nat.le_of_ble_eq_true rfl⟩ [13] [0, 1, 2, 3, 4, 5, 6, 7, 8, 9, 10, 11, 12, 14, 15, 16, 17, 18] (nB := 19) rfl (by decide +kernel) (sh_34 g A d3 G4 T t GT) (fun w9 hw => ?_)
      obtain ⟨y6, G7, e8, rfl⟩ := hw
      obtain ⟨d9, ed9⟩ : ∃ z : RV, z = rvR d3 11 y6 := ⟨_, rfl⟩
      obtain ⟨G10, eG10⟩ : ∃ z : Nat → Nat → Int32, z = gs G4 11 G7 := ⟨_, rfl⟩
      have h := y_letP h (show d9 = rvR d3 11 (rDel (d3.1 11) (0 : Int32)) by rw [ed9, e8])
      refine ⟨([dayC A d9, tabC T t] ++ (dayR g A d9 G10 ++ tabR g T t GT) : List va_W), (sh_37 g A d3 G4 T t GT y6 G7 d9 G10 ed9 eG10), ?_⟩
      refine y_iinc (v := (x3 + (1 : Int32))) (lv' := [(3, .int (x3 + (1 : Int32))), (4, .int r1), (0, .ref (A 0)), (1, .ref (T 0)), (2, .int x2)]) C dX0_carryOut_58 4 rfl rfl (Nat.le_of_ble_eq_true rfl) rfl ?_
      refine y_goto (tgt := 10) C dX0_carryOut_61 rfl ?_
      refine y_sub (lv' := [(0, .ref (A 0)), (1, .ref (T 0)), (2, .int x2), (3, .int (x3 + (1 : Int32)))]) [2, 3, 4, 0] rfl ?_
      exact hX10 _ _ _ _ h
    · refine y_iload_n C dX0_carryOut_34 4 rfl rfl ?_
      exact HR 35 dX0_carryOut_35 x3 _ _ _ _ (rfl) (Nat.le_of_ble_eq_true rfl) (Nat.le_of_ble_eq_true rfl) (hK _ _ _ h)
set_option maxHeartbeats 4000000 in
set_option maxRecDepth 100000 in
theorem l_X0_carryOut {Z : yZ} (g : yG) (A : Nat → Nat) (T : Nat → Nat) (t : RV) (GT : Nat → Nat → Int32) (C : yC Z g cX0_carryOut 5 wsX0_carryOut RX0) {post : Int32 → List va_W → Prop} (HR : yRi Z ({ frames := 3, cells := 0, slots := 0, locals := 66 } : Room) cX0_carryOut .int post 0 0) {K : Int32 → RV → Prop} (hK : ∀ (r0 : Int32) (d : RV) (G : Nat → Nat → Int32), K r0 d → post r0 ([dayC A d, tabC T t] ++ (dayR g A d G ++ tabR g T t GT) : List va_W)) {I10 : Nat → RV → Int32 → Int32 → Prop} (o10 : ∀ (w0 : Nat) (d : RV) (x2 : Int32) (x3 : Int32), I10 w0 d x2 x3 → wp_X0_carryOut_10 t (fun (d9 : RV) (x29 : Int32) (x39 : Int32) => ∃ w9, w9 < w0 ∧ I10 w9 d9 x29 x39) K d x2 x3) : ∀ w0 : Nat, (∀ (d : RV) (x2 : Int32) (x3 : Int32) (G : Nat → Nat → Int32), I10 w0 d x2 x3 → yJ Z ({ frames := 3, cells := 0, slots := 0, locals := 66 } : Room) 0 0 ([dayC A d, tabC T t] ++ (dayR g A d G ++ tabR g T t GT) : List va_W) 10 [(0, .ref (A 0)), (1, .ref (T 0)), (2, .int x2), (3, .int x3)] []) := by
  intro w0
  induction w0 using Nat.strongRecOn with
  | _ w0 ih =>
    exact fun d x2 x3 G hi => w_X0_carryOut_10 g A T t GT C HR (fun d x2 x3 G hq => by obtain ⟨w9, hlt, hi⟩ := hq; exact (ih w9 hlt) d x2 x3 G hi) hK d x2 x3 G (o10 w0 d x2 x3 hi)
set_option maxHeartbeats 4000000 in
set_option maxRecDepth 100000 in
theorem t_X0_carryOut (g : yG) (A : Nat → Nat) (d : RV) (G : Nat → Nat → Int32) (T : Nat → Nat) (t : RV) (GT : Nat → Nat → Int32)  {post : Int32 → List va_W → Prop} {K : Int32 → RV → Prop} (hK : ∀ (r0 : Int32) (d : RV) (G : Nat → Nat → Int32), K r0 d → post r0 ([dayC A d, tabC T t] ++ (dayR g A d G ++ tabR g T t GT) : List va_W)) (hPO : PO_X0_carryOut t K d ) : yM g yX0_carryOut wsX0_carryOut ({ frames := 3, cells := 0, slots := 0, locals := 66 } : Room) [.ref (A 0), .ref (T 0)] ([dayC A d, tabC T t] ++ (dayR g A d G ++ tabR g T t GT) : List va_W) post 0 0 := by
  refine y_entryI (cc := cX0_carryOut) (maxL := 5) (by decide +kernel) rfl (Nat.le_of_ble_eq_true rfl) (fun Z C HR => ?_)
  have C : yC Z g cX0_carryOut 5 wsX0_carryOut RX0 := C
  obtain ⟨I10, o10, h⟩ := hPO
  have hX10 : ∀ (d : RV) (x2 : Int32) (x3 : Int32) (G : Nat → Nat → Int32), (fun (d9 : RV) (x29 : Int32) (x39 : Int32) => ∃ w9, I10 w9 d9 x29 x39) d x2 x3 → yJ Z ({ frames := 3, cells := 0, slots := 0, locals := 66 } : Room) 0 0 ([dayC A d, tabC T t] ++ (dayR g A d G ++ tabR g T t GT) : List va_W) 10 [(0, .ref (A 0)), (1, .ref (T 0)), (2, .int x2), (3, .int x3)] [] := by
    intro d x2 x3 G hq
    obtain ⟨w9, hi⟩ := hq
    exact (l_X0_carryOut g A T t GT C HR hK o10 w9) d x2 x3 G hi
  unfold wp_X0_carryOut_0 at h
  show yJ Z _ 0 0 _ 0 [(0, .ref (A 0)), (1, .ref (T 0))] []
  refine y_aload_n C dX0_carryOut_0 0 rfl rfl ?_
  refine y_get (Cn := RX0) (T := TX0) (N := 15) (v := .ref (A 23)) C dX0_carryOut_1 hX0_carryOut_X0 0 (sh_33 g A d G T t GT) rfl 11 (Nat.le_of_ble_eq_true rfl) kX0_carryOut_1 rfl ?_
  refine y_callV (As := []) (rest := []) C dX0_carryOut_4 (c_X3_length g (A 23) (A 24) 34 (d.1 11) (G 11) (by decide)) rfl rfl rfl rfl ⟨Nat.le_of_ble_eq_true rfl, Nat.le_of_ble_eq_true rfl⟩ gX0_carryOut_X3_length (nA := 0) (by decide +kernel) rfl (rowW_recv ⟨_, rfl⟩) (Nat.le_of_ble_eq_true rfl) ⟨Nat.le_of_ble_eq_true rfl, Nat.le_of_ble_eq_true rfl⟩ [13] [0, 1, 2, 3, 4, 5, 6, 7, 8, 9, 10, 11, 12, 14, 15, 16, 17, 18] (nB := 19) rfl (by decide +kernel) (sh_34 g A d G T t GT) (fun r1 w9 hw => ?_)
  obtain ⟨er1, rfl⟩ := hw
  have h := y_letP h er1
  refine ⟨([dayC A d, tabC T t] ++ (dayR g A d G ++ tabR g T t GT) : List va_W), ⟨(sh_34 g A d G T t GT), rfl, rfl⟩, ?_⟩
  refine y_istore_n (lv' := [(2, .int r1), (0, .ref (A 0)), (1, .ref (T 0))]) C dX0_carryOut_7 rfl (Nat.le_of_ble_eq_true rfl) rfl ?_
  refine y_iconst (v := 0) C dX0_carryOut_8 (by decide) ?_
  refine y_istore_n (lv' := [(3, .int (0 : Int32)), (2, .int r1), (0, .ref (A 0)), (1, .ref (T 0))]) C dX0_carryOut_9 rfl (Nat.le_of_ble_eq_true rfl) rfl ?_
  refine y_sub (lv' := [(0, .ref (A 0)), (1, .ref (T 0)), (2, .int r1), (3, .int (0 : Int32))]) [2, 3, 1, 0] rfl ?_
  exact hX10 _ _ _ _ h
set_option maxHeartbeats 4000000 in
set_option maxRecDepth 100000 in
theorem c_X0_carryOut (g : yG) (A : Nat → Nat) (d : RV) (G : Nat → Nat → Int32) (T : Nat → Nat) (t : RV) (GT : Nat → Nat → Int32)   : yM g yX0_carryOut wsX0_carryOut ({ frames := 3, cells := 0, slots := 0, locals := 66 } : Room) [.ref (A 0), .ref (T 0)] ([dayC A d, tabC T t] ++ (dayR g A d G ++ tabR g T t GT) : List va_W) (fun r w => r = (nI (fCarry t d).1) ∧ ∃ d' : RV, ∃ G' : Nat → Nat → Int32, d' = (fCarry t d).2 ∧ w = ([dayC A d', tabC T t] ++ (dayR g A d' G' ++ tabR g T t GT) : List va_W)) 0 0 :=
  yM_fact (F := dayLen d) (fun A9 hD => dayLen_of (g := g) (A := A) (G := G) (fun x hx => by simp only [List.mem_append, hx, true_or, or_true]) hD) (fun hF => t_X0_carryOut g A d G T t GT  (K := (fun (r1 : Int32) (d1 : RV) => r1 = (nI (fCarry t d).1) ∧ d1 = (fCarry t d).2)) (fun r1 d1 G1 hh => by obtain ⟨e0, e1⟩ := hh; exact ⟨e0, d1, G1, e1, rfl⟩) (p_X0_carryOut (by have := hF.2.2.2.2.2.2.2.2.2.2.2; omega)))
