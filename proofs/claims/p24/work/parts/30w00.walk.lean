theorem dX4_lay_0 : decode cX4_lay 0 = .ok (.aload_n 0, 1) := by decide +kernel
theorem dX4_lay_1 : decode cX4_lay 1 = .ok (.getfield 10, 3) := by decide +kernel
theorem dX4_lay_4 : decode cX4_lay 4 = .ok (.getfield 38, 3) := by decide +kernel
theorem dX4_lay_7 : decode cX4_lay 7 = .ok (.aload_n 1, 1) := by decide +kernel
theorem dX4_lay_8 : decode cX4_lay 8 = .ok (.invokevirtual 101, 3) := by decide +kernel
theorem dX4_lay_11 : decode cX4_lay 11 = .ok (.aload_n 0, 1) := by decide +kernel
theorem dX4_lay_12 : decode cX4_lay 12 = .ok (.getfield 10, 3) := by decide +kernel
theorem dX4_lay_15 : decode cX4_lay 15 = .ok (.getfield 38, 3) := by decide +kernel
theorem dX4_lay_18 : decode cX4_lay 18 = .ok (.iload_n 3, 1) := by decide +kernel
theorem dX4_lay_19 : decode cX4_lay 19 = .ok (.iload_n 2, 1) := by decide +kernel
theorem dX4_lay_20 : decode cX4_lay 20 = .ok (.invokestatic 104, 3) := by decide +kernel
theorem dX4_lay_23 : decode cX4_lay 23 = .ok (.invokevirtual 109, 3) := by decide +kernel
theorem dX4_lay_26 : decode cX4_lay 26 = .ok (.aload_n 0, 1) := by decide +kernel
theorem dX4_lay_27 : decode cX4_lay 27 = .ok (.getfield 10, 3) := by decide +kernel
theorem dX4_lay_30 : decode cX4_lay 30 = .ok (.getfield 38, 3) := by decide +kernel
theorem dX4_lay_33 : decode cX4_lay 33 = .ok (.iload 4, 2) := by decide +kernel
theorem dX4_lay_35 : decode cX4_lay 35 = .ok (.iload_n 2, 1) := by decide +kernel
theorem dX4_lay_36 : decode cX4_lay 36 = .ok (.invokestatic 113, 3) := by decide +kernel
theorem dX4_lay_39 : decode cX4_lay 39 = .ok (.invokevirtual 109, 3) := by decide +kernel
theorem dX4_lay_42 : decode cX4_lay 42 = .ok (.return_, 1) := by decide +kernel
set_option maxRecDepth 20000 in
theorem ggX4_lay_X3_copy : GoodIn wsX4_lay wsX3_copy := goodIn_r _ [7, 8, 9, 10, 11, 12, 13, 47, 48] (by decide +kernel) (by decide +kernel)
set_option maxRecDepth 20000 in
theorem gX4_lay_X3_copy : GoodIn wsX4_lay (wsV RX4 101 RX3 yX3_copy wsX3_copy) := goodIn_app (goodIn_of _ (by decide +kernel)) ggX4_lay_X3_copy
set_option maxRecDepth 20000 in
theorem ggX4_lay_X6_pickUp : GoodIn wsX4_lay wsX6_pickUp := goodIn_r _ [16] (by decide +kernel) (by decide +kernel)
set_option maxRecDepth 20000 in
theorem gX4_lay_X6_pickUp_n104 : GoodIn wsX4_lay (wsX6_pickUp) := ggX4_lay_X6_pickUp
set_option maxRecDepth 20000 in
theorem ggX4_lay_X3_insert : GoodIn wsX4_lay wsX3_insert := goodIn_r _ [20, 8, 9, 47, 48] (by decide +kernel) (by decide +kernel)
set_option maxRecDepth 20000 in
theorem gX4_lay_X3_insert : GoodIn wsX4_lay (wsV RX4 109 RX3 yX3_insert wsX3_insert) := goodIn_app (goodIn_of _ (by decide +kernel)) ggX4_lay_X3_insert
set_option maxRecDepth 20000 in
theorem ggX4_lay_X6_setDown : GoodIn wsX4_lay wsX6_setDown := goodIn_r _ [22] (by decide +kernel) (by decide +kernel)
set_option maxRecDepth 20000 in
theorem gX4_lay_X6_setDown_n113 : GoodIn wsX4_lay (wsX6_setDown) := ggX4_lay_X6_setDown
theorem kX4_lay_1 : Cond.fieldLink RX4 10 "BookedDetours$Search" "day" "LBookedDetours$Day;" ∈ wsX4_lay := List.mem_of_getElem? (i := 1) (by decide +kernel)
theorem kX4_lay_2 : Cond.fieldLink RX4 38 "BookedDetours$Day" "route" "LBookedDetours$Row;" ∈ wsX4_lay := List.mem_of_getElem? (i := 2) (by decide +kernel)
theorem kX4_lay_15 : Cond.initialized RX6 ∈ wsX4_lay := List.mem_of_getElem? (i := 15) (by decide +kernel)
theorem kX4_lay_14 : Cond.static yX6_pickUp ∈ wsX4_lay := List.mem_of_getElem? (i := 14) (by decide +kernel)
theorem kX4_lay_21 : Cond.static yX6_setDown ∈ wsX4_lay := List.mem_of_getElem? (i := 21) (by decide +kernel)
theorem hX4_lay_X4 : ∀ w ∈ u_ws RX4 TX4 9, w ∈ wsX4_lay := fun _ h => List.mem_cons_of_mem _ (List.mem_append_left _ (List.mem_append_left _ (List.mem_append_right _ h)))
theorem hX4_lay_X0 : ∀ w ∈ u_ws RX0 TX0 15, w ∈ wsX4_lay := fun _ h => List.mem_cons_of_mem _ (List.mem_append_left _ (List.mem_append_right _ h))
set_option maxHeartbeats 4000000 in
set_option maxRecDepth 100000 in
theorem c_X4_lay (g : yG) (S tq : Nat) (sv : RV) (SA : Nat → Nat) (sd : RV) (SG : Nat → Nat → Int32) (r a : Nat) (xs : List Int32) (gr : Nat → Int32) (ri : Int32) (pk : Int32) (dn : Int32) : yMv g yX4_lay wsX4_lay ({ frames := 2, cells := 0, slots := 0, locals := 43 } : Room) [.ref S, .ref r, .int ri, .int pk, .int dn] ([seaC S (SA 0) tq sv, dayC SA sd] ++ (dayR g SA sd SG ++ [rowW g.2.2.1 r a 34 xs gr]) : List va_W) (fun w => ∃ sd' : RV, ∃ SG' : Nat → Nat → Int32, sd' = (f_X4_lay sv sd xs ri pk dn) ∧ w = ([seaC S (SA 0) tq sv, dayC SA sd'] ++ (dayR g SA sd' SG' ++ [rowW g.2.2.1 r a 34 xs gr]) : List va_W)) 0 0 := by
  refine y_entryV (cc := cX4_lay) (maxL := 5) (by decide +kernel) rfl (Nat.le_of_ble_eq_true rfl) (fun Z C _ HR => ?_)
  have C : yC Z g cX4_lay 5 wsX4_lay RX4 := C
  have h := f_X4_lay.eq_1 sv sd xs ri pk dn
  show yJ Z _ 0 0 _ 0 [(0, .ref S), (1, .ref r), (2, .int ri), (3, .int pk), (4, .int dn)] []
  refine y_aload_n C dX4_lay_0 0 rfl rfl ?_
  refine y_get (Cn := RX4) (T := TX4) (N := 9) (v := .ref (SA 0)) C dX4_lay_1 hX4_lay_X4 0 (sh_98 g S (SA 0) tq sv SA sd SG r a 34 xs gr) rfl 0 (Nat.le_of_ble_eq_true rfl) kX4_lay_1 rfl ?_
  refine y_get (Cn := RX0) (T := TX0) (N := 15) (v := .ref (SA 23)) C dX4_lay_4 hX4_lay_X0 1 (sh_99 g S (SA 0) tq sv SA sd SG r a 34 xs gr) rfl 11 (Nat.le_of_ble_eq_true rfl) kX4_lay_2 rfl ?_
  refine y_aload_n C dX4_lay_7 1 rfl rfl ?_
  refine y_callVv (As := [.ref r]) (rest := []) C dX4_lay_8 (c_X3_copy g (SA 23) (SA 24) 34 (sd.1 11) (SG 11) r a 34 xs gr (by decide) (by decide)) rfl rfl rfl rfl ⟨Nat.le_of_ble_eq_true rfl, Nat.le_of_ble_eq_true rfl⟩ gX4_lay_X3_copy (nA := 1) (by decide +kernel) rfl (rowW_recv ⟨_, rfl⟩) (Nat.le_of_ble_eq_true rfl) ⟨Nat.le_of_ble_eq_true rfl, Nat.le_of_ble_eq_true rfl⟩ [13, 14] [0, 1, 2, 3, 4, 5, 6, 7, 8, 9, 10, 11, 12] (nB := 15) rfl (by decide +kernel) (sh_100 g S (SA 0) tq sv SA sd SG r a 34 xs gr) (fun w9 hw => ?_)
  obtain ⟨y1, G2, e3, rfl⟩ := hw
  obtain ⟨sd4, esd4⟩ : ∃ z : RV, z = rvR sd 11 y1 := ⟨_, rfl⟩
  obtain ⟨G5, eG5⟩ : ∃ z : Nat → Nat → Int32, z = gs SG 11 G2 := ⟨_, rfl⟩
  have h := y_letF h (show sd4 = rvR sd 11 (rCopy 34 xs) by rw [esd4, e3])
  refine ⟨([seaC S (SA 0) tq sv, dayC SA sd4] ++ (dayR g SA sd4 G5 ++ [rowW g.2.2.1 r a 34 xs gr]) : List va_W), (sh_101 g S (SA 0) tq sv SA sd SG r a 34 xs gr y1 G2 sd4 G5 esd4 eG5), ?_⟩
  refine y_aload_n C dX4_lay_11 0 rfl rfl ?_
  refine y_get (Cn := RX4) (T := TX4) (N := 9) (v := .ref (SA 0)) C dX4_lay_12 hX4_lay_X4 0 (sh_98 g S (SA 0) tq sv SA sd4 G5 r a 34 xs gr) rfl 0 (Nat.le_of_ble_eq_true rfl) kX4_lay_1 rfl ?_
  refine y_get (Cn := RX0) (T := TX0) (N := 15) (v := .ref (SA 23)) C dX4_lay_15 hX4_lay_X0 1 (sh_99 g S (SA 0) tq sv SA sd4 G5 r a 34 xs gr) rfl 11 (Nat.le_of_ble_eq_true rfl) kX4_lay_2 rfl ?_
  refine y_iload_n C dX4_lay_18 3 rfl rfl ?_
  refine y_iload_n C dX4_lay_19 2 rfl rfl ?_
  refine y_callSN (host := RX6) (As := [.int ri]) (rest := [.int pk, .ref (SA 23)]) C dX4_lay_20 (c_X6_pickUp g ri) rfl rfl rfl rfl ⟨Nat.le_of_ble_eq_true rfl, Nat.le_of_ble_eq_true rfl⟩ gX4_lay_X6_pickUp_n104 (List.mem_of_getElem? (i := 6) rfl) kX4_lay_15 kX4_lay_14 (nA := 1) (by decide +kernel) rfl (Nat.le_of_ble_eq_true rfl) ⟨Nat.le_of_ble_eq_true rfl, Nat.le_of_ble_eq_true rfl⟩ [] [0, 1, 2, 3, 4, 5, 6, 7, 8, 9, 10, 11, 12, 13, 14] (nB := 15) rfl (by decide +kernel) (sh_102 g S (SA 0) tq sv SA sd4 G5 r a 34 xs gr) (fun r6 w9 hw => ?_)
  obtain ⟨er6, rfl⟩ := hw
  have h := y_letF h er6
  refine ⟨([seaC S (SA 0) tq sv, dayC SA sd4] ++ (dayR g SA sd4 G5 ++ [rowW g.2.2.1 r a 34 xs gr]) : List va_W), ⟨(sh_102 g S (SA 0) tq sv SA sd4 G5 r a 34 xs gr), rfl, rfl⟩, ?_⟩
  refine y_callVv (As := [.int pk, .int r6]) (rest := []) C dX4_lay_23 (c_X3_insert g (SA 23) (SA 24) 34 (sd4.1 11) (G5 11) pk r6 (by decide)) rfl rfl rfl rfl ⟨Nat.le_of_ble_eq_true rfl, Nat.le_of_ble_eq_true rfl⟩ gX4_lay_X3_insert (nA := 2) (by decide +kernel) rfl (rowW_recv ⟨_, rfl⟩) (Nat.le_of_ble_eq_true rfl) ⟨Nat.le_of_ble_eq_true rfl, Nat.le_of_ble_eq_true rfl⟩ [13] [0, 1, 2, 3, 4, 5, 6, 7, 8, 9, 10, 11, 12, 14] (nB := 15) rfl (by decide +kernel) (sh_103 g S (SA 0) tq sv SA sd4 G5 r a 34 xs gr) (fun w9 hw => ?_)
  obtain ⟨y7, G8, e9, rfl⟩ := hw
  obtain ⟨sd10, esd10⟩ : ∃ z : RV, z = rvR sd4 11 y7 := ⟨_, rfl⟩
  obtain ⟨G11, eG11⟩ : ∃ z : Nat → Nat → Int32, z = gs G5 11 G8 := ⟨_, rfl⟩
  have h := y_letF h (show sd10 = rvR sd4 11 (rIns 34 (sd4.1 11) pk r6) by rw [esd10, e9])
  refine ⟨([seaC S (SA 0) tq sv, dayC SA sd10] ++ (dayR g SA sd10 G11 ++ [rowW g.2.2.1 r a 34 xs gr]) : List va_W), (sh_104 g S (SA 0) tq sv SA sd4 G5 r a 34 xs gr y7 G8 sd10 G11 esd10 eG11), ?_⟩
  refine y_aload_n C dX4_lay_26 0 rfl rfl ?_
  refine y_get (Cn := RX4) (T := TX4) (N := 9) (v := .ref (SA 0)) C dX4_lay_27 hX4_lay_X4 0 (sh_98 g S (SA 0) tq sv SA sd10 G11 r a 34 xs gr) rfl 0 (Nat.le_of_ble_eq_true rfl) kX4_lay_1 rfl ?_
  refine y_get (Cn := RX0) (T := TX0) (N := 15) (v := .ref (SA 23)) C dX4_lay_30 hX4_lay_X0 1 (sh_99 g S (SA 0) tq sv SA sd10 G11 r a 34 xs gr) rfl 11 (Nat.le_of_ble_eq_true rfl) kX4_lay_2 rfl ?_
  refine y_iload C dX4_lay_33 4 rfl ?_
  refine y_iload_n C dX4_lay_35 2 rfl rfl ?_
  refine y_callSN (host := RX6) (As := [.int ri]) (rest := [.int dn, .ref (SA 23)]) C dX4_lay_36 (c_X6_setDown g ri) rfl rfl rfl rfl ⟨Nat.le_of_ble_eq_true rfl, Nat.le_of_ble_eq_true rfl⟩ gX4_lay_X6_setDown_n113 (List.mem_of_getElem? (i := 7) rfl) kX4_lay_15 kX4_lay_21 (nA := 1) (by decide +kernel) rfl (Nat.le_of_ble_eq_true rfl) ⟨Nat.le_of_ble_eq_true rfl, Nat.le_of_ble_eq_true rfl⟩ [] [0, 1, 2, 3, 4, 5, 6, 7, 8, 9, 10, 11, 12, 13, 14] (nB := 15) rfl (by decide +kernel) (sh_102 g S (SA 0) tq sv SA sd10 G11 r a 34 xs gr) (fun r12 w9 hw => ?_)
  obtain ⟨er12, rfl⟩ := hw
  have h := y_letF h er12
  refine ⟨([seaC S (SA 0) tq sv, dayC SA sd10] ++ (dayR g SA sd10 G11 ++ [rowW g.2.2.1 r a 34 xs gr]) : List va_W), ⟨(sh_102 g S (SA 0) tq sv SA sd10 G11 r a 34 xs gr), rfl, rfl⟩, ?_⟩
  refine y_callVv (As := [.int dn, .int r12]) (rest := []) C dX4_lay_39 (c_X3_insert g (SA 23) (SA 24) 34 (sd10.1 11) (G11 11) dn r12 (by decide)) rfl rfl rfl rfl ⟨Nat.le_of_ble_eq_true rfl, Nat.le_of_ble_eq_true rfl⟩ gX4_lay_X3_insert (nA := 2) (by decide +kernel) rfl (rowW_recv ⟨_, rfl⟩) (Nat.le_of_ble_eq_true rfl) ⟨Nat.le_of_ble_eq_true rfl, Nat.le_of_ble_eq_true rfl⟩ [13] [0, 1, 2, 3, 4, 5, 6, 7, 8, 9, 10, 11, 12, 14] (nB := 15) rfl (by decide +kernel) (sh_103 g S (SA 0) tq sv SA sd10 G11 r a 34 xs gr) (fun w9 hw => ?_)
  obtain ⟨y13, G14, e15, rfl⟩ := hw
  obtain ⟨sd16, esd16⟩ : ∃ z : RV, z = rvR sd10 11 y13 := ⟨_, rfl⟩
  obtain ⟨G17, eG17⟩ : ∃ z : Nat → Nat → Int32, z = gs G11 11 G14 := ⟨_, rfl⟩
  have h := y_letF h (show sd16 = rvR sd10 11 (rIns 34 (sd10.1 11) dn r12) by rw [esd16, e15])
  refine ⟨([seaC S (SA 0) tq sv, dayC SA sd16] ++ (dayR g SA sd16 G17 ++ [rowW g.2.2.1 r a 34 xs gr]) : List va_W), (sh_104 g S (SA 0) tq sv SA sd10 G11 r a 34 xs gr y13 G14 sd16 G17 esd16 eG17), ?_⟩
  exact HR 42 dX4_lay_42 _ _ _ _ (Nat.le_of_ble_eq_true rfl) (Nat.le_of_ble_eq_true rfl) ⟨sd16, G17, by rw [h], rfl⟩
