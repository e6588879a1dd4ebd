theorem dX5_begin_0 : decode cX5_begin 0 = .ok (.aload_n 0, 1) := by decide +kernel
theorem dX5_begin_1 : decode cX5_begin 1 = .ok (.getfield 14, 3) := by decide +kernel
theorem dX5_begin_4 : decode cX5_begin 4 = .ok (.invokevirtual 53, 3) := by decide +kernel
theorem dX5_begin_7 : decode cX5_begin 7 = .ok (.aload_n 0, 1) := by decide +kernel
theorem dX5_begin_8 : decode cX5_begin 8 = .ok (.getfield 20, 3) := by decide +kernel
theorem dX5_begin_11 : decode cX5_begin 11 = .ok (.invokevirtual 53, 3) := by decide +kernel
theorem dX5_begin_14 : decode cX5_begin 14 = .ok (.aload_n 0, 1) := by decide +kernel
theorem dX5_begin_15 : decode cX5_begin 15 = .ok (.getfield 23, 3) := by decide +kernel
theorem dX5_begin_18 : decode cX5_begin 18 = .ok (.invokevirtual 53, 3) := by decide +kernel
theorem dX5_begin_21 : decode cX5_begin 21 = .ok (.aload_n 0, 1) := by decide +kernel
theorem dX5_begin_22 : decode cX5_begin 22 = .ok (.getfield 26, 3) := by decide +kernel
theorem dX5_begin_25 : decode cX5_begin 25 = .ok (.aload_n 1, 1) := by decide +kernel
theorem dX5_begin_26 : decode cX5_begin 26 = .ok (.getfield 56, 3) := by decide +kernel
theorem dX5_begin_29 : decode cX5_begin 29 = .ok (.invokevirtual 57, 3) := by decide +kernel
theorem dX5_begin_32 : decode cX5_begin 32 = .ok (.aload_n 0, 1) := by decide +kernel
theorem dX5_begin_33 : decode cX5_begin 33 = .ok (.getfield 29, 3) := by decide +kernel
theorem dX5_begin_36 : decode cX5_begin 36 = .ok (.aload_n 1, 1) := by decide +kernel
theorem dX5_begin_37 : decode cX5_begin 37 = .ok (.getfield 61, 3) := by decide +kernel
theorem dX5_begin_40 : decode cX5_begin 40 = .ok (.invokevirtual 57, 3) := by decide +kernel
theorem dX5_begin_43 : decode cX5_begin 43 = .ok (.aload_n 0, 1) := by decide +kernel
theorem dX5_begin_44 : decode cX5_begin 44 = .ok (.aload_n 1, 1) := by decide +kernel
theorem dX5_begin_45 : decode cX5_begin 45 = .ok (.getfield 62, 3) := by decide +kernel
theorem dX5_begin_48 : decode cX5_begin 48 = .ok (.putfield 66, 3) := by decide +kernel
theorem dX5_begin_51 : decode cX5_begin 51 = .ok (.aload_n 0, 1) := by decide +kernel
theorem dX5_begin_52 : decode cX5_begin 52 = .ok (.aload_n 1, 1) := by decide +kernel
theorem dX5_begin_53 : decode cX5_begin 53 = .ok (.getfield 69, 3) := by decide +kernel
theorem dX5_begin_56 : decode cX5_begin 56 = .ok (.putfield 72, 3) := by decide +kernel
theorem dX5_begin_59 : decode cX5_begin 59 = .ok (.aload_n 0, 1) := by decide +kernel
theorem dX5_begin_60 : decode cX5_begin 60 = .ok (.aload_n 1, 1) := by decide +kernel
theorem dX5_begin_61 : decode cX5_begin 61 = .ok (.iconst 1, 1) := by decide +kernel
theorem dX5_begin_62 : decode cX5_begin 62 = .ok (.invokevirtual 75, 3) := by decide +kernel
theorem dX5_begin_65 : decode cX5_begin 65 = .ok (.putfield 78, 3) := by decide +kernel
theorem dX5_begin_68 : decode cX5_begin 68 = .ok (.aload_n 0, 1) := by decide +kernel
theorem dX5_begin_69 : decode cX5_begin 69 = .ok (.iconst 0, 1) := by decide +kernel
theorem dX5_begin_70 : decode cX5_begin 70 = .ok (.putfield 81, 3) := by decide +kernel
theorem dX5_begin_73 : decode cX5_begin 73 = .ok (.aload_n 0, 1) := by decide +kernel
theorem dX5_begin_74 : decode cX5_begin 74 = .ok (.iconst 0, 1) := by decide +kernel
theorem dX5_begin_75 : decode cX5_begin 75 = .ok (.putfield 84, 3) := by decide +kernel
theorem dX5_begin_78 : decode cX5_begin 78 = .ok (.return_, 1) := by decide +kernel
set_option maxRecDepth 20000 in
theorem ggX5_begin_X3_clear : GoodIn wsX5_begin wsX3_clear := goodIn_r _ [19, 20, 69, 70] (by decide +kernel) (by decide +kernel)
set_option maxRecDepth 20000 in
theorem gX5_begin_X3_clear : GoodIn wsX5_begin (wsV RX5 53 RX3 yX3_clear wsX3_clear) := goodIn_app (goodIn_of _ (by decide +kernel)) ggX5_begin_X3_clear
set_option maxRecDepth 20000 in
theorem ggX5_begin_X3_copy : GoodIn wsX5_begin wsX3_copy := goodIn_r _ [24, 20, 25, 26, 27, 28, 29, 69, 70] (by decide +kernel) (by decide +kernel)
set_option maxRecDepth 20000 in
theorem gX5_begin_X3_copy : GoodIn wsX5_begin (wsV RX5 57 RX3 yX3_copy wsX3_copy) := goodIn_app (goodIn_of _ (by decide +kernel)) ggX5_begin_X3_copy
set_option maxRecDepth 20000 in
theorem ggX5_begin_X0_ridesThatStand : GoodIn wsX5_begin wsX0_ridesThatStand := goodIn_r _ [34, 35, 36, 37, 38, 18, 39, 20, 40, 41, 42, 43, 25, 54, 55, 56, 57, 58, 59, 60, 61, 62, 63, 64, 65, 66, 67, 68, 69, 70] (by decide +kernel) (by decide +kernel)
set_option maxRecDepth 20000 in
theorem gX5_begin_X0_ridesThatStand : GoodIn wsX5_begin (wsV RX5 75 RX0 yX0_ridesThatStand wsX0_ridesThatStand) := goodIn_app (goodIn_of _ (by decide +kernel)) ggX5_begin_X0_ridesThatStand
theorem kX5_begin_1 : Cond.fieldLink RX5 14 "BookedDetours$Timetable" "times" "LBookedDetours$Row;" ∈ wsX5_begin := List.mem_of_getElem? (i := 1) (by decide +kernel)
theorem kX5_begin_2 : Cond.fieldLink RX5 20 "BookedDetours$Timetable" "loads" "LBookedDetours$Row;" ∈ wsX5_begin := List.mem_of_getElem? (i := 2) (by decide +kernel)
theorem kX5_begin_3 : Cond.fieldLink RX5 23 "BookedDetours$Timetable" "delays" "LBookedDetours$Row;" ∈ wsX5_begin := List.mem_of_getElem? (i := 3) (by decide +kernel)
theorem kX5_begin_4 : Cond.fieldLink RX5 26 "BookedDetours$Timetable" "picks" "LBookedDetours$Row;" ∈ wsX5_begin := List.mem_of_getElem? (i := 4) (by decide +kernel)
theorem kX5_begin_5 : Cond.fieldLink RX5 56 "BookedDetours$Day" "picks" "LBookedDetours$Row;" ∈ wsX5_begin := List.mem_of_getElem? (i := 5) (by decide +kernel)
theorem kX5_begin_6 : Cond.fieldLink RX5 29 "BookedDetours$Timetable" "downs" "LBookedDetours$Row;" ∈ wsX5_begin := List.mem_of_getElem? (i := 6) (by decide +kernel)
theorem kX5_begin_7 : Cond.fieldLink RX5 61 "BookedDetours$Day" "downs" "LBookedDetours$Row;" ∈ wsX5_begin := List.mem_of_getElem? (i := 7) (by decide +kernel)
theorem kX5_begin_8 : Cond.fieldLink RX5 62 "BookedDetours$Day" "busStop" "I" ∈ wsX5_begin := List.mem_of_getElem? (i := 8) (by decide +kernel)
theorem kX5_begin_9 : Cond.fieldLink RX5 66 "BookedDetours$Timetable" "stop" "I" ∈ wsX5_begin := List.mem_of_getElem? (i := 9) (by decide +kernel)
theorem kX5_begin_10 : Cond.fieldLink RX5 69 "BookedDetours$Day" "busFree" "I" ∈ wsX5_begin := List.mem_of_getElem? (i := 10) (by decide +kernel)
theorem kX5_begin_11 : Cond.fieldLink RX5 72 "BookedDetours$Timetable" "free" "I" ∈ wsX5_begin := List.mem_of_getElem? (i := 11) (by decide +kernel)
theorem kX5_begin_12 : Cond.fieldLink RX5 78 "BookedDetours$Timetable" "aboard" "I" ∈ wsX5_begin := List.mem_of_getElem? (i := 12) (by decide +kernel)
theorem kX5_begin_13 : Cond.fieldLink RX5 81 "BookedDetours$Timetable" "driving" "I" ∈ wsX5_begin := List.mem_of_getElem? (i := 13) (by decide +kernel)
theorem kX5_begin_14 : Cond.fieldLink RX5 84 "BookedDetours$Timetable" "waiting" "I" ∈ wsX5_begin := List.mem_of_getElem? (i := 14) (by decide +kernel)
theorem hX5_begin_X5 : ∀ w ∈ u_ws RX5 TX5 10, w ∈ wsX5_begin := fun _ h => List.mem_cons_of_mem _ (List.mem_append_left _ (List.mem_append_left _ (List.mem_append_right _ h)))
theorem hX5_begin_X0 : ∀ w ∈ u_ws RX0 TX0 15, w ∈ wsX5_begin := fun _ h => List.mem_cons_of_mem _ (List.mem_append_left _ (List.mem_append_right _ h))
set_option maxHeartbeats 4000000 in
set_option maxRecDepth 100000 in
theorem c_X5_begin (g : yG) (T : Nat → Nat) (t : RV) (GT : Nat → Nat → Int32) (A : Nat → Nat) (d : RV) (G : Nat → Nat → Int32)  : yMv g yX5_begin wsX5_begin ({ frames := 2, cells := 0, slots := 0, locals := 44 } : Room) [.ref (T 0), .ref (A 0)] ([tabC T t, dayC A d] ++ (tabR g T t GT ++ dayR g A d G) : List va_W) (fun w => ∃ t' : RV, ∃ GT' : Nat → Nat → Int32, t' = (f_X5_begin t d) ∧ w = ([tabC T t', dayC A d] ++ (tabR g T t' GT' ++ dayR g A d G) : List va_W)) 0 0 := by
  refine y_entryV (cc := cX5_begin) (maxL := 2) (by decide +kernel) rfl (Nat.le_of_ble_eq_true rfl) (fun Z C _ HR => ?_)
  have C : yC Z g cX5_begin 2 wsX5_begin RX5 := C
  have h := f_X5_begin.eq_1 t d
  show yJ Z _ 0 0 _ 0 [(0, .ref (T 0)), (1, .ref (A 0))] []
  refine y_aload_n C dX5_begin_0 0 rfl rfl ?_
  refine y_get (Cn := RX5) (T := TX5) (N := 10) (v := .ref (T 1)) C dX5_begin_1 hX5_begin_X5 0 (sh_67 g T t GT A d G) rfl 0 (Nat.le_of_ble_eq_true rfl) kX5_begin_1 rfl ?_
  refine y_callVv (As := []) (rest := []) C dX5_begin_4 (c_X3_clear g (T 1) (T 2) 34 (t.1 0) (GT 0) (by decide)) rfl rfl rfl rfl ⟨Nat.le_of_ble_eq_true rfl, Nat.le_of_ble_eq_true rfl⟩ gX5_begin_X3_clear (nA := 0) (by decide +kernel) rfl (rowW_recv ⟨_, rfl⟩) (Nat.le_of_ble_eq_true rfl) ⟨Nat.le_of_ble_eq_true rfl, Nat.le_of_ble_eq_true rfl⟩ [2] [0, 1, 3, 4, 5, 6, 7, 8, 9, 10, 11, 12, 13, 14, 15, 16, 17, 18] (nB := 19) rfl (by decide +kernel) (sh_68 g T t GT A d G) (fun w9 hw => ?_)
  obtain ⟨y1, G2, e3, rfl⟩ := hw
  obtain ⟨t4, et4⟩ : ∃ z : RV, z = rvR t 0 y1 := ⟨_, rfl⟩
  obtain ⟨G5, eG5⟩ : ∃ z : Nat → Nat → Int32, z = gs GT 0 G2 := ⟨_, rfl⟩
  have h := y_letF h (show t4 = rvR t 0 ([]) by rw [et4, e3])
  refine ⟨([tabC T t4, dayC A d] ++ (tabR g T t4 G5 ++ dayR g A d G) : List va_W), (sh_69 g T t GT A d G y1 G2 t4 G5 et4 eG5), ?_⟩
  refine y_aload_n C dX5_begin_7 0 rfl rfl ?_
  refine y_get (Cn := RX5) (T := TX5) (N := 10) (v := .ref (T 3)) C dX5_begin_8 hX5_begin_X5 0 (sh_67 g T t4 G5 A d G) rfl 1 (Nat.le_of_ble_eq_true rfl) kX5_begin_2 rfl ?_
  refine y_callVv (As := []) (rest := []) C dX5_begin_11 (c_X3_clear g (T 3) (T 4) 34 (t4.1 1) (G5 1) (by decide)) rfl rfl rfl rfl ⟨Nat.le_of_ble_eq_true rfl, Nat.le_of_ble_eq_true rfl⟩ gX5_begin_X3_clear (nA := 0) (by decide +kernel) rfl (rowW_recv ⟨_, rfl⟩) (Nat.le_of_ble_eq_true rfl) ⟨Nat.le_of_ble_eq_true rfl, Nat.le_of_ble_eq_true rfl⟩ [3] [0, 1, 2, 4, 5, 6, 7, 8, 9, 10, 11, 12, 13, 14, 15, 16, 17, 18] (nB := 19) rfl (by decide +kernel) (sh_70 g T t4 G5 A d G) (fun w9 hw => ?_)
  obtain ⟨y6, G7, e8, rfl⟩ := hw
  obtain ⟨t9, et9⟩ : ∃ z : RV, z = rvR t4 1 y6 := ⟨_, rfl⟩
  obtain ⟨G10, eG10⟩ : ∃ z : Nat → Nat → Int32, z = gs G5 1 G7 := ⟨_, rfl⟩
  have h := y_letF h (show t9 = rvR t4 1 ([]) by rw [et9, e8])
  refine ⟨([tabC T t9, dayC A d] ++ (tabR g T t9 G10 ++ dayR g A d G) : List va_W), (sh_71 g T t4 G5 A d G y6 G7 t9 G10 et9 eG10), ?_⟩
  refine y_aload_n C dX5_begin_14 0 rfl rfl ?_
  refine y_get (Cn := RX5) (T := TX5) (N := 10) (v := .ref (T 5)) C dX5_begin_15 hX5_begin_X5 0 (sh_67 g T t9 G10 A d G) rfl 2 (Nat.le_of_ble_eq_true rfl) kX5_begin_3 rfl ?_
  refine y_callVv (As := []) (rest := []) C dX5_begin_18 (c_X3_clear g (T 5) (T 6) 34 (t9.1 2) (G10 2) (by decide)) rfl rfl rfl rfl ⟨Nat.le_of_ble_eq_true rfl, Nat.le_of_ble_eq_true rfl⟩ gX5_begin_X3_clear (nA := 0) (by decide +kernel) rfl (rowW_recv ⟨_, rfl⟩) (Nat.le_of_ble_eq_true rfl) ⟨Nat.le_of_ble_eq_true rfl, Nat.le_of_ble_eq_true rfl⟩ [4] [0, 1, 2, 3, 5, 6, 7, 8, 9, 10, 11, 12, 13, 14, 15, 16, 17, 18] (nB := 19) rfl (by decide +kernel) (sh_72 g T t9 G10 A d G) (fun w9 hw => ?_)
  obtain ⟨y11, G12, e13, rfl⟩ := hw
  obtain ⟨t14, et14⟩ : ∃ z : RV, z = rvR t9 2 y11 := ⟨_, rfl⟩
  obtain ⟨G15, eG15⟩ : ∃ z : Nat → Nat → Int32, z = gs G10 2 G12 := ⟨_, rfl⟩
  have h := y_letF h (show t14 = rvR t9 2 ([]) by rw [et14, e13])
  refine ⟨([tabC T t14, dayC A d] ++ (tabR g T t14 G15 ++ dayR g A d G) : List va_W), (sh_73 g T t9 G10 A d G y11 G12 t14 G15 et14 eG15), ?_⟩
  refine y_aload_n C dX5_begin_21 0 rfl rfl ?_
  refine y_get (Cn := RX5) (T := TX5) (N := 10) (v := .ref (T 7)) C dX5_begin_22 hX5_begin_X5 0 (sh_67 g T t14 G15 A d G) rfl 3 (Nat.le_of_ble_eq_true rfl) kX5_begin_4 rfl ?_
  refine y_aload_n C dX5_begin_25 1 rfl rfl ?_
  refine y_get (Cn := RX0) (T := TX0) (N := 15) (v := .ref (A 19)) C dX5_begin_26 hX5_begin_X0 1 (sh_74 g T t14 G15 A d G) rfl 9 (Nat.le_of_ble_eq_true rfl) kX5_begin_5 rfl ?_
  refine y_callVv (As := [.ref (A 19)]) (rest := []) C dX5_begin_29 (c_X3_copy g (T 7) (T 8) 17 (t14.1 3) (G15 3) (A 19) (A 20) 17 (d.1 9) (G 9) (by decide) (by decide)) rfl rfl rfl rfl ⟨Nat.le_of_ble_eq_true rfl, Nat.le_of_ble_eq_true rfl⟩ gX5_begin_X3_copy (nA := 1) (by decide +kernel) rfl (rowW_recv ⟨_, rfl⟩) (Nat.le_of_ble_eq_true rfl) ⟨Nat.le_of_ble_eq_true rfl, Nat.le_of_ble_eq_true rfl⟩ [5, 16] [0, 1, 2, 3, 4, 6, 7, 8, 9, 10, 11, 12, 13, 14, 15, 17, 18] (nB := 19) rfl (by decide +kernel) (sh_75 g T t14 G15 A d G) (fun w9 hw => ?_)
  obtain ⟨y16, G17, e18, rfl⟩ := hw
  obtain ⟨t19, et19⟩ : ∃ z : RV, z = rvR t14 3 y16 := ⟨_, rfl⟩
  obtain ⟨G20, eG20⟩ : ∃ z : Nat → Nat → Int32, z = gs G15 3 G17 := ⟨_, rfl⟩
  have h := y_letF h (show t19 = rvR t14 3 (rCopy 17 (d.1 9)) by rw [et19, e18])
  refine ⟨([tabC T t19, dayC A d] ++ (tabR g T t19 G20 ++ dayR g A d G) : List va_W), (sh_76 g T t14 G15 A d G y16 G17 t19 G20 et19 eG20), ?_⟩
  refine y_aload_n C dX5_begin_32 0 rfl rfl ?_
  refine y_get (Cn := RX5) (T := TX5) (N := 10) (v := .ref (T 9)) C dX5_begin_33 hX5_begin_X5 0 (sh_67 g T t19 G20 A d G) rfl 4 (Nat.le_of_ble_eq_true rfl) kX5_begin_6 rfl ?_
  refine y_aload_n C dX5_begin_36 1 rfl rfl ?_
  refine y_get (Cn := RX0) (T := TX0) (N := 15) (v := .ref (A 21)) C dX5_begin_37 hX5_begin_X0 1 (sh_74 g T t19 G20 A d G) rfl 10 (Nat.le_of_ble_eq_true rfl) kX5_begin_7 rfl ?_
  refine y_callVv (As := [.ref (A 21)]) (rest := []) C dX5_begin_40 (c_X3_copy g (T 9) (T 10) 17 (t19.1 4) (G20 4) (A 21) (A 22) 17 (d.1 10) (G 10) (by decide) (by decide)) rfl rfl rfl rfl ⟨Nat.le_of_ble_eq_true rfl, Nat.le_of_ble_eq_true rfl⟩ gX5_begin_X3_copy (nA := 1) (by decide +kernel) rfl (rowW_recv ⟨_, rfl⟩) (Nat.le_of_ble_eq_true rfl) ⟨Nat.le_of_ble_eq_true rfl, Nat.le_of_ble_eq_true rfl⟩ [6, 17] [0, 1, 2, 3, 4, 5, 7, 8, 9, 10, 11, 12, 13, 14, 15, 16, 18] (nB := 19) rfl (by decide +kernel) (sh_77 g T t19 G20 A d G) (fun w9 hw => ?_)
  obtain ⟨y21, G22, e23, rfl⟩ := hw
  obtain ⟨t24, et24⟩ : ∃ z : RV, z = rvR t19 4 y21 := ⟨_, rfl⟩
  obtain ⟨G25, eG25⟩ : ∃ z : Nat → Nat → Int32, z = gs G20 4 G22 := ⟨_, rfl⟩
  have h := y_letF h (show t24 = rvR t19 4 (rCopy 17 (d.1 10)) by rw [et24, e23])
  refine ⟨([tabC T t24, dayC A d] ++ (tabR g T t24 G25 ++ dayR g A d G) : List va_W), (sh_78 g T t19 G20 A d G y21 G22 t24 G25 et24 eG25), ?_⟩
  refine y_aload_n C dX5_begin_43 0 rfl rfl ?_
  refine y_aload_n C dX5_begin_44 1 rfl rfl ?_
  refine y_get (Cn := RX0) (T := TX0) (N := 15) (v := .int (d.2 1)) C dX5_begin_45 hX5_begin_X0 1 (sh_74 g T t24 G25 A d G) rfl 13 (Nat.le_of_ble_eq_true rfl) kX5_begin_8 rfl ?_
  obtain ⟨t26, et26⟩ : ∃ z : RV, z = rvI t24 0 (d.2 1) := ⟨_, rfl⟩
  have h := y_letF h et26
  refine y_put (Cn := RX5) (T := TX5) (N := 10) (v := .int (d.2 1)) (ty0 := tyX5) (L1 := ([tabC T t26, dayC A d] ++ (tabR g T t26 G25 ++ dayR g A d G) : List va_W)) C dX5_begin_48 hX5_begin_X5 0 (sh_67 g T t24 G25 A d G) rfl 5 (Nat.le_of_ble_eq_true rfl) kX5_begin_9 tyX5_ok nmX5 rfl rfl rfl (Nat.le_of_ble_eq_true rfl) (sh_79 g T t24 G25 A d G (d.2 1) t26 et26) ?_
  refine y_aload_n C dX5_begin_51 0 rfl rfl ?_
  refine y_aload_n C dX5_begin_52 1 rfl rfl ?_
  refine y_get (Cn := RX0) (T := TX0) (N := 15) (v := .int (d.2 2)) C dX5_begin_53 hX5_begin_X0 1 (sh_74 g T t26 G25 A d G) rfl 14 (Nat.le_of_ble_eq_true rfl) kX5_begin_10 rfl ?_
  obtain ⟨t27, et27⟩ : ∃ z : RV, z = rvI t26 1 (d.2 2) := ⟨_, rfl⟩
  have h := y_letF h et27
  refine y_put (Cn := RX5) (T := TX5) (N := 10) (v := .int (d.2 2)) (ty0 := tyX5) (L1 := ([tabC T t27, dayC A d] ++ (tabR g T t27 G25 ++ dayR g A d G) : List va_W)) C dX5_begin_56 hX5_begin_X5 0 (sh_67 g T t26 G25 A d G) rfl 6 (Nat.le_of_ble_eq_true rfl) kX5_begin_11 tyX5_ok nmX5 rfl rfl rfl (Nat.le_of_ble_eq_true rfl) (sh_80 g T t26 G25 A d G (d.2 2) t27 et27) ?_
  refine y_aload_n C dX5_begin_59 0 rfl rfl ?_
  refine y_aload_n C dX5_begin_60 1 rfl rfl ?_
  refine y_iconst (v := 1) C dX5_begin_61 (by decide) ?_
  refine y_callV (As := [.int (1 : Int32)]) (rest := [.ref (T 0)]) C dX5_begin_62 (c_X0_ridesThatStand g A d G (1 : Int32)) rfl rfl rfl rfl ⟨Nat.le_of_ble_eq_true rfl, Nat.le_of_ble_eq_true rfl⟩ gX5_begin_X0_ridesThatStand (nA := 1) (by decide +kernel) rfl (sh_18 g A d G) (Nat.le_of_ble_eq_true rfl) ⟨Nat.le_of_ble_eq_true rfl, Nat.le_of_ble_eq_true rfl⟩ [1, 7, 8, 9, 10, 11, 12, 13, 14, 15, 16, 17, 18] [0, 2, 3, 4, 5, 6] (nB := 19) rfl (by decide +kernel) (sh_81 g T t27 G25 A d G) (fun r28 w9 hw => ?_)
  obtain ⟨er28, rfl⟩ := hw
  have h := y_letF h er28
  refine ⟨([tabC T t27, dayC A d] ++ (tabR g T t27 G25 ++ dayR g A d G) : List va_W), ⟨(sh_81 g T t27 G25 A d G), rfl, rfl⟩, ?_⟩
  obtain ⟨t29, et29⟩ : ∃ z : RV, z = rvI t27 2 r28 := ⟨_, rfl⟩
  have h := y_letF h et29
  refine y_put (Cn := RX5) (T := TX5) (N := 10) (v := .int r28) (ty0 := tyX5) (L1 := ([tabC T t29, dayC A d] ++ (tabR g T t29 G25 ++ dayR g A d G) : List va_W)) C dX5_begin_65 hX5_begin_X5 0 (sh_67 g T t27 G25 A d G) rfl 7 (Nat.le_of_ble_eq_true rfl) kX5_begin_12 tyX5_ok nmX5 rfl rfl rfl (Nat.le_of_ble_eq_true rfl) (sh_82 g T t27 G25 A d G r28 t29 et29) ?_
  refine y_aload_n C dX5_begin_68 0 rfl rfl ?_
  refine y_iconst (v := 0) C dX5_begin_69 (by decide) ?_
  obtain ⟨t30, et30⟩ : ∃ z : RV, z = rvI t29 3 (0 : Int32) := ⟨_, rfl⟩
  have h := y_letF h et30
  refine y_put (Cn := RX5) (T := TX5) (N := 10) (v := .int (0 : Int32)) (ty0 := tyX5) (L1 := ([tabC T t30, dayC A d] ++ (tabR g T t30 G25 ++ dayR g A d G) : List va_W)) C dX5_begin_70 hX5_begin_X5 0 (sh_67 g T t29 G25 A d G) rfl 8 (Nat.le_of_ble_eq_true rfl) kX5_begin_13 tyX5_ok nmX5 rfl rfl rfl (Nat.le_of_ble_eq_true rfl) (sh_83 g T t29 G25 A d G (0 : Int32) t30 et30) ?_
  refine y_aload_n C dX5_begin_73 0 rfl rfl ?_
  refine y_iconst (v := 0) C dX5_begin_74 (by decide) ?_
  obtain ⟨t31, et31⟩ : ∃ z : RV, z = rvI t30 4 (0 : Int32) := ⟨_, rfl⟩
  have h := y_letF h et31
  refine y_put (Cn := RX5) (T := TX5) (N := 10) (v := .int (0 : Int32)) (ty0 := tyX5) (L1 := ([tabC T t31, dayC A d] ++ (tabR g T t31 G25 ++ dayR g A d G) : List va_W)) C dX5_begin_75 hX5_begin_X5 0 (sh_67 g T t30 G25 A d G) rfl 9 (Nat.le_of_ble_eq_true rfl) kX5_begin_14 tyX5_ok nmX5 rfl rfl rfl (Nat.le_of_ble_eq_true rfl) (sh_84 g T t30 G25 A d G (0 : Int32) t31 et31) ?_
  exact HR 78 dX5_begin_78 _ _ _ _ (Nat.le_of_ble_eq_true rfl) (Nat.le_of_ble_eq_true rfl) ⟨t31, G25, by rw [h], rfl⟩
theorem dX5_latestByDetour_0 : decode cX5_latestByDetour 0 = .ok (.aload_n 0, 1) := by decide +kernel
theorem dX5_latestByDetour_1 : decode cX5_latestByDetour 1 = .ok (.getfield 26, 3) := by decide +kernel
theorem dX5_latestByDetour_4 : decode cX5_latestByDetour 4 = .ok (.iload_n 2, 1) := by decide +kernel
theorem dX5_latestByDetour_5 : decode cX5_latestByDetour 5 = .ok (.invokevirtual 45, 3) := by decide +kernel
theorem dX5_latestByDetour_8 : decode cX5_latestByDetour 8 = .ok (.aload_n 1, 1) := by decide +kernel
theorem dX5_latestByDetour_9 : decode cX5_latestByDetour 9 = .ok (.getfield 109, 3) := by decide +kernel
theorem dX5_latestByDetour_12 : decode cX5_latestByDetour 12 = .ok (.iconst 2, 1) := by decide +kernel
theorem dX5_latestByDetour_13 : decode cX5_latestByDetour 13 = .ok (.invokevirtual 45, 3) := by decide +kernel
theorem dX5_latestByDetour_16 : decode cX5_latestByDetour 16 = .ok (.iadd, 1) := by decide +kernel
theorem dX5_latestByDetour_17 : decode cX5_latestByDetour 17 = .ok (.istore_n 3, 1) := by decide +kernel
theorem dX5_latestByDetour_18 : decode cX5_latestByDetour 18 = .ok (.iload_n 3, 1) := by decide +kernel
theorem dX5_latestByDetour_19 : decode cX5_latestByDetour 19 = .ok (.aload_n 1, 1) := by decide +kernel
theorem dX5_latestByDetour_20 : decode cX5_latestByDetour 20 = .ok (.getfield 126, 3) := by decide +kernel
theorem dX5_latestByDetour_23 : decode cX5_latestByDetour 23 = .ok (.iload_n 2, 1) := by decide +kernel
theorem dX5_latestByDetour_24 : decode cX5_latestByDetour 24 = .ok (.invokevirtual 45, 3) := by decide +kernel
theorem dX5_latestByDetour_27 : decode cX5_latestByDetour 27 = .ok (.iadd, 1) := by decide +kernel
theorem dX5_latestByDetour_28 : decode cX5_latestByDetour 28 = .ok (.aload_n 1, 1) := by decide +kernel
theorem dX5_latestByDetour_29 : decode cX5_latestByDetour 29 = .ok (.getfield 109, 3) := by decide +kernel
theorem dX5_latestByDetour_32 : decode cX5_latestByDetour 32 = .ok (.iconst 1, 1) := by decide +kernel
theorem dX5_latestByDetour_33 : decode cX5_latestByDetour 33 = .ok (.invokevirtual 45, 3) := by decide +kernel
theorem dX5_latestByDetour_36 : decode cX5_latestByDetour 36 = .ok (.iadd, 1) := by decide +kernel
theorem dX5_latestByDetour_37 : decode cX5_latestByDetour 37 = .ok (.ireturn, 1) := by decide +kernel
set_option maxRecDepth 20000 in
theorem ggX5_latestByDetour_X3_at : GoodIn wsX5_latestByDetour wsX3_at := goodIn_r _ [8, 9, 10, 36, 37] (by decide +kernel) (by decide +kernel)
set_option maxRecDepth 20000 in
theorem gX5_latestByDetour_X3_at : GoodIn wsX5_latestByDetour (wsV RX5 45 RX3 yX3_at wsX3_at) := goodIn_app (goodIn_of _ (by decide +kernel)) ggX5_latestByDetour_X3_at
theorem kX5_latestByDetour_1 : Cond.fieldLink RX5 26 "BookedDetours$Timetable" "picks" "LBookedDetours$Row;" ∈ wsX5_latestByDetour := List.mem_of_getElem? (i := 1) (by decide +kernel)
theorem kX5_latestByDetour_2 : Cond.fieldLink RX5 109 "BookedDetours$Day" "settings" "LBookedDetours$Row;" ∈ wsX5_latestByDetour := List.mem_of_getElem? (i := 2) (by decide +kernel)
theorem kX5_latestByDetour_3 : Cond.fieldLink RX5 126 "BookedDetours$Day" "straights" "LBookedDetours$Row;" ∈ wsX5_latestByDetour := List.mem_of_getElem? (i := 3) (by decide +kernel)
theorem hX5_latestByDetour_X5 : ∀ w ∈ u_ws RX5 TX5 10, w ∈ wsX5_latestByDetour := fun _ h => List.mem_cons_of_mem _ (List.mem_append_left _ (List.mem_append_left _ (List.mem_append_right _ h)))
theorem hX5_latestByDetour_X0 : ∀ w ∈ u_ws RX0 TX0 15, w ∈ wsX5_latestByDetour := fun _ h => List.mem_cons_of_mem _ (List.mem_append_left _ (List.mem_append_right _ h))
set_option maxHeartbeats 4000000 in
set_option maxRecDepth 100000 in
theorem c_X5_latestByDetour (g : yG) (T : Nat → Nat) (t : RV) (GT : Nat → Nat → Int32) (A : Nat → Nat) (d : RV) (G : Nat → Nat → Int32) (ri : Int32) : yM g yX5_latestByDetour wsX5_latestByDetour ({ frames := 1, cells := 0, slots := 0, locals := 21 } : Room) [.ref (T 0), .ref (A 0), .int ri] ([tabC T t, dayC A d] ++ (tabR g T t GT ++ dayR g A d G) : List va_W) (fun r w => r = (f_X5_latestByDetour t d ri) ∧ w = ([tabC T t, dayC A d] ++ (tabR g T t GT ++ dayR g A d G) : List va_W)) 0 0 := by
  refine y_entryI (cc := cX5_latestByDetour) (maxL := 4) (by decide +kernel) rfl (Nat.le_of_ble_eq_true rfl) (fun Z C HR => ?_)
  have C : yC Z g cX5_latestByDetour 4 wsX5_latestByDetour RX5 := C
  have h := f_X5_latestByDetour.eq_1 t d ri
  show yJ Z _ 0 0 _ 0 [(0, .ref (T 0)), (1, .ref (A 0)), (2, .int ri)] []
  refine y_aload_n C dX5_latestByDetour_0 0 rfl rfl ?_
  refine y_get (Cn := RX5) (T := TX5) (N := 10) (v := .ref (T 7)) C dX5_latestByDetour_1 hX5_latestByDetour_X5 0 (sh_67 g T t GT A d G) rfl 3 (Nat.le_of_ble_eq_true rfl) kX5_latestByDetour_1 rfl ?_
  refine y_iload_n C dX5_latestByDetour_4 2 rfl rfl ?_
  refine y_callV (As := [.int ri]) (rest := []) C dX5_latestByDetour_5 (c_X3_at g (T 7) (T 8) 17 (t.1 3) (GT 3) ri (by decide)) rfl rfl rfl rfl ⟨Nat.le_of_ble_eq_true rfl, Nat.le_of_ble_eq_true rfl⟩ gX5_latestByDetour_X3_at (nA := 1) (by decide +kernel) rfl (rowW_recv ⟨_, rfl⟩) (Nat.le_of_ble_eq_true rfl) ⟨Nat.le_of_ble_eq_true rfl, Nat.le_of_ble_eq_true rfl⟩ [5] [0, 1, 2, 3, 4, 6, 7, 8, 9, 10, 11, 12, 13, 14, 15, 16, 17, 18] (nB := 19) rfl (by decide +kernel) (sh_85 g T t GT A d G) (fun r1 w9 hw => ?_)
  obtain ⟨er1, rfl⟩ := hw
  have h := y_letF h er1
  refine ⟨([tabC T t, dayC A d] ++ (tabR g T t GT ++ dayR g A d G) : List va_W), ⟨(sh_85 g T t GT A d G), rfl, rfl⟩, ?_⟩
  refine y_aload_n C dX5_latestByDetour_8 1 rfl rfl ?_
  refine y_get (Cn := RX0) (T := TX0) (N := 15) (v := .ref (A 1)) C dX5_latestByDetour_9 hX5_latestByDetour_X0 1 (sh_74 g T t GT A d G) rfl 0 (Nat.le_of_ble_eq_true rfl) kX5_latestByDetour_2 rfl ?_
  refine y_iconst (v := 2) C dX5_latestByDetour_12 (by decide) ?_
  refine y_callV (As := [.int (2 : Int32)]) (rest := [.int r1]) C dX5_latestByDetour_13 (c_X3_at g (A 1) (A 2) 3 (d.1 0) (G 0) (2 : Int32) (by decide)) rfl rfl rfl rfl ⟨Nat.le_of_ble_eq_true rfl, Nat.le_of_ble_eq_true rfl⟩ gX5_latestByDetour_X3_at (nA := 1) (by decide +kernel) rfl (rowW_recv ⟨_, rfl⟩) (Nat.le_of_ble_eq_true rfl) ⟨Nat.le_of_ble_eq_true rfl, Nat.le_of_ble_eq_true rfl⟩ [7] [0, 1, 2, 3, 4, 5, 6, 8, 9, 10, 11, 12, 13, 14, 15, 16, 17, 18] (nB := 19) rfl (by decide +kernel) (sh_86 g T t GT A d G) (fun r2 w9 hw => ?_)
  obtain ⟨er2, rfl⟩ := hw
  have h := y_letF h er2
  refine ⟨([tabC T t, dayC A d] ++ (tabR g T t GT ++ dayR g A d G) : List va_W), ⟨(sh_86 g T t GT A d G), rfl, rfl⟩, ?_⟩
  refine y_iadd C dX5_latestByDetour_16 ?_
  refine y_istore_n (lv' := [(3, .int (r1 + r2)), (0, .ref (T 0)), (1, .ref (A 0)), (2, .int ri)]) C dX5_latestByDetour_17 rfl (Nat.le_of_ble_eq_true rfl) rfl ?_
  refine y_iload_n C dX5_latestByDetour_18 0 rfl rfl ?_
  refine y_aload_n C dX5_latestByDetour_19 2 rfl rfl ?_
  refine y_get (Cn := RX0) (T := TX0) (N := 15) (v := .ref (A 15)) C dX5_latestByDetour_20 hX5_latestByDetour_X0 1 (sh_74 g T t GT A d G) rfl 7 (Nat.le_of_ble_eq_true rfl) kX5_latestByDetour_3 rfl ?_
  refine y_iload_n C dX5_latestByDetour_23 3 rfl rfl ?_
  refine y_callV (As := [.int ri]) (rest := [.int (r1 + r2)]) C dX5_latestByDetour_24 (c_X3_at g (A 15) (A 16) 17 (d.1 7) (G 7) ri (by decide)) rfl rfl rfl rfl ⟨Nat.le_of_ble_eq_true rfl, Nat.le_of_ble_eq_true rfl⟩ gX5_latestByDetour_X3_at (nA := 1) (by decide +kernel) rfl (rowW_recv ⟨_, rfl⟩) (Nat.le_of_ble_eq_true rfl) ⟨Nat.le_of_ble_eq_true rfl, Nat.le_of_ble_eq_true rfl⟩ [14] [0, 1, 2, 3, 4, 5, 6, 7, 8, 9, 10, 11, 12, 13, 15, 16, 17, 18] (nB := 19) rfl (by decide +kernel) (sh_87 g T t GT A d G) (fun r3 w9 hw => ?_)
  obtain ⟨er3, rfl⟩ := hw
  have h := y_letF h er3
  refine ⟨([tabC T t, dayC A d] ++ (tabR g T t GT ++ dayR g A d G) : List va_W), ⟨(sh_87 g T t GT A d G), rfl, rfl⟩, ?_⟩
  refine y_iadd C dX5_latestByDetour_27 ?_
  refine y_aload_n C dX5_latestByDetour_28 2 rfl rfl ?_
  refine y_get (Cn := RX0) (T := TX0) (N := 15) (v := .ref (A 1)) C dX5_latestByDetour_29 hX5_latestByDetour_X0 1 (sh_74 g T t GT A d G) rfl 0 (Nat.le_of_ble_eq_true rfl) kX5_latestByDetour_2 rfl ?_
  refine y_iconst (v := 1) C dX5_latestByDetour_32 (by decide) ?_
  refine y_callV (As := [.int (1 : Int32)]) (rest := [.int ((r1 + r2) + r3)]) C dX5_latestByDetour_33 (c_X3_at g (A 1) (A 2) 3 (d.1 0) (G 0) (1 : Int32) (by decide)) rfl rfl rfl rfl ⟨Nat.le_of_ble_eq_true rfl, Nat.le_of_ble_eq_true rfl⟩ gX5_latestByDetour_X3_at (nA := 1) (by decide +kernel) rfl (rowW_recv ⟨_, rfl⟩) (Nat.le_of_ble_eq_true rfl) ⟨Nat.le_of_ble_eq_true rfl, Nat.le_of_ble_eq_true rfl⟩ [7] [0, 1, 2, 3, 4, 5, 6, 8, 9, 10, 11, 12, 13, 14, 15, 16, 17, 18] (nB := 19) rfl (by decide +kernel) (sh_86 g T t GT A d G) (fun r4 w9 hw => ?_)
  obtain ⟨er4, rfl⟩ := hw
  have h := y_letF h er4
  refine ⟨([tabC T t, dayC A d] ++ (tabR g T t GT ++ dayR g A d G) : List va_W), ⟨(sh_86 g T t GT A d G), rfl, rfl⟩, ?_⟩
  refine y_iadd C dX5_latestByDetour_36 ?_
  exact HR 37 dX5_latestByDetour_37 (((r1 + r2) + r3) + r4) _ _ _ _ (rfl) (Nat.le_of_ble_eq_true rfl) (Nat.le_of_ble_eq_true rfl) ⟨by rw [h], rfl⟩
