theorem slF_nn : slF none none = fun _ => none := by
  funext j
  unfold slF odF
  split
  · rfl
  · split <;> rfl
theorem dX6_init_0 : decode cX6_init 0 = .ok (.aload_n 0, 1) := by decide +kernel
theorem dX6_init_1 : decode cX6_init 1 = .ok (.invokespecial 3, 3) := by decide +kernel
theorem dX6_init_4 : decode cX6_init 4 = .ok (.aload_n 0, 1) := by decide +kernel
theorem dX6_init_5 : decode cX6_init 5 = .ok (.new 9, 3) := by decide +kernel
theorem dX6_init_8 : decode cX6_init 8 = .ok (.dup, 1) := by decide +kernel
theorem dX6_init_9 : decode cX6_init 9 = .ok (.invokespecial 11, 3) := by decide +kernel
theorem dX6_init_12 : decode cX6_init 12 = .ok (.putfield 12, 3) := by decide +kernel
theorem dX6_init_15 : decode cX6_init 15 = .ok (.aload_n 0, 1) := by decide +kernel
theorem dX6_init_16 : decode cX6_init 16 = .ok (.new 16, 3) := by decide +kernel
theorem dX6_init_19 : decode cX6_init 19 = .ok (.dup, 1) := by decide +kernel
theorem dX6_init_20 : decode cX6_init 20 = .ok (.invokespecial 18, 3) := by decide +kernel
theorem dX6_init_23 : decode cX6_init 23 = .ok (.putfield 19, 3) := by decide +kernel
theorem dX6_init_26 : decode cX6_init 26 = .ok (.aload_n 0, 1) := by decide +kernel
theorem dX6_init_27 : decode cX6_init 27 = .ok (.new 23, 3) := by decide +kernel
theorem dX6_init_30 : decode cX6_init 30 = .ok (.dup, 1) := by decide +kernel
theorem dX6_init_31 : decode cX6_init 31 = .ok (.invokespecial 25, 3) := by decide +kernel
theorem dX6_init_34 : decode cX6_init 34 = .ok (.putfield 26, 3) := by decide +kernel
theorem dX6_init_37 : decode cX6_init 37 = .ok (.aload_n 0, 1) := by decide +kernel
theorem dX6_init_38 : decode cX6_init 38 = .ok (.new 30, 3) := by decide +kernel
theorem dX6_init_41 : decode cX6_init 41 = .ok (.dup, 1) := by decide +kernel
theorem dX6_init_42 : decode cX6_init 42 = .ok (.invokespecial 32, 3) := by decide +kernel
theorem dX6_init_45 : decode cX6_init 45 = .ok (.putfield 33, 3) := by decide +kernel
theorem dX6_init_48 : decode cX6_init 48 = .ok (.aload_n 0, 1) := by decide +kernel
theorem dX6_init_49 : decode cX6_init 49 = .ok (.new 37, 3) := by decide +kernel
theorem dX6_init_52 : decode cX6_init 52 = .ok (.dup, 1) := by decide +kernel
theorem dX6_init_53 : decode cX6_init 53 = .ok (.invokespecial 39, 3) := by decide +kernel
theorem dX6_init_56 : decode cX6_init 56 = .ok (.putfield 40, 3) := by decide +kernel
theorem dX6_init_59 : decode cX6_init 59 = .ok (.aload_n 0, 1) := by decide +kernel
theorem dX6_init_60 : decode cX6_init 60 = .ok (.iconst 2, 1) := by decide +kernel
theorem dX6_init_61 : decode cX6_init 61 = .ok (.anewarray 9, 3) := by decide +kernel
theorem dX6_init_64 : decode cX6_init 64 = .ok (.putfield 44, 3) := by decide +kernel
theorem dX6_init_67 : decode cX6_init 67 = .ok (.return_, 1) := by decide +kernel
set_option maxRecDepth 20000 in
theorem ggX6_init_X0_init : GoodIn wsX6_init wsX0_init := goodIn_r _ [27, 28, 2, 3, 29, 30, 31, 32, 33, 34, 35, 36, 37, 38, 39, 40, 41, 42, 43, 44, 45, 46, 47, 48, 49, 50, 51, 52, 53, 54, 55, 56, 57, 58, 59, 60, 61, 62, 137, 138, 93, 94, 95, 96, 97, 98, 99, 100, 101, 102, 103, 104, 105, 106, 107] (by decide +kernel) (by decide +kernel)
set_option maxRecDepth 20000 in
theorem gX6_init_X0_init : GoodIn wsX6_init (wsX0_init) := ggX6_init_X0_init
set_option maxRecDepth 20000 in
theorem ggX6_init_X5_init : GoodIn wsX6_init wsX5_init := goodIn_r _ [64, 65, 2, 3, 66, 30, 31, 67, 68, 69, 70, 71, 72, 45, 46, 47, 48, 49, 50, 51, 52, 53, 137, 138, 114, 115, 116, 117, 118, 119, 120, 121, 122, 123] (by decide +kernel) (by decide +kernel)
set_option maxRecDepth 20000 in
theorem gX6_init_X5_init_n18 : GoodIn wsX6_init (wsX5_init) := ggX6_init_X5_init
set_option maxRecDepth 20000 in
theorem ggX6_init_X4_init : GoodIn wsX6_init wsX4_init := goodIn_r _ [74, 75, 2, 3, 76, 5, 6, 77, 78, 9, 10, 79, 80, 26, 27, 28, 29, 30, 31, 32, 33, 34, 35, 36, 37, 38, 39, 40, 41, 42, 43, 44, 45, 46, 47, 48, 49, 50, 51, 52, 53, 54, 55, 56, 57, 58, 59, 60, 61, 62, 63, 64, 65, 66, 67, 68, 69, 70, 71, 72, 93, 94, 95, 96, 97, 98, 99, 100, 101, 102, 103, 104, 105, 106, 107, 124, 125, 126, 127, 128, 129, 130, 131, 132, 114, 115, 116, 117, 118, 119, 120, 121, 122, 123, 137, 138] (by decide +kernel) (by decide +kernel)
set_option maxRecDepth 20000 in
theorem gX6_init_X4_init_n25 : GoodIn wsX6_init (wsX4_init) := ggX6_init_X4_init
set_option maxRecDepth 20000 in
theorem ggX6_init_X2_init : GoodIn wsX6_init wsX2_init := goodIn_r _ [82, 83, 2, 3, 84, 30, 31, 85, 86, 87, 45, 46, 47, 48, 49, 50, 51, 52, 53, 137, 138, 133, 134] (by decide +kernel) (by decide +kernel)
set_option maxRecDepth 20000 in
theorem gX6_init_X2_init_n32 : GoodIn wsX6_init (wsX2_init) := ggX6_init_X2_init
set_option maxRecDepth 20000 in
theorem ggX6_init_X1_init : GoodIn wsX6_init wsX1_init := goodIn_r _ [89, 90, 2, 3, 91, 92, 135, 136] (by decide +kernel) (by decide +kernel)
set_option maxRecDepth 20000 in
theorem gX6_init_X1_init_n39 : GoodIn wsX6_init (wsX1_init) := ggX6_init_X1_init
theorem kX6_init_1 : Cond.methodLink RX6 3 objectInit ∈ wsX6_init := List.mem_of_getElem? (i := 1) (by decide +kernel)
theorem kX6_init_2 : Cond.instanceMethod objectInit ∈ wsX6_init := List.mem_of_getElem? (i := 2) (by decide +kernel)
theorem kX6_init_3 : Cond.code objectInit ⟨#[0xb1]⟩ 1 none ∈ wsX6_init := List.mem_of_getElem? (i := 3) (by decide +kernel)
theorem kX6_init_4 : Cond.classLink RX6 9 RX0 ∈ wsX6_init := List.mem_of_getElem? (i := 4) (by decide +kernel)
theorem kX6_init_5 : Cond.instantiable RX0 15 ∈ wsX6_init := List.mem_of_getElem? (i := 5) (by decide +kernel)
theorem kX6_init_6 : Cond.initialized RX0 ∈ wsX6_init := List.mem_of_getElem? (i := 6) (by decide +kernel)
theorem kX6_init_26 : Cond.instanceMethod yX0_init ∈ wsX6_init := List.mem_of_getElem? (i := 26) (by decide +kernel)
theorem kX6_init_25 : Cond.methodLink RX6 11 yX0_init ∈ wsX6_init := List.mem_of_getElem? (i := 25) (by decide +kernel)
theorem kX6_init_7 : Cond.fieldLink RX6 12 "BookedDetours" "day" "LBookedDetours$Day;" ∈ wsX6_init := List.mem_of_getElem? (i := 7) (by decide +kernel)
theorem kX6_init_8 : Cond.classLink RX6 16 RX5 ∈ wsX6_init := List.mem_of_getElem? (i := 8) (by decide +kernel)
theorem kX6_init_9 : Cond.instantiable RX5 10 ∈ wsX6_init := List.mem_of_getElem? (i := 9) (by decide +kernel)
theorem kX6_init_10 : Cond.initialized RX5 ∈ wsX6_init := List.mem_of_getElem? (i := 10) (by decide +kernel)
theorem kX6_init_63 : Cond.instanceMethod yX5_init ∈ wsX6_init := List.mem_of_getElem? (i := 63) (by decide +kernel)
theorem kX6_init_11 : Cond.fieldLink RX6 19 "BookedDetours" "table" "LBookedDetours$Timetable;" ∈ wsX6_init := List.mem_of_getElem? (i := 11) (by decide +kernel)
theorem kX6_init_12 : Cond.classLink RX6 23 RX4 ∈ wsX6_init := List.mem_of_getElem? (i := 12) (by decide +kernel)
theorem kX6_init_13 : Cond.instantiable RX4 9 ∈ wsX6_init := List.mem_of_getElem? (i := 13) (by decide +kernel)
theorem kX6_init_14 : Cond.initialized RX4 ∈ wsX6_init := List.mem_of_getElem? (i := 14) (by decide +kernel)
theorem kX6_init_73 : Cond.instanceMethod yX4_init ∈ wsX6_init := List.mem_of_getElem? (i := 73) (by decide +kernel)
theorem kX6_init_15 : Cond.fieldLink RX6 26 "BookedDetours" "search" "LBookedDetours$Search;" ∈ wsX6_init := List.mem_of_getElem? (i := 15) (by decide +kernel)
theorem kX6_init_16 : Cond.classLink RX6 30 RX2 ∈ wsX6_init := List.mem_of_getElem? (i := 16) (by decide +kernel)
theorem kX6_init_17 : Cond.instantiable RX2 2 ∈ wsX6_init := List.mem_of_getElem? (i := 17) (by decide +kernel)
theorem kX6_init_18 : Cond.initialized RX2 ∈ wsX6_init := List.mem_of_getElem? (i := 18) (by decide +kernel)
theorem kX6_init_81 : Cond.instanceMethod yX2_init ∈ wsX6_init := List.mem_of_getElem? (i := 81) (by decide +kernel)
theorem kX6_init_19 : Cond.fieldLink RX6 33 "BookedDetours" "pad" "LBookedDetours$Pad;" ∈ wsX6_init := List.mem_of_getElem? (i := 19) (by decide +kernel)
theorem kX6_init_20 : Cond.classLink RX6 37 RX1 ∈ wsX6_init := List.mem_of_getElem? (i := 20) (by decide +kernel)
theorem kX6_init_21 : Cond.instantiable RX1 2 ∈ wsX6_init := List.mem_of_getElem? (i := 21) (by decide +kernel)
theorem kX6_init_22 : Cond.initialized RX1 ∈ wsX6_init := List.mem_of_getElem? (i := 22) (by decide +kernel)
theorem kX6_init_88 : Cond.instanceMethod yX1_init ∈ wsX6_init := List.mem_of_getElem? (i := 88) (by decide +kernel)
theorem kX6_init_23 : Cond.fieldLink RX6 40 "BookedDetours" "history" "LBookedDetours$History;" ∈ wsX6_init := List.mem_of_getElem? (i := 23) (by decide +kernel)
theorem kX6_init_24 : Cond.fieldLink RX6 44 "BookedDetours" "slots" "[LBookedDetours$Day;" ∈ wsX6_init := List.mem_of_getElem? (i := 24) (by decide +kernel)
theorem hX6_init_X0 : ∀ w ∈ u_ws RX0 TX0 15, w ∈ wsX6_init := fun _ h => List.mem_cons_of_mem _ (List.mem_append_left _ (List.mem_append_left _ (List.mem_append_left _ (List.mem_append_left _ (List.mem_append_left _ (List.mem_append_left _ (List.mem_append_right _ h)))))))
theorem hX6_init_X6 : ∀ w ∈ u_ws RX6 TX6 6, w ∈ wsX6_init := fun _ h => List.mem_cons_of_mem _ (List.mem_append_left _ (List.mem_append_left _ (List.mem_append_left _ (List.mem_append_left _ (List.mem_append_left _ (List.mem_append_right _ h))))))
theorem hX6_init_X5 : ∀ w ∈ u_ws RX5 TX5 10, w ∈ wsX6_init := fun _ h => List.mem_cons_of_mem _ (List.mem_append_left _ (List.mem_append_left _ (List.mem_append_left _ (List.mem_append_left _ (List.mem_append_right _ h)))))
theorem hX6_init_X4 : ∀ w ∈ u_ws RX4 TX4 9, w ∈ wsX6_init := fun _ h => List.mem_cons_of_mem _ (List.mem_append_left _ (List.mem_append_left _ (List.mem_append_left _ (List.mem_append_right _ h))))
theorem hX6_init_X2 : ∀ w ∈ u_ws RX2 TX2 2, w ∈ wsX6_init := fun _ h => List.mem_cons_of_mem _ (List.mem_append_left _ (List.mem_append_left _ (List.mem_append_right _ h)))
theorem hX6_init_X1 : ∀ w ∈ u_ws RX1 TX1 2, w ∈ wsX6_init := fun _ h => List.mem_cons_of_mem _ (List.mem_append_left _ (List.mem_append_right _ h))
set_option maxHeartbeats 4000000 in
set_option maxRecDepth 100000 in
theorem c_X6_init (g : yG) (h0 : Nat) : yMv g yX6_init wsX6_init ({ frames := 4, cells := 81, slots := 900, locals := 84 } : Room) [.ref h0] ([[(h0, .inr (6, [.null, .null, .null, .null, .null, .null]))]] : List va_W) (fun w => ∃ (A : Nat → Nat) (G : Nat → Nat → Int32) (T : Nat → Nat) (GT : Nat → Nat → Int32) (s : Nat) (SA : Nat → Nat) (SG : Nat → Nat → Int32) (ST : Nat → Nat) (SGT : Nat → Nat → Int32) (P : Nat → Nat) (GP : Nat → Nat → Int32) (hst arr sl : Nat), w = ([mnC h0 (A 0) (T 0) s (P 0) hst sl, dayW g A D0 G, tabW g T T0 GT, seaB g s SA SG ST SGT, padW g P T0 GP, histW g hst arr [] [], slW g sl none none] : List va_W)) 81 900 := by
  refine y_entryV (cc := cX6_init) (maxL := 1) (by decide +kernel) rfl (Nat.le_of_ble_eq_true rfl) (fun Z C HI HR => ?_)
  have HI : yIn Z := HI rfl
  have C : yC Z g cX6_init 1 wsX6_init RX6 := C
  show yJ Z _ 0 0 _ 0 [(0, .ref h0)] []
  refine y_aload_n C dX6_init_0 0 rfl rfl ?_
  refine y_objInit C dX6_init_1 kX6_init_1 kX6_init_2 kX6_init_3 (Nat.le_of_ble_eq_true rfl) (Nat.le_of_ble_eq_true rfl) ?_
  refine y_aload_n C dX6_init_4 0 rfl rfl ?_
  refine y_new (Cn := RX0) (T := TX0) (N := 15) (ci := 0) (fs := [.null, .null, .null, .null, .null, .null, .null, .null, .null, .null, .null, .null, .int 0, .int 0, .int 0]) (ty0 := tyX0) C dX6_init_5 hX6_init_X0 tyX0_ok kX6_init_4 kX6_init_5 kX6_init_6 rfl (fun j hj => by rcases (show j = 0 ∨ j = 1 ∨ j = 2 ∨ j = 3 ∨ j = 4 ∨ j = 5 ∨ j = 6 ∨ j = 7 ∨ j = 8 ∨ j = 9 ∨ j = 10 ∨ j = 11 ∨ j = 12 ∨ j = 13 ∨ j = 14 by omega) with rfl | rfl | rfl | rfl | rfl | rfl | rfl | rfl | rfl | rfl | rfl | rfl | rfl | rfl | rfl <;> rfl) (Nat.le_of_ble_eq_true rfl) (Nat.le_of_ble_eq_true rfl) (fun q1 => ?_)
  refine y_world (L1 := ([[(h0, .inr (6, [.null, .null, .null, .null, .null, .null]))], [(q1, .inr (0, [.null, .null, .null, .null, .null, .null, .null, .null, .null, .null, .null, .null, .int 0, .int 0, .int 0]))]] : List va_W)) rfl ?_
  refine y_dup C dX6_init_8 rfl ?_
  refine y_callI (As := []) (rest := [.ref q1, .ref h0]) C dX6_init_9 (c_X0_init g q1) rfl rfl rfl rfl ⟨Nat.le_of_ble_eq_true rfl, Nat.le_of_ble_eq_true rfl⟩ gX6_init_X0_init kX6_init_25 kX6_init_6 kX6_init_26 rfl (nA := 0) (by decide +kernel) rfl (Nat.le_of_ble_eq_true rfl) ⟨Nat.le_of_ble_eq_true rfl, Nat.le_of_ble_eq_true rfl⟩ [1] [0] (nB := 2) rfl (by decide +kernel) rfl (fun w9 hw => ?_)
  obtain ⟨A2, G3, rfl, rfl⟩ := hw
  refine ⟨([[(h0, .inr (6, [.null, .null, .null, .null, .null, .null]))], dayW g A2 D0 G3] : List va_W), ⟨rfl, Eq.trans (b := ([[(h0, .inr (6, [.null, .null, .null, .null, .null, .null]))]] : List va_W)) rfl rfl, rfl⟩, ?_⟩
  refine y_putF (Cn := RX6) (T := TX6) (N := 6) (v := .ref (A2 0)) (ty0 := tyX6) (L1 := ([[(h0, .inr (6, [.ref (A2 0), .null, .null, .null, .null, .null]))], dayW g A2 D0 G3] : List va_W)) C dX6_init_12 hX6_init_X6 0 rfl rfl 0 (Nat.le_of_ble_eq_true rfl) kX6_init_7 tyX6_ok nmX6 rfl HI rfl rfl rfl (Nat.le_of_ble_eq_true rfl) rfl ?_
  refine y_aload_n C dX6_init_15 0 rfl rfl ?_
  refine y_new (Cn := RX5) (T := TX5) (N := 10) (ci := 5) (fs := [.null, .null, .null, .null, .null, .int 0, .int 0, .int 0, .int 0, .int 0]) (ty0 := tyX5) C dX6_init_16 hX6_init_X5 tyX5_ok kX6_init_8 kX6_init_9 kX6_init_10 rfl (fun j hj => by rcases (show j = 0 ∨ j = 1 ∨ j = 2 ∨ j = 3 ∨ j = 4 ∨ j = 5 ∨ j = 6 ∨ j = 7 ∨ j = 8 ∨ j = 9 by omega) with rfl | rfl | rfl | rfl | rfl | rfl | rfl | rfl | rfl | rfl <;> rfl) (Nat.le_of_ble_eq_true rfl) (Nat.le_of_ble_eq_true rfl) (fun q4 => ?_)
  refine y_world (L1 := ([[(h0, .inr (6, [.ref (A2 0), .null, .null, .null, .null, .null]))], dayW g A2 D0 G3, [(q4, .inr (5, [.null, .null, .null, .null, .null, .int 0, .int 0, .int 0, .int 0, .int 0]))]] : List va_W)) rfl ?_
  refine y_dup C dX6_init_19 rfl ?_
  refine y_callIN (host := RX6) (As := []) (rest := [.ref q4, .ref h0]) C dX6_init_20 (c_X5_init g q4) rfl rfl rfl rfl ⟨Nat.le_of_ble_eq_true rfl, Nat.le_of_ble_eq_true rfl⟩ gX6_init_X5_init_n18 (List.mem_of_getElem? (i := 0) rfl) kX6_init_10 kX6_init_63 rfl (nA := 0) (by decide +kernel) rfl (Nat.le_of_ble_eq_true rfl) ⟨Nat.le_of_ble_eq_true rfl, Nat.le_of_ble_eq_true rfl⟩ [2] [0, 1] (nB := 3) rfl (by decide +kernel) rfl (fun w9 hw => ?_)
  obtain ⟨A5, G6, rfl, rfl⟩ := hw
  refine ⟨([[(h0, .inr (6, [.ref (A2 0), .null, .null, .null, .null, .null]))], dayW g A2 D0 G3, tabW g A5 T0 G6] : List va_W), ⟨rfl, Eq.trans (b := ([[(h0, .inr (6, [.ref (A2 0), .null, .null, .null, .null, .null]))], dayW g A2 D0 G3] : List va_W)) rfl rfl, rfl⟩, ?_⟩
  refine y_putF (Cn := RX6) (T := TX6) (N := 6) (v := .ref (A5 0)) (ty0 := tyX6) (L1 := ([[(h0, .inr (6, [.ref (A2 0), .ref (A5 0), .null, .null, .null, .null]))], dayW g A2 D0 G3, tabW g A5 T0 G6] : List va_W)) C dX6_init_23 hX6_init_X6 0 rfl rfl 1 (Nat.le_of_ble_eq_true rfl) kX6_init_11 tyX6_ok nmX6 rfl HI rfl rfl rfl (Nat.le_of_ble_eq_true rfl) rfl ?_
  refine y_aload_n C dX6_init_26 0 rfl rfl ?_
  refine y_new (Cn := RX4) (T := TX4) (N := 9) (ci := 4) (fs := [.null, .null, .int 0, .int 0, .int 0, .int 0, .int 0, .int 0, .int 0]) (ty0 := tyX4) C dX6_init_27 hX6_init_X4 tyX4_ok kX6_init_12 kX6_init_13 kX6_init_14 rfl (fun j hj => by rcases (show j = 0 ∨ j = 1 ∨ j = 2 ∨ j = 3 ∨ j = 4 ∨ j = 5 ∨ j = 6 ∨ j = 7 ∨ j = 8 by omega) with rfl | rfl | rfl | rfl | rfl | rfl | rfl | rfl | rfl <;> rfl) (Nat.le_of_ble_eq_true rfl) (Nat.le_of_ble_eq_true rfl) (fun q7 => ?_)
  refine y_world (L1 := ([[(h0, .inr (6, [.ref (A2 0), .ref (A5 0), .null, .null, .null, .null]))], dayW g A2 D0 G3, tabW g A5 T0 G6, [(q7, .inr (4, [.null, .null, .int 0, .int 0, .int 0, .int 0, .int 0, .int 0, .int 0]))]] : List va_W)) rfl ?_
  refine y_dup C dX6_init_30 rfl ?_
  refine y_callIN (host := RX6) (As := []) (rest := [.ref q7, .ref h0]) C dX6_init_31 (c_X4_init g q7) rfl rfl rfl rfl ⟨Nat.le_of_ble_eq_true rfl, Nat.le_of_ble_eq_true rfl⟩ gX6_init_X4_init_n25 (List.mem_of_getElem? (i := 1) rfl) kX6_init_14 kX6_init_73 rfl (nA := 0) (by decide +kernel) rfl (Nat.le_of_ble_eq_true rfl) ⟨Nat.le_of_ble_eq_true rfl, Nat.le_of_ble_eq_true rfl⟩ [3] [0, 1, 2] (nB := 4) rfl (by decide +kernel) rfl (fun w9 hw => ?_)
  obtain ⟨SA8, SG9, ST10, SGT11, rfl⟩ := hw
  refine ⟨([[(h0, .inr (6, [.ref (A2 0), .ref (A5 0), .null, .null, .null, .null]))], dayW g A2 D0 G3, tabW g A5 T0 G6, seaB g q7 SA8 SG9 ST10 SGT11] : List va_W), ⟨rfl, Eq.trans (b := ([[(h0, .inr (6, [.ref (A2 0), .ref (A5 0), .null, .null, .null, .null]))], dayW g A2 D0 G3, tabW g A5 T0 G6] : List va_W)) rfl rfl, rfl⟩, ?_⟩
  refine y_putF (Cn := RX6) (T := TX6) (N := 6) (v := .ref q7) (ty0 := tyX6) (L1 := ([[(h0, .inr (6, [.ref (A2 0), .ref (A5 0), .ref q7, .null, .null, .null]))], dayW g A2 D0 G3, tabW g A5 T0 G6, seaB g q7 SA8 SG9 ST10 SGT11] : List va_W)) C dX6_init_34 hX6_init_X6 0 rfl rfl 2 (Nat.le_of_ble_eq_true rfl) kX6_init_15 tyX6_ok nmX6 rfl HI rfl rfl rfl (Nat.le_of_ble_eq_true rfl) rfl ?_
  refine y_aload_n C dX6_init_37 0 rfl rfl ?_
  refine y_new (Cn := RX2) (T := TX2) (N := 2) (ci := 2) (fs := [.null, .null]) (ty0 := tyX2) C dX6_init_38 hX6_init_X2 tyX2_ok kX6_init_16 kX6_init_17 kX6_init_18 rfl (fun j hj => by rcases (show j = 0 ∨ j = 1 by omega) with rfl | rfl <;> rfl) (Nat.le_of_ble_eq_true rfl) (Nat.le_of_ble_eq_true rfl) (fun q12 => ?_)
  refine y_world (L1 := ([[(h0, .inr (6, [.ref (A2 0), .ref (A5 0), .ref q7, .null, .null, .null]))], dayW g A2 D0 G3, tabW g A5 T0 G6, seaB g q7 SA8 SG9 ST10 SGT11, [(q12, .inr (2, [.null, .null]))]] : List va_W)) rfl ?_
  refine y_dup C dX6_init_41 rfl ?_
  refine y_callIN (host := RX6) (As := []) (rest := [.ref q12, .ref h0]) C dX6_init_42 (c_X2_init g q12) rfl rfl rfl rfl ⟨Nat.le_of_ble_eq_true rfl, Nat.le_of_ble_eq_true rfl⟩ gX6_init_X2_init_n32 (List.mem_of_getElem? (i := 2) rfl) kX6_init_18 kX6_init_81 rfl (nA := 0) (by decide +kernel) rfl (Nat.le_of_ble_eq_true rfl) ⟨Nat.le_of_ble_eq_true rfl, Nat.le_of_ble_eq_true rfl⟩ [4] [0, 1, 2, 3] (nB := 5) rfl (by decide +kernel) rfl (fun w9 hw => ?_)
  obtain ⟨A13, G14, rfl, rfl⟩ := hw
  refine ⟨([[(h0, .inr (6, [.ref (A2 0), .ref (A5 0), .ref q7, .null, .null, .null]))], dayW g A2 D0 G3, tabW g A5 T0 G6, seaB g q7 SA8 SG9 ST10 SGT11, padW g A13 T0 G14] : List va_W), ⟨rfl, Eq.trans (b := ([[(h0, .inr (6, [.ref (A2 0), .ref (A5 0), .ref q7, .null, .null, .null]))], dayW g A2 D0 G3, tabW g A5 T0 G6, seaB g q7 SA8 SG9 ST10 SGT11] : List va_W)) rfl rfl, rfl⟩, ?_⟩
  refine y_putF (Cn := RX6) (T := TX6) (N := 6) (v := .ref (A13 0)) (ty0 := tyX6) (L1 := ([[(h0, .inr (6, [.ref (A2 0), .ref (A5 0), .ref q7, .ref (A13 0), .null, .null]))], dayW g A2 D0 G3, tabW g A5 T0 G6, seaB g q7 SA8 SG9 ST10 SGT11, padW g A13 T0 G14] : List va_W)) C dX6_init_45 hX6_init_X6 0 rfl rfl 3 (Nat.le_of_ble_eq_true rfl) kX6_init_19 tyX6_ok nmX6 rfl HI rfl rfl rfl (Nat.le_of_ble_eq_true rfl) rfl ?_
  refine y_aload_n C dX6_init_48 0 rfl rfl ?_
  refine y_new (Cn := RX1) (T := TX1) (N := 2) (ci := 1) (fs := [.null, .int 0]) (ty0 := tyX1) C dX6_init_49 hX6_init_X1 tyX1_ok kX6_init_20 kX6_init_21 kX6_init_22 rfl (fun j hj => by rcases (show j = 0 ∨ j = 1 by omega) with rfl | rfl <;> rfl) (Nat.le_of_ble_eq_true rfl) (Nat.le_of_ble_eq_true rfl) (fun q15 => ?_)
  refine y_world (L1 := ([[(h0, .inr (6, [.ref (A2 0), .ref (A5 0), .ref q7, .ref (A13 0), .null, .null]))], dayW g A2 D0 G3, tabW g A5 T0 G6, seaB g q7 SA8 SG9 ST10 SGT11, padW g A13 T0 G14, [(q15, .inr (1, [.null, .int 0]))]] : List va_W)) rfl ?_
  refine y_dup C dX6_init_52 rfl ?_
  refine y_callIN (host := RX6) (As := []) (rest := [.ref q15, .ref h0]) C dX6_init_53 (c_X1_init g q15) rfl rfl rfl rfl ⟨Nat.le_of_ble_eq_true rfl, Nat.le_of_ble_eq_true rfl⟩ gX6_init_X1_init_n39 (List.mem_of_getElem? (i := 3) rfl) kX6_init_22 kX6_init_88 rfl (nA := 0) (by decide +kernel) rfl (Nat.le_of_ble_eq_true rfl) ⟨Nat.le_of_ble_eq_true rfl, Nat.le_of_ble_eq_true rfl⟩ [5] [0, 1, 2, 3, 4] (nB := 6) rfl (by decide +kernel) rfl (fun w9 hw => ?_)
  obtain ⟨arr16, rfl⟩ := hw
  refine ⟨([[(h0, .inr (6, [.ref (A2 0), .ref (A5 0), .ref q7, .ref (A13 0), .null, .null]))], dayW g A2 D0 G3, tabW g A5 T0 G6, seaB g q7 SA8 SG9 ST10 SGT11, padW g A13 T0 G14, histW g q15 arr16 [] []] : List va_W), ⟨rfl, Eq.trans (b := ([[(h0, .inr (6, [.ref (A2 0), .ref (A5 0), .ref q7, .ref (A13 0), .null, .null]))], dayW g A2 D0 G3, tabW g A5 T0 G6, seaB g q7 SA8 SG9 ST10 SGT11, padW g A13 T0 G14] : List va_W)) rfl rfl, rfl⟩, ?_⟩
  refine y_putF (Cn := RX6) (T := TX6) (N := 6) (v := .ref q15) (ty0 := tyX6) (L1 := ([[(h0, .inr (6, [.ref (A2 0), .ref (A5 0), .ref q7, .ref (A13 0), .ref q15, .null]))], dayW g A2 D0 G3, tabW g A5 T0 G6, seaB g q7 SA8 SG9 ST10 SGT11, padW g A13 T0 G14, histW g q15 arr16 [] []] : List va_W)) C dX6_init_56 hX6_init_X6 0 rfl rfl 4 (Nat.le_of_ble_eq_true rfl) kX6_init_23 tyX6_ok nmX6 rfl HI rfl rfl rfl (Nat.le_of_ble_eq_true rfl) rfl ?_
  refine y_aload_n C dX6_init_59 0 rfl rfl ?_
  refine y_iconst (v := 2) C dX6_init_60 (by decide) ?_
  refine y_anew (N := 2) C dX6_init_61 kX6_init_4 (by decide) (by decide) (Nat.le_of_ble_eq_true rfl) (Nat.le_of_ble_eq_true rfl) (fun q17 => ?_)
  refine y_world (L1 := ([[(h0, .inr (6, [.ref (A2 0), .ref (A5 0), .ref q7, .ref (A13 0), .ref q15, .null]))], dayW g A2 D0 G3, tabW g A5 T0 G6, seaB g q7 SA8 SG9 ST10 SGT11, padW g A13 T0 G14, histW g q15 arr16 [] [], [(q17, .inl (g.2.2.2.2, 2, .inr (.inr (.inr (.inr (fun _ => none))))))]] : List va_W)) rfl ?_
  refine y_putF (Cn := RX6) (T := TX6) (N := 6) (v := .ref q17) (ty0 := tyX6) (L1 := ([[(h0, .inr (6, [.ref (A2 0), .ref (A5 0), .ref q7, .ref (A13 0), .ref q15, .ref q17]))], dayW g A2 D0 G3, tabW g A5 T0 G6, seaB g q7 SA8 SG9 ST10 SGT11, padW g A13 T0 G14, histW g q15 arr16 [] [], [(q17, .inl (g.2.2.2.2, 2, .inr (.inr (.inr (.inr (fun _ => none))))))]] : List va_W)) C dX6_init_64 hX6_init_X6 0 rfl rfl 5 (Nat.le_of_ble_eq_true rfl) kX6_init_24 tyX6_ok nmX6 rfl HI rfl rfl rfl (Nat.le_of_ble_eq_true rfl) rfl ?_
  refine y_world (L1 := ([mnC h0 (A2 0) (A5 0) q7 (A13 0) q15 q17, dayW g A2 D0 G3, tabW g A5 T0 G6, seaB g q7 SA8 SG9 ST10 SGT11, padW g A13 T0 G14, histW g q15 arr16 [] [], slW g q17 none none] : List va_W)) ?_ ?_
  · rw [show slW g q17 none none = [(q17, .inl (g.2.2.2.2, 2, .inr (.inr (.inr (.inr (fun _ => none))))))] by rw [slW, slF_nn]; rfl]
    rfl
  · exact HR 67 dX6_init_67 _ _ _ _ (Nat.le_of_ble_eq_true rfl) (Nat.le_of_ble_eq_true rfl) ⟨_, _, _, _, _, _, _, _, _, _, _, _, _, _, rfl⟩
