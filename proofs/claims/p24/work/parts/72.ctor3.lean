theorem hOk_nil : hOk [] [] := ⟨Nat.le_refl _, Nat.zero_le _, rfl⟩
theorem rmF_nil : rmF [] = fun _ => none := by
  funext j
  unfold rmF
  simp
theorem dX1_init_0 : decode cX1_init 0 = .ok (.aload_n 0, 1) := by decide +kernel
theorem dX1_init_1 : decode cX1_init 1 = .ok (.invokespecial 3, 3) := by decide +kernel
theorem dX1_init_4 : decode cX1_init 4 = .ok (.aload_n 0, 1) := by decide +kernel
theorem dX1_init_5 : decode cX1_init 5 = .ok (.bipush 6, 2) := by decide +kernel
theorem dX1_init_7 : decode cX1_init 7 = .ok (.anewarray 9, 3) := by decide +kernel
theorem dX1_init_10 : decode cX1_init 10 = .ok (.putfield 11, 3) := by decide +kernel
theorem dX1_init_13 : decode cX1_init 13 = .ok (.return_, 1) := by decide +kernel
theorem kX1_init_1 : Cond.methodLink RX1 3 objectInit ∈ wsX1_init := List.mem_of_getElem? (i := 1) (by decide +kernel)
theorem kX1_init_2 : Cond.instanceMethod objectInit ∈ wsX1_init := List.mem_of_getElem? (i := 2) (by decide +kernel)
theorem kX1_init_3 : Cond.code objectInit ⟨#[0xb1]⟩ 1 none ∈ wsX1_init := List.mem_of_getElem? (i := 3) (by decide +kernel)
theorem kX1_init_4 : Cond.classLink RX1 9 RX0 ∈ wsX1_init := List.mem_of_getElem? (i := 4) (by decide +kernel)
theorem kX1_init_5 : Cond.fieldLink RX1 11 "BookedDetours$History" "days" "[LBookedDetours$Day;" ∈ wsX1_init := List.mem_of_getElem? (i := 5) (by decide +kernel)
theorem hX1_init_X1 : ∀ w ∈ u_ws RX1 TX1 2, w ∈ wsX1_init := fun _ h => List.mem_cons_of_mem _ (List.mem_append_right _ h)
set_option maxHeartbeats 4000000 in
set_option maxRecDepth 100000 in
theorem c_X1_init (g : yG) (h0 : Nat) : yMv g yX1_init wsX1_init ({ frames := 1, cells := 1, slots := 6, locals := 20 } : Room) [.ref h0] ([[(h0, .inr (1, [.null, .int 0]))]] : List va_W) (fun w => ∃ arr : Nat, w = ([histW g h0 arr [] []] : List va_W)) 1 6 := by
  refine y_entryV (cc := cX1_init) (maxL := 1) (by decide +kernel) rfl (Nat.le_of_ble_eq_true rfl) (fun Z C HI HR => ?_)
  have HI : yIn Z := HI rfl
  have C : yC Z g cX1_init 1 wsX1_init RX1 := C
  show yJ Z _ 0 0 _ 0 [(0, .ref h0)] []
  refine y_aload_n C dX1_init_0 0 rfl rfl ?_
  refine y_objInit C dX1_init_1 kX1_init_1 kX1_init_2 kX1_init_3 (Nat.le_of_ble_eq_true rfl) (Nat.le_of_ble_eq_true rfl) ?_
  refine y_aload_n C dX1_init_4 0 rfl rfl ?_
  refine y_bipush (v := 6) C dX1_init_5 (by decide) ?_
  refine y_anew (N := 6) C dX1_init_7 kX1_init_4 (by decide) (by decide) (Nat.le_of_ble_eq_true rfl) (Nat.le_of_ble_eq_true rfl) (fun q1 => ?_)
  refine y_world (L1 := ([[(h0, .inr (1, [.null, .int 0]))], [(q1, .inl (g.2.2.2.2, 6, .inr (.inr (.inr (.inr (fun _ => none))))))]] : List va_W)) rfl ?_
  refine y_putF (Cn := RX1) (T := TX1) (N := 2) (v := .ref q1) (ty0 := tyX1) (L1 := ([[(h0, .inr (1, [.ref q1, .int 0]))], [(q1, .inl (g.2.2.2.2, 6, .inr (.inr (.inr (.inr (fun _ => none))))))]] : List va_W)) C dX1_init_10 hX1_init_X1 0 rfl rfl 0 (Nat.le_of_ble_eq_true rfl) kX1_init_5 tyX1_ok nmX1 rfl HI rfl rfl rfl (Nat.le_of_ble_eq_true rfl) rfl ?_
  refine y_world (L1 := ([histW g h0 q1 [] []] : List va_W)) ?_ ?_
  · rw [List.flatten_singleton, histW_pos hOk_nil, rmF_nil]
    simp [hcC, acC, rmW, nI]
  · exact HR 13 dX1_init_13 _ _ _ _ (Nat.le_of_ble_eq_true rfl) (Nat.le_of_ble_eq_true rfl) ⟨_, rfl⟩
def seaB (g : yG) (s : Nat) (A : Nat → Nat) (G : Nat → Nat → Int32) (T : Nat → Nat) (GT : Nat → Nat → Int32) : va_W := seaC s (A 0) (T 0) T0 ++ (dayW g A D0 G ++ tabW g T T0 GT)
theorem dX4_init_0 : decode cX4_init 0 = .ok (.aload_n 0, 1) := by decide +kernel
theorem dX4_init_1 : decode cX4_init 1 = .ok (.invokespecial 1, 3) := by decide +kernel
theorem dX4_init_4 : decode cX4_init 4 = .ok (.aload_n 0, 1) := by decide +kernel
theorem dX4_init_5 : decode cX4_init 5 = .ok (.new 7, 3) := by decide +kernel
theorem dX4_init_8 : decode cX4_init 8 = .ok (.dup, 1) := by decide +kernel
theorem dX4_init_9 : decode cX4_init 9 = .ok (.invokespecial 9, 3) := by decide +kernel
theorem dX4_init_12 : decode cX4_init 12 = .ok (.putfield 10, 3) := by decide +kernel
theorem dX4_init_15 : decode cX4_init 15 = .ok (.aload_n 0, 1) := by decide +kernel
theorem dX4_init_16 : decode cX4_init 16 = .ok (.new 16, 3) := by decide +kernel
theorem dX4_init_19 : decode cX4_init 19 = .ok (.dup, 1) := by decide +kernel
theorem dX4_init_20 : decode cX4_init 20 = .ok (.invokespecial 18, 3) := by decide +kernel
theorem dX4_init_23 : decode cX4_init 23 = .ok (.putfield 19, 3) := by decide +kernel
theorem dX4_init_26 : decode cX4_init 26 = .ok (.return_, 1) := by decide +kernel
set_option maxRecDepth 20000 in
theorem ggX4_init_X0_init : GoodIn wsX4_init wsX0_init := goodIn_r _ [14, 15, 2, 3, 16, 17, 18, 19, 20, 21, 22, 23, 24, 25, 26, 27, 28, 29, 30, 31, 32, 33, 34, 35, 36, 37, 38, 39, 40, 41, 42, 43, 44, 45, 46, 47, 48, 49, 94, 95, 60, 61, 62, 63, 64, 65, 66, 67, 68, 69, 70, 71, 72, 73, 74] (by decide +kernel) (by decide +kernel)
set_option maxRecDepth 20000 in
theorem gX4_init_X0_init : GoodIn wsX4_init (wsX0_init) := ggX4_init_X0_init
set_option maxRecDepth 20000 in
theorem ggX4_init_X5_init : GoodIn wsX4_init wsX5_init := goodIn_r _ [51, 52, 2, 3, 53, 17, 18, 54, 55, 56, 57, 58, 59, 32, 33, 34, 35, 36, 37, 38, 39, 40, 94, 95, 84, 85, 86, 87, 88, 89, 90, 91, 92, 93] (by decide +kernel) (by decide +kernel)
set_option maxRecDepth 20000 in
theorem gX4_init_X5_init_n18 : GoodIn wsX4_init (wsX5_init) := ggX4_init_X5_init
theorem kX4_init_1 : Cond.methodLink RX4 1 objectInit ∈ wsX4_init := List.mem_of_getElem? (i := 1) (by decide +kernel)
theorem kX4_init_2 : Cond.instanceMethod objectInit ∈ wsX4_init := List.mem_of_getElem? (i := 2) (by decide +kernel)
theorem kX4_init_3 : Cond.code objectInit ⟨#[0xb1]⟩ 1 none ∈ wsX4_init := List.mem_of_getElem? (i := 3) (by decide +kernel)
theorem kX4_init_4 : Cond.classLink RX4 7 RX0 ∈ wsX4_init := List.mem_of_getElem? (i := 4) (by decide +kernel)
theorem kX4_init_5 : Cond.instantiable RX0 15 ∈ wsX4_init := List.mem_of_getElem? (i := 5) (by decide +kernel)
theorem kX4_init_6 : Cond.initialized RX0 ∈ wsX4_init := List.mem_of_getElem? (i := 6) (by decide +kernel)
theorem kX4_init_13 : Cond.instanceMethod yX0_init ∈ wsX4_init := List.mem_of_getElem? (i := 13) (by decide +kernel)
theorem kX4_init_12 : Cond.methodLink RX4 9 yX0_init ∈ wsX4_init := List.mem_of_getElem? (i := 12) (by decide +kernel)
theorem kX4_init_7 : Cond.fieldLink RX4 10 "BookedDetours$Search" "day" "LBookedDetours$Day;" ∈ wsX4_init := List.mem_of_getElem? (i := 7) (by decide +kernel)
theorem kX4_init_8 : Cond.classLink RX4 16 RX5 ∈ wsX4_init := List.mem_of_getElem? (i := 8) (by decide +kernel)
theorem kX4_init_9 : Cond.instantiable RX5 10 ∈ wsX4_init := List.mem_of_getElem? (i := 9) (by decide +kernel)
theorem kX4_init_10 : Cond.initialized RX5 ∈ wsX4_init := List.mem_of_getElem? (i := 10) (by decide +kernel)
theorem kX4_init_50 : Cond.instanceMethod yX5_init ∈ wsX4_init := List.mem_of_getElem? (i := 50) (by decide +kernel)
theorem kX4_init_11 : Cond.fieldLink RX4 19 "BookedDetours$Search" "table" "LBookedDetours$Timetable;" ∈ wsX4_init := List.mem_of_getElem? (i := 11) (by decide +kernel)
theorem hX4_init_X0 : ∀ w ∈ u_ws RX0 TX0 15, w ∈ wsX4_init := fun _ h => List.mem_cons_of_mem _ (List.mem_append_left _ (List.mem_append_left _ (List.mem_append_left _ (List.mem_append_right _ h))))
theorem hX4_init_X4 : ∀ w ∈ u_ws RX4 TX4 9, w ∈ wsX4_init := fun _ h => List.mem_cons_of_mem _ (List.mem_append_left _ (List.mem_append_left _ (List.mem_append_right _ h)))
theorem hX4_init_X5 : ∀ w ∈ u_ws RX5 TX5 10, w ∈ wsX4_init := fun _ h => List.mem_cons_of_mem _ (List.mem_append_left _ (List.mem_append_right _ h))
set_option maxHeartbeats 4000000 in
set_option maxRecDepth 100000 in
theorem c_X4_init (g : yG) (h0 : Nat) : yMv g yX4_init wsX4_init ({ frames := 3, cells := 36, slots := 392, locals := 64 } : Room) [.ref h0] ([[(h0, .inr (4, [.null, .null, .int 0, .int 0, .int 0, .int 0, .int 0, .int 0, .int 0]))]] : List va_W) (fun w => ∃ (A : Nat → Nat) (G : Nat → Nat → Int32) (T : Nat → Nat) (GT : Nat → Nat → Int32), w = ([seaB g h0 A G T GT] : List va_W)) 36 392 := by
  refine y_entryV (cc := cX4_init) (maxL := 1) (by decide +kernel) rfl (Nat.le_of_ble_eq_true rfl) (fun Z C HI HR => ?_)
  have HI : yIn Z := HI rfl
  have C : yC Z g cX4_init 1 wsX4_init RX4 := C
  show yJ Z _ 0 0 _ 0 [(0, .ref h0)] []
  refine y_aload_n C dX4_init_0 0 rfl rfl ?_
  refine y_objInit C dX4_init_1 kX4_init_1 kX4_init_2 kX4_init_3 (Nat.le_of_ble_eq_true rfl) (Nat.le_of_ble_eq_true rfl) ?_
  refine y_aload_n C dX4_init_4 0 rfl rfl ?_
  refine y_new (Cn := RX0) (T := TX0) (N := 15) (ci := 0) (fs := [.null, .null, .null, .null, .null, .null, .null, .null, .null, .null, .null, .null, .int 0, .int 0, .int 0]) (ty0 := tyX0) C dX4_init_5 hX4_init_X0 tyX0_ok kX4_init_4 kX4_init_5 kX4_init_6 rfl (fun j hj => by rcases (show j = 0 ∨ j = 1 ∨ j = 2 ∨ j = 3 ∨ j = 4 ∨ j = 5 ∨ j = 6 ∨ j = 7 ∨ j = 8 ∨ j = 9 ∨ j = 10 ∨ j = 11 ∨ j = 12 ∨ j = 13 ∨ j = 14 by omega) with rfl | rfl | rfl | rfl | rfl | rfl | rfl | rfl | rfl | rfl | rfl | rfl | rfl | rfl | rfl <;> rfl) (Nat.le_of_ble_eq_true rfl) (Nat.le_of_ble_eq_true rfl) (fun q1 => ?_)
  refine y_world (L1 := ([[(h0, .inr (4, [.null, .null, .int 0, .int 0, .int 0, .int 0, .int 0, .int 0, .int 0]))], [(q1, .inr (0, [.null, .null, .null, .null, .null, .null, .null, .null, .null, .null, .null, .null, .int 0, .int 0, .int 0]))]] : List va_W)) rfl ?_
  refine y_dup C dX4_init_8 rfl ?_
  refine y_callI (As := []) (rest := [.ref q1, .ref h0]) C dX4_init_9 (c_X0_init g q1) rfl rfl rfl rfl ⟨Nat.le_of_ble_eq_true rfl, Nat.le_of_ble_eq_true rfl⟩ gX4_init_X0_init kX4_init_12 kX4_init_6 kX4_init_13 rfl (nA := 0) (by decide +kernel) rfl (Nat.le_of_ble_eq_true rfl) ⟨Nat.le_of_ble_eq_true rfl, Nat.le_of_ble_eq_true rfl⟩ [1] [0] (nB := 2) rfl (by decide +kernel) rfl (fun w9 hw => ?_)
  obtain ⟨A2, G3, rfl, rfl⟩ := hw
  refine ⟨([[(h0, .inr (4, [.null, .null, .int 0, .int 0, .int 0, .int 0, .int 0, .int 0, .int 0]))], dayW g A2 D0 G3] : List va_W), ⟨rfl, Eq.trans (b := ([[(h0, .inr (4, [.null, .null, .int 0, .int 0, .int 0, .int 0, .int 0, .int 0, .int 0]))]] : List va_W)) rfl rfl, rfl⟩, ?_⟩
  refine y_putF (Cn := RX4) (T := TX4) (N := 9) (v := .ref (A2 0)) (ty0 := tyX4) (L1 := ([[(h0, .inr (4, [.ref (A2 0), .null, .int 0, .int 0, .int 0, .int 0, .int 0, .int 0, .int 0]))], dayW g A2 D0 G3] : List va_W)) C dX4_init_12 hX4_init_X4 0 rfl rfl 0 (Nat.le_of_ble_eq_true rfl) kX4_init_7 tyX4_ok nmX4 rfl HI rfl rfl rfl (Nat.le_of_ble_eq_true rfl) rfl ?_
  refine y_aload_n C dX4_init_15 0 rfl rfl ?_
  refine y_new (Cn := RX5) (T := TX5) (N := 10) (ci := 5) (fs := [.null, .null, .null, .null, .null, .int 0, .int 0, .int 0, .int 0, .int 0]) (ty0 := tyX5) C dX4_init_16 hX4_init_X5 tyX5_ok kX4_init_8 kX4_init_9 kX4_init_10 rfl (fun j hj => by rcases (show j = 0 ∨ j = 1 ∨ j = 2 ∨ j = 3 ∨ j = 4 ∨ j = 5 ∨ j = 6 ∨ j = 7 ∨ j = 8 ∨ j = 9 by omega) with rfl | rfl | rfl | rfl | rfl | rfl | rfl | rfl | rfl | rfl <;> rfl) (Nat.le_of_ble_eq_true rfl) (Nat.le_of_ble_eq_true rfl) (fun q4 => ?_)
  refine y_world (L1 := ([[(h0, .inr (4, [.ref (A2 0), .null, .int 0, .int 0, .int 0, .int 0, .int 0, .int 0, .int 0]))], dayW g A2 D0 G3, [(q4, .inr (5, [.null, .null, .null, .null, .null, .int 0, .int 0, .int 0, .int 0, .int 0]))]] : List va_W)) rfl ?_
  refine y_dup C dX4_init_19 rfl ?_
  refine y_callIN (host := RX6) (As := []) (rest := [.ref q4, .ref h0]) C dX4_init_20 (c_X5_init g q4) rfl rfl rfl rfl ⟨Nat.le_of_ble_eq_true rfl, Nat.le_of_ble_eq_true rfl⟩ gX4_init_X5_init_n18 (List.mem_of_getElem? (i := 8) rfl) kX4_init_10 kX4_init_50 rfl (nA := 0) (by decide +kernel) rfl (Nat.le_of_ble_eq_true rfl) ⟨Nat.le_of_ble_eq_true rfl, Nat.le_of_ble_eq_true rfl⟩ [2] [0, 1] (nB := 3) rfl (by decide +kernel) rfl (fun w9 hw => ?_)
  obtain ⟨A5, G6, rfl, rfl⟩ := hw
  refine ⟨([[(h0, .inr (4, [.ref (A2 0), .null, .int 0, .int 0, .int 0, .int 0, .int 0, .int 0, .int 0]))], dayW g A2 D0 G3, tabW g A5 T0 G6] : List va_W), ⟨rfl, Eq.trans (b := ([[(h0, .inr (4, [.ref (A2 0), .null, .int 0, .int 0, .int 0, .int 0, .int 0, .int 0, .int 0]))], dayW g A2 D0 G3] : List va_W)) rfl rfl, rfl⟩, ?_⟩
  refine y_putF (Cn := RX4) (T := TX4) (N := 9) (v := .ref (A5 0)) (ty0 := tyX4) (L1 := ([[(h0, .inr (4, [.ref (A2 0), .ref (A5 0), .int 0, .int 0, .int 0, .int 0, .int 0, .int 0, .int 0]))], dayW g A2 D0 G3, tabW g A5 T0 G6] : List va_W)) C dX4_init_23 hX4_init_X4 0 rfl rfl 1 (Nat.le_of_ble_eq_true rfl) kX4_init_11 tyX4_ok nmX4 rfl HI rfl rfl rfl (Nat.le_of_ble_eq_true rfl) rfl ?_
  refine y_world (L1 := ([seaB g h0 A2 G3 A5 G6] : List va_W)) ?_ ?_
  · simp [seaB, seaC, T0]
  · exact HR 26 dX4_init_26 _ _ _ _ (Nat.le_of_ble_eq_true rfl) (Nat.le_of_ble_eq_true rfl) ⟨_, _, _, _, rfl⟩
