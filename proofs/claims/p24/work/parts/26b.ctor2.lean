theorem dX5_init_0 : decode cX5_init 0 = .ok (.aload_n 0, 1) := by decide +kernel
theorem dX5_init_1 : decode cX5_init 1 = .ok (.invokespecial 3, 3) := by decide +kernel
theorem dX5_init_4 : decode cX5_init 4 = .ok (.aload_n 0, 1) := by decide +kernel
theorem dX5_init_5 : decode cX5_init 5 = .ok (.new 9, 3) := by decide +kernel
theorem dX5_init_8 : decode cX5_init 8 = .ok (.dup, 1) := by decide +kernel
theorem dX5_init_9 : decode cX5_init 9 = .ok (.bipush 34, 2) := by decide +kernel
theorem dX5_init_11 : decode cX5_init 11 = .ok (.invokespecial 11, 3) := by decide +kernel
theorem dX5_init_14 : decode cX5_init 14 = .ok (.putfield 14, 3) := by decide +kernel
theorem dX5_init_17 : decode cX5_init 17 = .ok (.aload_n 0, 1) := by decide +kernel
theorem dX5_init_18 : decode cX5_init 18 = .ok (.new 9, 3) := by decide +kernel
theorem dX5_init_21 : decode cX5_init 21 = .ok (.dup, 1) := by decide +kernel
theorem dX5_init_22 : decode cX5_init 22 = .ok (.bipush 34, 2) := by decide +kernel
theorem dX5_init_24 : decode cX5_init 24 = .ok (.invokespecial 11, 3) := by decide +kernel
theorem dX5_init_27 : decode cX5_init 27 = .ok (.putfield 20, 3) := by decide +kernel
theorem dX5_init_30 : decode cX5_init 30 = .ok (.aload_n 0, 1) := by decide +kernel
theorem dX5_init_31 : decode cX5_init 31 = .ok (.new 9, 3) := by decide +kernel
theorem dX5_init_34 : decode cX5_init 34 = .ok (.dup, 1) := by decide +kernel
theorem dX5_init_35 : decode cX5_init 35 = .ok (.bipush 34, 2) := by decide +kernel
theorem dX5_init_37 : decode cX5_init 37 = .ok (.invokespecial 11, 3) := by decide +kernel
theorem dX5_init_40 : decode cX5_init 40 = .ok (.putfield 23, 3) := by decide +kernel
theorem dX5_init_43 : decode cX5_init 43 = .ok (.aload_n 0, 1) := by decide +kernel
theorem dX5_init_44 : decode cX5_init 44 = .ok (.new 9, 3) := by decide +kernel
theorem dX5_init_47 : decode cX5_init 47 = .ok (.dup, 1) := by decide +kernel
theorem dX5_init_48 : decode cX5_init 48 = .ok (.bipush 17, 2) := by decide +kernel
theorem dX5_init_50 : decode cX5_init 50 = .ok (.invokespecial 11, 3) := by decide +kernel
theorem dX5_init_53 : decode cX5_init 53 = .ok (.putfield 26, 3) := by decide +kernel
theorem dX5_init_56 : decode cX5_init 56 = .ok (.aload_n 0, 1) := by decide +kernel
theorem dX5_init_57 : decode cX5_init 57 = .ok (.new 9, 3) := by decide +kernel
theorem dX5_init_60 : decode cX5_init 60 = .ok (.dup, 1) := by decide +kernel
theorem dX5_init_61 : decode cX5_init 61 = .ok (.bipush 17, 2) := by decide +kernel
theorem dX5_init_63 : decode cX5_init 63 = .ok (.invokespecial 11, 3) := by decide +kernel
theorem dX5_init_66 : decode cX5_init 66 = .ok (.putfield 29, 3) := by decide +kernel
theorem dX5_init_69 : decode cX5_init 69 = .ok (.return_, 1) := by decide +kernel
set_option maxRecDepth 20000 in
theorem ggX5_init_X3_init : GoodIn wsX5_init wsX3_init := goodIn_r _ [14, 15, 2, 3, 16, 17, 18, 19, 20, 21, 22, 23] (by decide +kernel) (by decide +kernel)
set_option maxRecDepth 20000 in
theorem gX5_init_X3_init : GoodIn wsX5_init (wsX3_init) := ggX5_init_X3_init
theorem kX5_init_1 : Cond.methodLink RX5 3 objectInit ∈ wsX5_init := List.mem_of_getElem? (i := 1) (by decide +kernel)
theorem kX5_init_2 : Cond.instanceMethod objectInit ∈ wsX5_init := List.mem_of_getElem? (i := 2) (by decide +kernel)
theorem kX5_init_3 : Cond.code objectInit ⟨#[0xb1]⟩ 1 none ∈ wsX5_init := List.mem_of_getElem? (i := 3) (by decide +kernel)
theorem kX5_init_4 : Cond.classLink RX5 9 RX3 ∈ wsX5_init := List.mem_of_getElem? (i := 4) (by decide +kernel)
theorem kX5_init_5 : Cond.instantiable RX3 2 ∈ wsX5_init := List.mem_of_getElem? (i := 5) (by decide +kernel)
theorem kX5_init_6 : Cond.initialized RX3 ∈ wsX5_init := List.mem_of_getElem? (i := 6) (by decide +kernel)
theorem kX5_init_13 : Cond.instanceMethod yX3_init ∈ wsX5_init := List.mem_of_getElem? (i := 13) (by decide +kernel)
theorem kX5_init_12 : Cond.methodLink RX5 11 yX3_init ∈ wsX5_init := List.mem_of_getElem? (i := 12) (by decide +kernel)
theorem kX5_init_7 : Cond.fieldLink RX5 14 "BookedDetours$Timetable" "times" "LBookedDetours$Row;" ∈ wsX5_init := List.mem_of_getElem? (i := 7) (by decide +kernel)
theorem kX5_init_8 : Cond.fieldLink RX5 20 "BookedDetours$Timetable" "loads" "LBookedDetours$Row;" ∈ wsX5_init := List.mem_of_getElem? (i := 8) (by decide +kernel)
theorem kX5_init_9 : Cond.fieldLink RX5 23 "BookedDetours$Timetable" "delays" "LBookedDetours$Row;" ∈ wsX5_init := List.mem_of_getElem? (i := 9) (by decide +kernel)
theorem kX5_init_10 : Cond.fieldLink RX5 26 "BookedDetours$Timetable" "picks" "LBookedDetours$Row;" ∈ wsX5_init := List.mem_of_getElem? (i := 10) (by decide +kernel)
theorem kX5_init_11 : Cond.fieldLink RX5 29 "BookedDetours$Timetable" "downs" "LBookedDetours$Row;" ∈ wsX5_init := List.mem_of_getElem? (i := 11) (by decide +kernel)
theorem hX5_init_X3 : ∀ w ∈ u_ws RX3 TX3 2, w ∈ wsX5_init := fun _ h => List.mem_cons_of_mem _ (List.mem_append_left _ (List.mem_append_right _ h))
theorem hX5_init_X5 : ∀ w ∈ u_ws RX5 TX5 10, w ∈ wsX5_init := fun _ h => List.mem_cons_of_mem _ (List.mem_append_right _ h)
set_option maxHeartbeats 4000000 in
set_option maxRecDepth 100000 in
theorem c_X5_init (g : yG) (h0 : Nat) : yMv g yX5_init wsX5_init ({ frames := 2, cells := 10, slots := 146, locals := 41 } : Room) [.ref h0] ([[(h0, .inr (5, [.null, .null, .null, .null, .null, .int 0, .int 0, .int 0, .int 0, .int 0]))]] : List va_W) (fun w => ∃ (A : Nat → Nat) (G : Nat → Nat → Int32), h0 = A 0 ∧ w = ([tabW g A T0 G] : List va_W)) 10 146 := by
  refine y_entryV (cc := cX5_init) (maxL := 1) (by decide +kernel) rfl (Nat.le_of_ble_eq_true rfl) (fun Z C HI HR => ?_)
  have HI : yIn Z := HI rfl
  have C : yC Z g cX5_init 1 wsX5_init RX5 := C
  show yJ Z _ 0 0 _ 0 [(0, .ref h0)] []
  refine y_aload_n C dX5_init_0 0 rfl rfl ?_
  refine y_objInit C dX5_init_1 kX5_init_1 kX5_init_2 kX5_init_3 (Nat.le_of_ble_eq_true rfl) (Nat.le_of_ble_eq_true rfl) ?_
  refine y_aload_n C dX5_init_4 0 rfl rfl ?_
  refine y_new (Cn := RX3) (T := TX3) (N := 2) (ci := 3) (fs := [.null, .int 0]) (ty0 := tyX3) C dX5_init_5 hX5_init_X3 tyX3_ok kX5_init_4 kX5_init_5 kX5_init_6 rfl (fun j hj => by rcases (show j = 0 ∨ j = 1 by omega) with rfl | rfl <;> rfl) (Nat.le_of_ble_eq_true rfl) (Nat.le_of_ble_eq_true rfl) (fun q1 => ?_)
  refine y_world (L1 := ([[(h0, .inr (5, [.null, .null, .null, .null, .null, .int 0, .int 0, .int 0, .int 0, .int 0]))], [(q1, .inr (3, [.null, .int 0]))]] : List va_W)) rfl ?_
  refine y_dup C dX5_init_8 rfl ?_
  refine y_bipush (v := 34) C dX5_init_9 (by decide) ?_
  refine y_callI (As := [.int 34]) (rest := [.ref q1, .ref h0]) C dX5_init_11 (c_X3_init g q1 34 (by decide)) rfl rfl rfl rfl ⟨Nat.le_of_ble_eq_true rfl, Nat.le_of_ble_eq_true rfl⟩ gX5_init_X3_init kX5_init_12 kX5_init_6 kX5_init_13 rfl (nA := 1) (by decide +kernel) rfl (Nat.le_of_ble_eq_true rfl) ⟨Nat.le_of_ble_eq_true rfl, Nat.le_of_ble_eq_true rfl⟩ [1] [0] (nB := 2) rfl (by decide +kernel) rfl (fun w9 hw => ?_)
  obtain ⟨a2, h3, rfl⟩ := hw
  refine ⟨([[(h0, .inr (5, [.null, .null, .null, .null, .null, .int 0, .int 0, .int 0, .int 0, .int 0]))], rowW g.2.2.1 q1 a2 34 [] h3] : List va_W), ⟨rfl, Eq.trans (b := ([[(h0, .inr (5, [.null, .null, .null, .null, .null, .int 0, .int 0, .int 0, .int 0, .int 0]))]] : List va_W)) rfl rfl, rfl⟩, ?_⟩
  refine y_putF (Cn := RX5) (T := TX5) (N := 10) (v := .ref q1) (ty0 := tyX5) (L1 := ([[(h0, .inr (5, [.ref q1, .null, .null, .null, .null, .int 0, .int 0, .int 0, .int 0, .int 0]))], rowW g.2.2.1 q1 a2 34 [] h3] : List va_W)) C dX5_init_14 hX5_init_X5 0 rfl rfl 0 (Nat.le_of_ble_eq_true rfl) kX5_init_7 tyX5_ok nmX5 rfl HI rfl rfl rfl (Nat.le_of_ble_eq_true rfl) rfl ?_
  refine y_aload_n C dX5_init_17 0 rfl rfl ?_
  refine y_new (Cn := RX3) (T := TX3) (N := 2) (ci := 3) (fs := [.null, .int 0]) (ty0 := tyX3) C dX5_init_18 hX5_init_X3 tyX3_ok kX5_init_4 kX5_init_5 kX5_init_6 rfl (fun j hj => by rcases (show j = 0 ∨ j = 1 by omega) with rfl | rfl <;> rfl) (Nat.le_of_ble_eq_true rfl) (Nat.le_of_ble_eq_true rfl) (fun q4 => ?_)
  refine y_world (L1 := ([[(h0, .inr (5, [.ref q1, .null, .null, .null, .null, .int 0, .int 0, .int 0, .int 0, .int 0]))], rowW g.2.2.1 q1 a2 34 [] h3, [(q4, .inr (3, [.null, .int 0]))]] : List va_W)) rfl ?_
  refine y_dup C dX5_init_21 rfl ?_
  refine y_bipush (v := 34) C dX5_init_22 (by decide) ?_
  refine y_callI (As := [.int 34]) (rest := [.ref q4, .ref h0]) C dX5_init_24 (c_X3_init g q4 34 (by decide)) rfl rfl rfl rfl ⟨Nat.le_of_ble_eq_true rfl, Nat.le_of_ble_eq_true rfl⟩ gX5_init_X3_init kX5_init_12 kX5_init_6 kX5_init_13 rfl (nA := 1) (by decide +kernel) rfl (Nat.le_of_ble_eq_true rfl) ⟨Nat.le_of_ble_eq_true rfl, Nat.le_of_ble_eq_true rfl⟩ [2] [0, 1] (nB := 3) rfl (by decide +kernel) rfl (fun w9 hw => ?_)
  obtain ⟨a5, h6, rfl⟩ := hw
  refine ⟨([[(h0, .inr (5, [.ref q1, .null, .null, .null, .null, .int 0, .int 0, .int 0, .int 0, .int 0]))], rowW g.2.2.1 q1 a2 34 [] h3, rowW g.2.2.1 q4 a5 34 [] h6] : List va_W), ⟨rfl, Eq.trans (b := ([[(h0, .inr (5, [.ref q1, .null, .null, .null, .null, .int 0, .int 0, .int 0, .int 0, .int 0]))], rowW g.2.2.1 q1 a2 34 [] h3] : List va_W)) rfl rfl, rfl⟩, ?_⟩
  refine y_putF (Cn := RX5) (T := TX5) (N := 10) (v := .ref q4) (ty0 := tyX5) (L1 := ([[(h0, .inr (5, [.ref q1, .ref q4, .null, .null, .null, .int 0, .int 0, .int 0, .int 0, .int 0]))], rowW g.2.2.1 q1 a2 34 [] h3, rowW g.2.2.1 q4 a5 34 [] h6] : List va_W)) C dX5_init_27 hX5_init_X5 0 rfl rfl 1 (Nat.le_of_ble_eq_true rfl) kX5_init_8 tyX5_ok nmX5 rfl HI rfl rfl rfl (Nat.le_of_ble_eq_true rfl) rfl ?_
  refine y_aload_n C dX5_init_30 0 rfl rfl ?_
  refine y_new (Cn := RX3) (T := TX3) (N := 2) (ci := 3) (fs := [.null, .int 0]) (ty0 := tyX3) C dX5_init_31 hX5_init_X3 tyX3_ok kX5_init_4 kX5_init_5 kX5_init_6 rfl (fun j hj => by rcases (show j = 0 ∨ j = 1 by omega) with rfl | rfl <;> rfl) (Nat.le_of_ble_eq_true rfl) (Nat.le_of_ble_eq_true rfl) (fun q7 => ?_)
  refine y_world (L1 := ([[(h0, .inr (5, [.ref q1, .ref q4, .null, .null, .null, .int 0, .int 0, .int 0, .int 0, .int 0]))], rowW g.2.2.1 q1 a2 34 [] h3, rowW g.2.2.1 q4 a5 34 [] h6, [(q7, .inr (3, [.null, .int 0]))]] : List va_W)) rfl ?_
  refine y_dup C dX5_init_34 rfl ?_
  refine y_bipush (v := 34) C dX5_init_35 (by decide) ?_
  refine y_callI (As := [.int 34]) (rest := [.ref q7, .ref h0]) C dX5_init_37 (c_X3_init g q7 34 (by decide)) rfl rfl rfl rfl ⟨Nat.le_of_ble_eq_true rfl, Nat.le_of_ble_eq_true rfl⟩ gX5_init_X3_init kX5_init_12 kX5_init_6 kX5_init_13 rfl (nA := 1) (by decide +kernel) rfl (Nat.le_of_ble_eq_true rfl) ⟨Nat.le_of_ble_eq_true rfl, Nat.le_of_ble_eq_true rfl⟩ [3] [0, 1, 2] (nB := 4) rfl (by decide +kernel) rfl (fun w9 hw => ?_)
  obtain ⟨a8, h9, rfl⟩ := hw
  refine ⟨([[(h0, .inr (5, [.ref q1, .ref q4, .null, .null, .null, .int 0, .int 0, .int 0, .int 0, .int 0]))], rowW g.2.2.1 q1 a2 34 [] h3, rowW g.2.2.1 q4 a5 34 [] h6, rowW g.2.2.1 q7 a8 34 [] h9] : List va_W), ⟨rfl, Eq.trans (b := ([[(h0, .inr (5, [.ref q1, .ref q4, .null, .null, .null, .int 0, .int 0, .int 0, .int 0, .int 0]))], rowW g.2.2.1 q1 a2 34 [] h3, rowW g.2.2.1 q4 a5 34 [] h6] : List va_W)) rfl rfl, rfl⟩, ?_⟩
  refine y_putF (Cn := RX5) (T := TX5) (N := 10) (v := .ref q7) (ty0 := tyX5) (L1 := ([[(h0, .inr (5, [.ref q1, .ref q4, .ref q7, .null, .null, .int 0, .int 0, .int 0, .int 0, .int 0]))], rowW g.2.2.1 q1 a2 34 [] h3, rowW g.2.2.1 q4 a5 34 [] h6, rowW g.2.2.1 q7 a8 34 [] h9] : List va_W)) C dX5_init_40 hX5_init_X5 0 rfl rfl 2 (Nat.le_of_ble_eq_true rfl) kX5_init_9 tyX5_ok nmX5 rfl HI rfl rfl rfl (Nat.le_of_ble_eq_true rfl) rfl ?_
  refine y_aload_n C dX5_init_43 0 rfl rfl ?_
  refine y_new (Cn := RX3) (T := TX3) (N := 2) (ci := 3) (fs := [.null, .int 0]) (ty0 := tyX3) C dX5_init_44 hX5_init_X3 tyX3_ok kX5_init_4 kX5_init_5 kX5_init_6 rfl (fun j hj => by rcases (show j = 0 ∨ j = 1 by omega) with rfl | rfl <;> rfl) (Nat.le_of_ble_eq_true rfl) (Nat.le_of_ble_eq_true rfl) (fun q10 => ?_)
  refine y_world (L1 := ([[(h0, .inr (5, [.ref q1, .ref q4, .ref q7, .null, .null, .int 0, .int 0, .int 0, .int 0, .int 0]))], rowW g.2.2.1 q1 a2 34 [] h3, rowW g.2.2.1 q4 a5 34 [] h6, rowW g.2.2.1 q7 a8 34 [] h9, [(q10, .inr (3, [.null, .int 0]))]] : List va_W)) rfl ?_
  refine y_dup C dX5_init_47 rfl ?_
  refine y_bipush (v := 17) C dX5_init_48 (by decide) ?_
  refine y_callI (As := [.int 17]) (rest := [.ref q10, .ref h0]) C dX5_init_50 (c_X3_init g q10 17 (by decide)) rfl rfl rfl rfl ⟨Nat.le_of_ble_eq_true rfl, Nat.le_of_ble_eq_true rfl⟩ gX5_init_X3_init kX5_init_12 kX5_init_6 kX5_init_13 rfl (nA := 1) (by decide +kernel) rfl (Nat.le_of_ble_eq_true rfl) ⟨Nat.le_of_ble_eq_true rfl, Nat.le_of_ble_eq_true rfl⟩ [4] [0, 1, 2, 3] (nB := 5) rfl (by decide +kernel) rfl (fun w9 hw => ?_)
  obtain ⟨a11, h12, rfl⟩ := hw
  refine ⟨([[(h0, .inr (5, [.ref q1, .ref q4, .ref q7, .null, .null, .int 0, .int 0, .int 0, .int 0, .int 0]))], rowW g.2.2.1 q1 a2 34 [] h3, rowW g.2.2.1 q4 a5 34 [] h6, rowW g.2.2.1 q7 a8 34 [] h9, rowW g.2.2.1 q10 a11 17 [] h12] : List va_W), ⟨rfl, Eq.trans (b := ([[(h0, .inr (5, [.ref q1, .ref q4, .ref q7, .null, .null, .int 0, .int 0, .int 0, .int 0, .int 0]))], rowW g.2.2.1 q1 a2 34 [] h3, rowW g.2.2.1 q4 a5 34 [] h6, rowW g.2.2.1 q7 a8 34 [] h9] : List va_W)) rfl rfl, rfl⟩, ?_⟩
  refine y_putF (Cn := RX5) (T := TX5) (N := 10) (v := .ref q10) (ty0 := tyX5) (L1 := ([[(h0, .inr (5, [.ref q1, .ref q4, .ref q7, .ref q10, .null, .int 0, .int 0, .int 0, .int 0, .int 0]))], rowW g.2.2.1 q1 a2 34 [] h3, rowW g.2.2.1 q4 a5 34 [] h6, rowW g.2.2.1 q7 a8 34 [] h9, rowW g.2.2.1 q10 a11 17 [] h12] : List va_W)) C dX5_init_53 hX5_init_X5 0 rfl rfl 3 (Nat.le_of_ble_eq_true rfl) kX5_init_10 tyX5_ok nmX5 rfl HI rfl rfl rfl (Nat.le_of_ble_eq_true rfl) rfl ?_
  refine y_aload_n C dX5_init_56 0 rfl rfl ?_
  refine y_new (Cn := RX3) (T := TX3) (N := 2) (ci := 3) (fs := [.null, .int 0]) (ty0 := tyX3) C dX5_init_57 hX5_init_X3 tyX3_ok kX5_init_4 kX5_init_5 kX5_init_6 rfl (fun j hj => by rcases (show j = 0 ∨ j = 1 by omega) with rfl | rfl <;> rfl) (Nat.le_of_ble_eq_true rfl) (Nat.le_of_ble_eq_true rfl) (fun q13 => ?_)
  refine y_world (L1 := ([[(h0, .inr (5, [.ref q1, .ref q4, .ref q7, .ref q10, .null, .int 0, .int 0, .int 0, .int 0, .int 0]))], rowW g.2.2.1 q1 a2 34 [] h3, rowW g.2.2.1 q4 a5 34 [] h6, rowW g.2.2.1 q7 a8 34 [] h9, rowW g.2.2.1 q10 a11 17 [] h12, [(q13, .inr (3, [.null, .int 0]))]] : List va_W)) rfl ?_
  refine y_dup C dX5_init_60 rfl ?_
  refine y_bipush (v := 17) C dX5_init_61 (by decide) ?_
  refine y_callI (As := [.int 17]) (rest := [.ref q13, .ref h0]) C dX5_init_63 (c_X3_init g q13 17 (by decide)) rfl rfl rfl rfl ⟨Nat.le_of_ble_eq_true rfl, Nat.le_of_ble_eq_true rfl⟩ gX5_init_X3_init kX5_init_12 kX5_init_6 kX5_init_13 rfl (nA := 1) (by decide +kernel) rfl (Nat.le_of_ble_eq_true rfl) ⟨Nat.le_of_ble_eq_true rfl, Nat.le_of_ble_eq_true rfl⟩ [5] [0, 1, 2, 3, 4] (nB := 6) rfl (by decide +kernel) rfl (fun w9 hw => ?_)
  obtain ⟨a14, h15, rfl⟩ := hw
  refine ⟨([[(h0, .inr (5, [.ref q1, .ref q4, .ref q7, .ref q10, .null, .int 0, .int 0, .int 0, .int 0, .int 0]))], rowW g.2.2.1 q1 a2 34 [] h3, rowW g.2.2.1 q4 a5 34 [] h6, rowW g.2.2.1 q7 a8 34 [] h9, rowW g.2.2.1 q10 a11 17 [] h12, rowW g.2.2.1 q13 a14 17 [] h15] : List va_W), ⟨rfl, Eq.trans (b := ([[(h0, .inr (5, [.ref q1, .ref q4, .ref q7, .ref q10, .null, .int 0, .int 0, .int 0, .int 0, .int 0]))], rowW g.2.2.1 q1 a2 34 [] h3, rowW g.2.2.1 q4 a5 34 [] h6, rowW g.2.2.1 q7 a8 34 [] h9, rowW g.2.2.1 q10 a11 17 [] h12] : List va_W)) rfl rfl, rfl⟩, ?_⟩
  refine y_putF (Cn := RX5) (T := TX5) (N := 10) (v := .ref q13) (ty0 := tyX5) (L1 := ([[(h0, .inr (5, [.ref q1, .ref q4, .ref q7, .ref q10, .ref q13, .int 0, .int 0, .int 0, .int 0, .int 0]))], rowW g.2.2.1 q1 a2 34 [] h3, rowW g.2.2.1 q4 a5 34 [] h6, rowW g.2.2.1 q7 a8 34 [] h9, rowW g.2.2.1 q10 a11 17 [] h12, rowW g.2.2.1 q13 a14 17 [] h15] : List va_W)) C dX5_init_66 hX5_init_X5 0 rfl rfl 4 (Nat.le_of_ble_eq_true rfl) kX5_init_11 tyX5_ok nmX5 rfl HI rfl rfl rfl (Nat.le_of_ble_eq_true rfl) rfl ?_
  refine y_world (L1 := ([tabW g (fun n => ([h0, q1, a2, q4, a5, q7, a8, q10, a11, q13, a14] : List Nat).getD n 0) T0 (fun n => ([h3, h6, h9, h12, h15] : List (Nat → Int32)).getD n (fun _ => 0))] : List va_W)) ?_ ?_
  · rw [List.flatten_singleton]; rfl
  · exact HR 69 dX5_init_69 _ _ _ _ (Nat.le_of_ble_eq_true rfl) (Nat.le_of_ble_eq_true rfl) ⟨_, _, rfl, rfl⟩
theorem dX2_init_0 : decode cX2_init 0 = .ok (.aload_n 0, 1) := by decide +kernel
theorem dX2_init_1 : decode cX2_init 1 = .ok (.invokespecial 3, 3) := by decide +kernel
theorem dX2_init_4 : decode cX2_init 4 = .ok (.aload_n 0, 1) := by decide +kernel
theorem dX2_init_5 : decode cX2_init 5 = .ok (.new 9, 3) := by decide +kernel
theorem dX2_init_8 : decode cX2_init 8 = .ok (.dup, 1) := by decide +kernel
theorem dX2_init_9 : decode cX2_init 9 = .ok (.bipush 60, 2) := by decide +kernel
theorem dX2_init_11 : decode cX2_init 11 = .ok (.invokespecial 11, 3) := by decide +kernel
theorem dX2_init_14 : decode cX2_init 14 = .ok (.putfield 14, 3) := by decide +kernel
theorem dX2_init_17 : decode cX2_init 17 = .ok (.aload_n 0, 1) := by decide +kernel
theorem dX2_init_18 : decode cX2_init 18 = .ok (.new 9, 3) := by decide +kernel
theorem dX2_init_21 : decode cX2_init 21 = .ok (.dup, 1) := by decide +kernel
theorem dX2_init_22 : decode cX2_init 22 = .ok (.bipush 31, 2) := by decide +kernel
theorem dX2_init_24 : decode cX2_init 24 = .ok (.invokespecial 11, 3) := by decide +kernel
theorem dX2_init_27 : decode cX2_init 27 = .ok (.putfield 20, 3) := by decide +kernel
theorem dX2_init_30 : decode cX2_init 30 = .ok (.return_, 1) := by decide +kernel
set_option maxRecDepth 20000 in
theorem ggX2_init_X3_init : GoodIn wsX2_init wsX3_init := goodIn_r _ [11, 12, 2, 3, 13, 14, 15, 16, 17, 18, 19, 20] (by decide +kernel) (by decide +kernel)
set_option maxRecDepth 20000 in
theorem gX2_init_X3_init : GoodIn wsX2_init (wsX3_init) := ggX2_init_X3_init
theorem kX2_init_1 : Cond.methodLink RX2 3 objectInit ∈ wsX2_init := List.mem_of_getElem? (i := 1) (by decide +kernel)
theorem kX2_init_2 : Cond.instanceMethod objectInit ∈ wsX2_init := List.mem_of_getElem? (i := 2) (by decide +kernel)
theorem kX2_init_3 : Cond.code objectInit ⟨#[0xb1]⟩ 1 none ∈ wsX2_init := List.mem_of_getElem? (i := 3) (by decide +kernel)
theorem kX2_init_4 : Cond.classLink RX2 9 RX3 ∈ wsX2_init := List.mem_of_getElem? (i := 4) (by decide +kernel)
theorem kX2_init_5 : Cond.instantiable RX3 2 ∈ wsX2_init := List.mem_of_getElem? (i := 5) (by decide +kernel)
theorem kX2_init_6 : Cond.initialized RX3 ∈ wsX2_init := List.mem_of_getElem? (i := 6) (by decide +kernel)
theorem kX2_init_10 : Cond.instanceMethod yX3_init ∈ wsX2_init := List.mem_of_getElem? (i := 10) (by decide +kernel)
theorem kX2_init_9 : Cond.methodLink RX2 11 yX3_init ∈ wsX2_init := List.mem_of_getElem? (i := 9) (by decide +kernel)
theorem kX2_init_7 : Cond.fieldLink RX2 14 "BookedDetours$Pad" "signs" "LBookedDetours$Row;" ∈ wsX2_init := List.mem_of_getElem? (i := 7) (by decide +kernel)
theorem kX2_init_8 : Cond.fieldLink RX2 20 "BookedDetours$Pad" "numbers" "LBookedDetours$Row;" ∈ wsX2_init := List.mem_of_getElem? (i := 8) (by decide +kernel)
theorem hX2_init_X3 : ∀ w ∈ u_ws RX3 TX3 2, w ∈ wsX2_init := fun _ h => List.mem_cons_of_mem _ (List.mem_append_left _ (List.mem_append_right _ h))
theorem hX2_init_X2 : ∀ w ∈ u_ws RX2 TX2 2, w ∈ wsX2_init := fun _ h => List.mem_cons_of_mem _ (List.mem_append_right _ h)
set_option maxHeartbeats 4000000 in
set_option maxRecDepth 100000 in
theorem c_X2_init (g : yG) (h0 : Nat) : yMv g yX2_init wsX2_init ({ frames := 2, cells := 4, slots := 95, locals := 41 } : Room) [.ref h0] ([[(h0, .inr (2, [.null, .null]))]] : List va_W) (fun w => ∃ (A : Nat → Nat) (G : Nat → Nat → Int32), h0 = A 0 ∧ w = ([padW g A T0 G] : List va_W)) 4 95 := by
  refine y_entryV (cc := cX2_init) (maxL := 1) (by decide +kernel) rfl (Nat.le_of_ble_eq_true rfl) (fun Z C HI HR => ?_)
  have HI : yIn Z := HI rfl
  have C : yC Z g cX2_init 1 wsX2_init RX2 := C
  show yJ Z _ 0 0 _ 0 [(0, .ref h0)] []
  refine y_aload_n C dX2_init_0 0 rfl rfl ?_
  refine y_objInit C dX2_init_1 kX2_init_1 kX2_init_2 kX2_init_3 (Nat.le_of_ble_eq_true rfl) (Nat.le_of_ble_eq_true rfl) ?_
  refine y_aload_n C dX2_init_4 0 rfl rfl ?_
  refine y_new (Cn := RX3) (T := TX3) (N := 2) (ci := 3) (fs := [.null, .int 0]) (ty0 := tyX3) C dX2_init_5 hX2_init_X3 tyX3_ok kX2_init_4 kX2_init_5 kX2_init_6 rfl (fun j hj => by rcases (show j = 0 ∨ j = 1 by omega) with rfl | rfl <;> rfl) (Nat.le_of_ble_eq_true rfl) (Nat.le_of_ble_eq_true rfl) (fun q1 => ?_)
  refine y_world (L1 := ([[(h0, .inr (2, [.null, .null]))], [(q1, .inr (3, [.null, .int 0]))]] : List va_W)) rfl ?_
  refine y_dup C dX2_init_8 rfl ?_
  refine y_bipush (v := 60) C dX2_init_9 (by decide) ?_
  refine y_callI (As := [.int 60]) (rest := [.ref q1, .ref h0]) C dX2_init_11 (c_X3_init g q1 60 (by decide)) rfl rfl rfl rfl ⟨Nat.le_of_ble_eq_true rfl, Nat.le_of_ble_eq_true rfl⟩ gX2_init_X3_init kX2_init_9 kX2_init_6 kX2_init_10 rfl (nA := 1) (by decide +kernel) rfl (Nat.le_of_ble_eq_true rfl) ⟨Nat.le_of_ble_eq_true rfl, Nat.le_of_ble_eq_true rfl⟩ [1] [0] (nB := 2) rfl (by decide +kernel) rfl (fun w9 hw => ?_)
  obtain ⟨a2, h3, rfl⟩ := hw
  refine ⟨([[(h0, .inr (2, [.null, .null]))], rowW g.2.2.1 q1 a2 60 [] h3] : List va_W), ⟨rfl, Eq.trans (b := ([[(h0, .inr (2, [.null, .null]))]] : List va_W)) rfl rfl, rfl⟩, ?_⟩
  refine y_putF (Cn := RX2) (T := TX2) (N := 2) (v := .ref q1) (ty0 := tyX2) (L1 := ([[(h0, .inr (2, [.ref q1, .null]))], rowW g.2.2.1 q1 a2 60 [] h3] : List va_W)) C dX2_init_14 hX2_init_X2 0 rfl rfl 0 (Nat.le_of_ble_eq_true rfl) kX2_init_7 tyX2_ok nmX2 rfl HI rfl rfl rfl (Nat.le_of_ble_eq_true rfl) rfl ?_
  refine y_aload_n C dX2_init_17 0 rfl rfl ?_
  refine y_new (Cn := RX3) (T := TX3) (N := 2) (ci := 3) (fs := [.null, .int 0]) (ty0 := tyX3) C dX2_init_18 hX2_init_X3 tyX3_ok kX2_init_4 kX2_init_5 kX2_init_6 rfl (fun j hj => by rcases (show j = 0 ∨ j = 1 by omega) with rfl | rfl <;> rfl) (Nat.le_of_ble_eq_true rfl) (Nat.le_of_ble_eq_true rfl) (fun q4 => ?_)
  refine y_world (L1 := ([[(h0, .inr (2, [.ref q1, .null]))], rowW g.2.2.1 q1 a2 60 [] h3, [(q4, .inr (3, [.null, .int 0]))]] : List va_W)) rfl ?_
  refine y_dup C dX2_init_21 rfl ?_
  refine y_bipush (v := 31) C dX2_init_22 (by decide) ?_
  refine y_callI (As := [.int 31]) (rest := [.ref q4, .ref h0]) C dX2_init_24 (c_X3_init g q4 31 (by decide)) rfl rfl rfl rfl ⟨Nat.le_of_ble_eq_true rfl, Nat.le_of_ble_eq_true rfl⟩ gX2_init_X3_init kX2_init_9 kX2_init_6 kX2_init_10 rfl (nA := 1) (by decide +kernel) rfl (Nat.le_of_ble_eq_true rfl) ⟨Nat.le_of_ble_eq_true rfl, Nat.le_of_ble_eq_true rfl⟩ [2] [0, 1] (nB := 3) rfl (by decide +kernel) rfl (fun w9 hw => ?_)
  obtain ⟨a5, h6, rfl⟩ := hw
  refine ⟨([[(h0, .inr (2, [.ref q1, .null]))], rowW g.2.2.1 q1 a2 60 [] h3, rowW g.2.2.1 q4 a5 31 [] h6] : List va_W), ⟨rfl, Eq.trans (b := ([[(h0, .inr (2, [.ref q1, .null]))], rowW g.2.2.1 q1 a2 60 [] h3] : List va_W)) rfl rfl, rfl⟩, ?_⟩
  refine y_putF (Cn := RX2) (T := TX2) (N := 2) (v := .ref q4) (ty0 := tyX2) (L1 := ([[(h0, .inr (2, [.ref q1, .ref q4]))], rowW g.2.2.1 q1 a2 60 [] h3, rowW g.2.2.1 q4 a5 31 [] h6] : List va_W)) C dX2_init_27 hX2_init_X2 0 rfl rfl 1 (Nat.le_of_ble_eq_true rfl) kX2_init_8 tyX2_ok nmX2 rfl HI rfl rfl rfl (Nat.le_of_ble_eq_true rfl) rfl ?_
  refine y_world (L1 := ([padW g (fun n => ([h0, q1, a2, q4, a5] : List Nat).getD n 0) T0 (fun n => ([h3, h6] : List (Nat → Int32)).getD n (fun _ => 0))] : List va_W)) ?_ ?_
  · rw [List.flatten_singleton]; rfl
  · exact HR 30 dX2_init_30 _ _ _ _ (Nat.le_of_ble_eq_true rfl) (Nat.le_of_ble_eq_true rfl) ⟨_, _, rfl, rfl⟩
