theorem dX0_init_0 : decode cX0_init 0 = .ok (.aload_n 0, 1) := by decide +kernel
theorem dX0_init_1 : decode cX0_init 1 = .ok (.invokespecial 3, 3) := by decide +kernel
theorem dX0_init_4 : decode cX0_init 4 = .ok (.aload_n 0, 1) := by decide +kernel
theorem dX0_init_5 : decode cX0_init 5 = .ok (.new 9, 3) := by decide +kernel
theorem dX0_init_8 : decode cX0_init 8 = .ok (.dup, 1) := by decide +kernel
theorem dX0_init_9 : decode cX0_init 9 = .ok (.iconst 3, 1) := by decide +kernel
theorem dX0_init_10 : decode cX0_init 10 = .ok (.invokespecial 11, 3) := by decide +kernel
theorem dX0_init_13 : decode cX0_init 13 = .ok (.putfield 14, 3) := by decide +kernel
theorem dX0_init_16 : decode cX0_init 16 = .ok (.aload_n 0, 1) := by decide +kernel
theorem dX0_init_17 : decode cX0_init 17 = .ok (.new 9, 3) := by decide +kernel
theorem dX0_init_20 : decode cX0_init 20 = .ok (.dup, 1) := by decide +kernel
theorem dX0_init_21 : decode cX0_init 21 = .ok (.bipush 12, 2) := by decide +kernel
theorem dX0_init_23 : decode cX0_init 23 = .ok (.invokespecial 11, 3) := by decide +kernel
theorem dX0_init_26 : decode cX0_init 26 = .ok (.putfield 20, 3) := by decide +kernel
theorem dX0_init_29 : decode cX0_init 29 = .ok (.aload_n 0, 1) := by decide +kernel
theorem dX0_init_30 : decode cX0_init 30 = .ok (.new 9, 3) := by decide +kernel
theorem dX0_init_33 : decode cX0_init 33 = .ok (.dup, 1) := by decide +kernel
theorem dX0_init_34 : decode cX0_init 34 = .ok (.bipush 12, 2) := by decide +kernel
theorem dX0_init_36 : decode cX0_init 36 = .ok (.invokespecial 11, 3) := by decide +kernel
theorem dX0_init_39 : decode cX0_init 39 = .ok (.putfield 23, 3) := by decide +kernel
theorem dX0_init_42 : decode cX0_init 42 = .ok (.aload_n 0, 1) := by decide +kernel
theorem dX0_init_43 : decode cX0_init 43 = .ok (.new 9, 3) := by decide +kernel
theorem dX0_init_46 : decode cX0_init 46 = .ok (.dup, 1) := by decide +kernel
theorem dX0_init_47 : decode cX0_init 47 = .ok (.bipush 17, 2) := by decide +kernel
theorem dX0_init_49 : decode cX0_init 49 = .ok (.invokespecial 11, 3) := by decide +kernel
theorem dX0_init_52 : decode cX0_init 52 = .ok (.putfield 26, 3) := by decide +kernel
theorem dX0_init_55 : decode cX0_init 55 = .ok (.aload_n 0, 1) := by decide +kernel
theorem dX0_init_56 : decode cX0_init 56 = .ok (.new 9, 3) := by decide +kernel
theorem dX0_init_59 : decode cX0_init 59 = .ok (.dup, 1) := by decide +kernel
theorem dX0_init_60 : decode cX0_init 60 = .ok (.bipush 17, 2) := by decide +kernel
theorem dX0_init_62 : decode cX0_init 62 = .ok (.invokespecial 11, 3) := by decide +kernel
theorem dX0_init_65 : decode cX0_init 65 = .ok (.putfield 29, 3) := by decide +kernel
theorem dX0_init_68 : decode cX0_init 68 = .ok (.aload_n 0, 1) := by decide +kernel
theorem dX0_init_69 : decode cX0_init 69 = .ok (.new 9, 3) := by decide +kernel
theorem dX0_init_72 : decode cX0_init 72 = .ok (.dup, 1) := by decide +kernel
theorem dX0_init_73 : decode cX0_init 73 = .ok (.bipush 17, 2) := by decide +kernel
theorem dX0_init_75 : decode cX0_init 75 = .ok (.invokespecial 11, 3) := by decide +kernel
theorem dX0_init_78 : decode cX0_init 78 = .ok (.putfield 32, 3) := by decide +kernel
theorem dX0_init_81 : decode cX0_init 81 = .ok (.aload_n 0, 1) := by decide +kernel
theorem dX0_init_82 : decode cX0_init 82 = .ok (.new 9, 3) := by decide +kernel
theorem dX0_init_85 : decode cX0_init 85 = .ok (.dup, 1) := by decide +kernel
theorem dX0_init_86 : decode cX0_init 86 = .ok (.bipush 17, 2) := by decide +kernel
theorem dX0_init_88 : decode cX0_init 88 = .ok (.invokespecial 11, 3) := by decide +kernel
theorem dX0_init_91 : decode cX0_init 91 = .ok (.putfield 35, 3) := by decide +kernel
theorem dX0_init_94 : decode cX0_init 94 = .ok (.aload_n 0, 1) := by decide +kernel
theorem dX0_init_95 : decode cX0_init 95 = .ok (.new 9, 3) := by decide +kernel
theorem dX0_init_98 : decode cX0_init 98 = .ok (.dup, 1) := by decide +kernel
theorem dX0_init_99 : decode cX0_init 99 = .ok (.bipush 17, 2) := by decide +kernel
theorem dX0_init_101 : decode cX0_init 101 = .ok (.invokespecial 11, 3) := by decide +kernel
theorem dX0_init_104 : decode cX0_init 104 = .ok (.putfield 38, 3) := by decide +kernel
theorem dX0_init_107 : decode cX0_init 107 = .ok (.aload_n 0, 1) := by decide +kernel
theorem dX0_init_108 : decode cX0_init 108 = .ok (.new 9, 3) := by decide +kernel
theorem dX0_init_111 : decode cX0_init 111 = .ok (.dup, 1) := by decide +kernel
theorem dX0_init_112 : decode cX0_init 112 = .ok (.bipush 17, 2) := by decide +kernel
theorem dX0_init_114 : decode cX0_init 114 = .ok (.invokespecial 11, 3) := by decide +kernel
theorem dX0_init_117 : decode cX0_init 117 = .ok (.putfield 41, 3) := by decide +kernel
theorem dX0_init_120 : decode cX0_init 120 = .ok (.aload_n 0, 1) := by decide +kernel
theorem dX0_init_121 : decode cX0_init 121 = .ok (.new 9, 3) := by decide +kernel
theorem dX0_init_124 : decode cX0_init 124 = .ok (.dup, 1) := by decide +kernel
theorem dX0_init_125 : decode cX0_init 125 = .ok (.bipush 17, 2) := by decide +kernel
theorem dX0_init_127 : decode cX0_init 127 = .ok (.invokespecial 11, 3) := by decide +kernel
theorem dX0_init_130 : decode cX0_init 130 = .ok (.putfield 44, 3) := by decide +kernel
theorem dX0_init_133 : decode cX0_init 133 = .ok (.aload_n 0, 1) := by decide +kernel
theorem dX0_init_134 : decode cX0_init 134 = .ok (.new 9, 3) := by decide +kernel
theorem dX0_init_137 : decode cX0_init 137 = .ok (.dup, 1) := by decide +kernel
theorem dX0_init_138 : decode cX0_init 138 = .ok (.bipush 17, 2) := by decide +kernel
theorem dX0_init_140 : decode cX0_init 140 = .ok (.invokespecial 11, 3) := by decide +kernel
theorem dX0_init_143 : decode cX0_init 143 = .ok (.putfield 47, 3) := by decide +kernel
theorem dX0_init_146 : decode cX0_init 146 = .ok (.aload_n 0, 1) := by decide +kernel
theorem dX0_init_147 : decode cX0_init 147 = .ok (.new 9, 3) := by decide +kernel
theorem dX0_init_150 : decode cX0_init 150 = .ok (.dup, 1) := by decide +kernel
theorem dX0_init_151 : decode cX0_init 151 = .ok (.bipush 34, 2) := by decide +kernel
theorem dX0_init_153 : decode cX0_init 153 = .ok (.invokespecial 11, 3) := by decide +kernel
theorem dX0_init_156 : decode cX0_init 156 = .ok (.putfield 50, 3) := by decide +kernel
theorem dX0_init_159 : decode cX0_init 159 = .ok (.aload_n 0, 1) := by decide +kernel
theorem dX0_init_160 : decode cX0_init 160 = .ok (.getfield 14, 3) := by decide +kernel
theorem dX0_init_163 : decode cX0_init 163 = .ok (.iconst 3, 1) := by decide +kernel
theorem dX0_init_164 : decode cX0_init 164 = .ok (.invokevirtual 53, 3) := by decide +kernel
theorem dX0_init_167 : decode cX0_init 167 = .ok (.aload_n 0, 1) := by decide +kernel
theorem dX0_init_168 : decode cX0_init 168 = .ok (.getfield 14, 3) := by decide +kernel
theorem dX0_init_171 : decode cX0_init 171 = .ok (.bipush 10, 2) := by decide +kernel
theorem dX0_init_173 : decode cX0_init 173 = .ok (.invokevirtual 53, 3) := by decide +kernel
theorem dX0_init_176 : decode cX0_init 176 = .ok (.aload_n 0, 1) := by decide +kernel
theorem dX0_init_177 : decode cX0_init 177 = .ok (.getfield 14, 3) := by decide +kernel
theorem dX0_init_180 : decode cX0_init 180 = .ok (.iconst 1, 1) := by decide +kernel
theorem dX0_init_181 : decode cX0_init 181 = .ok (.invokevirtual 53, 3) := by decide +kernel
theorem dX0_init_184 : decode cX0_init 184 = .ok (.return_, 1) := by decide +kernel
set_option maxRecDepth 20000 in
theorem ggX0_init_X3_init : GoodIn wsX0_init wsX3_init := goodIn_r _ [21, 22, 2, 3, 23, 24, 25, 26, 27, 28, 38, 39] (by decide +kernel) (by decide +kernel)
set_option maxRecDepth 20000 in
theorem gX0_init_X3_init : GoodIn wsX0_init (wsX3_init) := ggX0_init_X3_init
set_option maxRecDepth 20000 in
theorem ggX0_init_X3_add : GoodIn wsX0_init wsX3_add := goodIn_r _ [32, 33, 34, 35, 36, 6, 37, 28, 38, 39] (by decide +kernel) (by decide +kernel)
set_option maxRecDepth 20000 in
theorem gX0_init_X3_add : GoodIn wsX0_init (wsV RX0 53 RX3 yX3_add wsX3_add) := goodIn_app (goodIn_of _ (by decide +kernel)) ggX0_init_X3_add
theorem kX0_init_1 : Cond.methodLink RX0 3 objectInit ∈ wsX0_init := List.mem_of_getElem? (i := 1) (by decide +kernel)
theorem kX0_init_2 : Cond.instanceMethod objectInit ∈ wsX0_init := List.mem_of_getElem? (i := 2) (by decide +kernel)
theorem kX0_init_3 : Cond.code objectInit ⟨#[0xb1]⟩ 1 none ∈ wsX0_init := List.mem_of_getElem? (i := 3) (by decide +kernel)
theorem kX0_init_4 : Cond.classLink RX0 9 RX3 ∈ wsX0_init := List.mem_of_getElem? (i := 4) (by decide +kernel)
theorem kX0_init_5 : Cond.instantiable RX3 2 ∈ wsX0_init := List.mem_of_getElem? (i := 5) (by decide +kernel)
theorem kX0_init_6 : Cond.initialized RX3 ∈ wsX0_init := List.mem_of_getElem? (i := 6) (by decide +kernel)
theorem kX0_init_20 : Cond.instanceMethod yX3_init ∈ wsX0_init := List.mem_of_getElem? (i := 20) (by decide +kernel)
theorem kX0_init_19 : Cond.methodLink RX0 11 yX3_init ∈ wsX0_init := List.mem_of_getElem? (i := 19) (by decide +kernel)
theorem kX0_init_7 : Cond.fieldLink RX0 14 "BookedDetours$Day" "settings" "LBookedDetours$Row;" ∈ wsX0_init := List.mem_of_getElem? (i := 7) (by decide +kernel)
theorem kX0_init_8 : Cond.fieldLink RX0 20 "BookedDetours$Day" "xs" "LBookedDetours$Row;" ∈ wsX0_init := List.mem_of_getElem? (i := 8) (by decide +kernel)
theorem kX0_init_9 : Cond.fieldLink RX0 23 "BookedDetours$Day" "ys" "LBookedDetours$Row;" ∈ wsX0_init := List.mem_of_getElem? (i := 9) (by decide +kernel)
theorem kX0_init_10 : Cond.fieldLink RX0 26 "BookedDetours$Day" "froms" "LBookedDetours$Row;" ∈ wsX0_init := List.mem_of_getElem? (i := 10) (by decide +kernel)
theorem kX0_init_11 : Cond.fieldLink RX0 29 "BookedDetours$Day" "tos" "LBookedDetours$Row;" ∈ wsX0_init := List.mem_of_getElem? (i := 11) (by decide +kernel)
theorem kX0_init_12 : Cond.fieldLink RX0 32 "BookedDetours$Day" "waits" "LBookedDetours$Row;" ∈ wsX0_init := List.mem_of_getElem? (i := 12) (by decide +kernel)
theorem kX0_init_13 : Cond.fieldLink RX0 35 "BookedDetours$Day" "bys" "LBookedDetours$Row;" ∈ wsX0_init := List.mem_of_getElem? (i := 13) (by decide +kernel)
theorem kX0_init_14 : Cond.fieldLink RX0 38 "BookedDetours$Day" "straights" "LBookedDetours$Row;" ∈ wsX0_init := List.mem_of_getElem? (i := 14) (by decide +kernel)
theorem kX0_init_15 : Cond.fieldLink RX0 41 "BookedDetours$Day" "stands" "LBookedDetours$Row;" ∈ wsX0_init := List.mem_of_getElem? (i := 15) (by decide +kernel)
theorem kX0_init_16 : Cond.fieldLink RX0 44 "BookedDetours$Day" "picks" "LBookedDetours$Row;" ∈ wsX0_init := List.mem_of_getElem? (i := 16) (by decide +kernel)
theorem kX0_init_17 : Cond.fieldLink RX0 47 "BookedDetours$Day" "downs" "LBookedDetours$Row;" ∈ wsX0_init := List.mem_of_getElem? (i := 17) (by decide +kernel)
theorem kX0_init_18 : Cond.fieldLink RX0 50 "BookedDetours$Day" "route" "LBookedDetours$Row;" ∈ wsX0_init := List.mem_of_getElem? (i := 18) (by decide +kernel)
theorem hX0_init_X3 : ∀ w ∈ u_ws RX3 TX3 2, w ∈ wsX0_init := fun _ h => List.mem_cons_of_mem _ (List.mem_append_left _ (List.mem_append_right _ h))
theorem hX0_init_X0 : ∀ w ∈ u_ws RX0 TX0 15, w ∈ wsX0_init := fun _ h => List.mem_cons_of_mem _ (List.mem_append_right _ h)
set_option maxHeartbeats 4000000 in
set_option maxRecDepth 100000 in
theorem c_X0_init (g : yG) (h0 : Nat) : yMv g yX0_init wsX0_init ({ frames := 2, cells := 24, slots := 221, locals := 44 } : Room) [.ref h0] ([[(h0, .inr (0, [.null, .null, .null, .null, .null, .null, .null, .null, .null, .null, .null, .null, .int 0, .int 0, .int 0]))]] : List va_W) (fun w => ∃ (A : Nat → Nat) (G : Nat → Nat → Int32), h0 = A 0 ∧ w = ([dayW g A D0 G] : List va_W)) 24 221 := by
  refine y_entryV (cc := cX0_init) (maxL := 1) (by decide +kernel) rfl (Nat.le_of_ble_eq_true rfl) (fun Z C HI HR => ?_)
  have HI : yIn Z := HI rfl
  have C : yC Z g cX0_init 1 wsX0_init RX0 := C
  show yJ Z _ 0 0 _ 0 [(0, .ref h0)] []
  refine y_aload_n C dX0_init_0 0 rfl rfl ?_
  refine y_objInit C dX0_init_1 kX0_init_1 kX0_init_2 kX0_init_3 (Nat.le_of_ble_eq_true rfl) (Nat.le_of_ble_eq_true rfl) ?_
  refine y_aload_n C dX0_init_4 0 rfl rfl ?_
  refine y_new (Cn := RX3) (T := TX3) (N := 2) (ci := 3) (fs := [.null, .int 0]) (ty0 := tyX3) C dX0_init_5 hX0_init_X3 tyX3_ok kX0_init_4 kX0_init_5 kX0_init_6 rfl (fun j hj => by rcases (show j = 0 ∨ j = 1 by omega) with rfl | rfl <;> rfl) (Nat.le_of_ble_eq_true rfl) (Nat.le_of_ble_eq_true rfl) (fun q1 => ?_)
  refine y_world (L1 := ([[(h0, .inr (0, [.null, .null, .null, .null, .null, .null, .null, .null, .null, .null, .null, .null, .int 0, .int 0, .int 0]))], [(q1, .inr (3, [.null, .int 0]))]] : List va_W)) rfl ?_
  refine y_dup C dX0_init_8 rfl ?_
  refine y_iconst (v := 3) C dX0_init_9 (by decide) ?_
  refine y_callI (As := [.int 3]) (rest := [.ref q1, .ref h0]) C dX0_init_10 (c_X3_init g q1 3 (by decide)) rfl rfl rfl rfl ⟨Nat.le_of_ble_eq_true rfl, Nat.le_of_ble_eq_true rfl⟩ gX0_init_X3_init kX0_init_19 kX0_init_6 kX0_init_20 rfl (nA := 1) (by decide +kernel) rfl (Nat.le_of_ble_eq_true rfl) ⟨Nat.le_of_ble_eq_true rfl, Nat.le_of_ble_eq_true rfl⟩ [1] [0] (nB := 2) rfl (by decide +kernel) rfl (fun w9 hw => ?_)
  obtain ⟨a2, h3, rfl⟩ := hw
  refine ⟨([[(h0, .inr (0, [.null, .null, .null, .null, .null, .null, .null, .null, .null, .null, .null, .null, .int 0, .int 0, .int 0]))], rowW g.2.2.1 q1 a2 3 [] h3] : List va_W), ⟨rfl, Eq.trans (b := ([[(h0, .inr (0, [.null, .null, .null, .null, .null, .null, .null, .null, .null, .null, .null, .null, .int 0, .int 0, .int 0]))]] : List va_W)) rfl rfl, rfl⟩, ?_⟩
  refine y_putF (Cn := RX0) (T := TX0) (N := 15) (v := .ref q1) (ty0 := tyX0) (L1 := ([[(h0, .inr (0, [.ref q1, .null, .null, .null, .null, .null, .null, .null, .null, .null, .null, .null, .int 0, .int 0, .int 0]))], rowW g.2.2.1 q1 a2 3 [] h3] : List va_W)) C dX0_init_13 hX0_init_X0 0 rfl rfl 0 (Nat.le_of_ble_eq_true rfl) kX0_init_7 tyX0_ok nmX0 rfl HI rfl rfl rfl (Nat.le_of_ble_eq_true rfl) rfl ?_
  refine y_aload_n C dX0_init_16 0 rfl rfl ?_
  refine y_new (Cn := RX3) (T := TX3) (N := 2) (ci := 3) (fs := [.null, .int 0]) (ty0 := tyX3) C dX0_init_17 hX0_init_X3 tyX3_ok kX0_init_4 kX0_init_5 kX0_init_6 rfl (fun j hj => by rcases (show j = 0 ∨ j = 1 by omega) with rfl | rfl <;> rfl) (Nat.le_of_ble_eq_true rfl) (Nat.le_of_ble_eq_true rfl) (fun q4 => ?_)
  refine y_world (L1 := ([[(h0, .inr (0, [.ref q1, .null, .null, .null, .null, .null, .null, .null, .null, .null, .null, .null, .int 0, .int 0, .int 0]))], rowW g.2.2.1 q1 a2 3 [] h3, [(q4, .inr (3, [.null, .int 0]))]] : List va_W)) rfl ?_
  refine y_dup C dX0_init_20 rfl ?_
  refine y_bipush (v := 12) C dX0_init_21 (by decide) ?_
  refine y_callI (As := [.int 12]) (rest := [.ref q4, .ref h0]) C dX0_init_23 (c_X3_init g q4 12 (by decide)) rfl rfl rfl rfl ⟨Nat.le_of_ble_eq_true rfl, Nat.le_of_ble_eq_true rfl⟩ gX0_init_X3_init kX0_init_19 kX0_init_6 kX0_init_20 rfl (nA := 1) (by decide +kernel) rfl (Nat.le_of_ble_eq_true rfl) ⟨Nat.le_of_ble_eq_true rfl, Nat.le_of_ble_eq_true rfl⟩ [2] [0, 1] (nB := 3) rfl (by decide +kernel) rfl (fun w9 hw => ?_)
  obtain ⟨a5, h6, rfl⟩ := hw
  refine ⟨([[(h0, .inr (0, [.ref q1, .null, .null, .null, .null, .null, .null, .null, .null, .null, .null, .null, .int 0, .int 0, .int 0]))], rowW g.2.2.1 q1 a2 3 [] h3, rowW g.2.2.1 q4 a5 12 [] h6] : List va_W), ⟨rfl, Eq.trans (b := ([[(h0, .inr (0, [.ref q1, .null, .null, .null, .null, .null, .null, .null, .null, .null, .null, .null, .int 0, .int 0, .int 0]))], rowW g.2.2.1 q1 a2 3 [] h3] : List va_W)) rfl rfl, rfl⟩, ?_⟩
  refine y_putF (Cn := RX0) (T := TX0) (N := 15) (v := .ref q4) (ty0 := tyX0) (L1 := ([[(h0, .inr (0, [.ref q1, .ref q4, .null, .null, .null, .null, .null, .null, .null, .null, .null, .null, .int 0, .int 0, .int 0]))], rowW g.2.2.1 q1 a2 3 [] h3, rowW g.2.2.1 q4 a5 12 [] h6] : List va_W)) C dX0_init_26 hX0_init_X0 0 rfl rfl 1 (Nat.le_of_ble_eq_true rfl) kX0_init_8 tyX0_ok nmX0 rfl HI rfl rfl rfl (Nat.le_of_ble_eq_true rfl) rfl ?_
  refine y_aload_n C dX0_init_29 0 rfl rfl ?_
  refine y_new (Cn := RX3) (T := TX3) (N := 2) (ci := 3) (fs := [.null, .int 0]) (ty0 := tyX3) C dX0_init_30 hX0_init_X3 tyX3_ok kX0_init_4 kX0_init_5 kX0_init_6 rfl (fun j hj => by rcases (show j = 0 ∨ j = 1 by omega) with rfl | rfl <;> rfl) (Nat.le_of_ble_eq_true rfl) (Nat.le_of_ble_eq_true rfl) (fun q7 => ?_)
  refine y_world (L1 := ([[(h0, .inr (0, [.ref q1, .ref q4, .null, .null, .null, .null, .null, .null, .null, .null, .null, .null, .int 0, .int 0, .int 0]))], rowW g.2.2.1 q1 a2 3 [] h3, rowW g.2.2.1 q4 a5 12 [] h6, [(q7, .inr (3, [.null, .int 0]))]] : List va_W)) rfl ?_
  refine y_dup C dX0_init_33 rfl ?_
  refine y_bipush (v := 12) C dX0_init_34 (by decide) ?_
  refine y_callI (As := [.int 12]) (rest := [.ref q7, .ref h0]) C dX0_init_36 (c_X3_init g q7 12 (by decide)) rfl rfl rfl rfl ⟨Nat.le_of_ble_eq_true rfl, Nat.le_of_ble_eq_true rfl⟩ gX0_init_X3_init kX0_init_19 kX0_init_6 kX0_init_20 rfl (nA := 1) (by decide +kernel) rfl (Nat.le_of_ble_eq_true rfl) ⟨Nat.le_of_ble_eq_true rfl, Nat.le_of_ble_eq_true rfl⟩ [3] [0, 1, 2] (nB := 4) rfl (by decide +kernel) rfl (fun w9 hw => ?_)
  obtain ⟨a8, h9, rfl⟩ := hw
  refine ⟨([[(h0, .inr (0, [.ref q1, .ref q4, .null, .null, .null, .null, .null, .null, .null, .null, .null, .null, .int 0, .int 0, .int 0]))], rowW g.2.2.1 q1 a2 3 [] h3, rowW g.2.2.1 q4 a5 12 [] h6, rowW g.2.2.1 q7 a8 12 [] h9] : List va_W), ⟨rfl, Eq.trans (b := ([[(h0, .inr (0, [.ref q1, .ref q4, .null, .null, .null, .null, .null, .null, .null, .null, .null, .null, .int 0, .int 0, .int 0]))], rowW g.2.2.1 q1 a2 3 [] h3, rowW g.2.2.1 q4 a5 12 [] h6] : List va_W)) rfl rfl, rfl⟩, ?_⟩
  refine y_putF (Cn := RX0) (T := TX0) (N := 15) (v := .ref q7) (ty0 := tyX0) (L1 := ([[(h0, .inr (0, [.ref q1, .ref q4, .ref q7, .null, .null, .null, .null, .null, .null, .null, .null, .null, .int 0, .int 0, .int 0]))], rowW g.2.2.1 q1 a2 3 [] h3, rowW g.2.2.1 q4 a5 12 [] h6, rowW g.2.2.1 q7 a8 12 [] h9] : List va_W)) C dX0_init_39 hX0_init_X0 0 rfl rfl 2 (Nat.le_of_ble_eq_true rfl) kX0_init_9 tyX0_ok nmX0 rfl HI rfl rfl rfl (Nat.le_of_ble_eq_true rfl) rfl ?_
  refine y_aload_n C dX0_init_42 0 rfl rfl ?_
  refine y_new (Cn := RX3) (T := TX3) (N := 2) (ci := 3) (fs := [.null, .int 0]) (ty0 := tyX3) C dX0_init_43 hX0_init_X3 tyX3_ok kX0_init_4 kX0_init_5 kX0_init_6 rfl (fun j hj => by rcases (show j = 0 ∨ j = 1 by omega) with rfl | rfl <;> rfl) (Nat.le_of_ble_eq_true rfl) (Nat.le_of_ble_eq_true rfl) (fun q10 => ?_)
  refine y_world (L1 := ([[(h0, .inr (0, [.ref q1, .ref q4, .ref q7, .null, .null, .null, .null, .null, .null, .null, .null, .null, .int 0, .int 0, .int 0]))], rowW g.2.2.1 q1 a2 3 [] h3, rowW g.2.2.1 q4 a5 12 [] h6, rowW g.2.2.1 q7 a8 12 [] h9, [(q10, .inr (3, [.null, .int 0]))]] : List va_W)) rfl ?_
  refine y_dup C dX0_init_46 rfl ?_
  refine y_bipush (v := 17) C dX0_init_47 (by decide) ?_
  refine y_callI (As := [.int 17]) (rest := [.ref q10, .ref h0]) C dX0_init_49 (c_X3_init g q10 17 (by decide)) rfl rfl rfl rfl ⟨Nat.le_of_ble_eq_true rfl, Nat.le_of_ble_eq_true rfl⟩ gX0_init_X3_init kX0_init_19 kX0_init_6 kX0_init_20 rfl (nA := 1) (by decide +kernel) rfl (Nat.le_of_ble_eq_true rfl) ⟨Nat.le_of_ble_eq_true rfl, Nat.le_of_ble_eq_true rfl⟩ [4] [0, 1, 2, 3] (nB := 5) rfl (by decide +kernel) rfl (fun w9 hw => ?_)
  obtain ⟨a11, h12, rfl⟩ := hw
  refine ⟨([[(h0, .inr (0, [.ref q1, .ref q4, .ref q7, .null, .null, .null, .null, .null, .null, .null, .null, .null, .int 0, .int 0, .int 0]))], rowW g.2.2.1 q1 a2 3 [] h3, rowW g.2.2.1 q4 a5 12 [] h6, rowW g.2.2.1 q7 a8 12 [] h9, rowW g.2.2.1 q10 a11 17 [] h12] : List va_W), ⟨rfl, Eq.trans (b := ([[(h0, .inr (0, [.ref q1, .ref q4, .ref q7, .null, .null, .null, .null, .null, .null, .null, .null, .null, .int 0, .int 0, .int 0]))], rowW g.2.2.1 q1 a2 3 [] h3, rowW g.2.2.1 q4 a5 12 [] h6, rowW g.2.2.1 q7 a8 12 [] h9] : List va_W)) rfl rfl, rfl⟩, ?_⟩
  refine y_putF (Cn := RX0) (T := TX0) (N := 15) (v := .ref q10) (ty0 := tyX0) (L1 := ([[(h0, .inr (0, [.ref q1, .ref q4, .ref q7, .ref q10, .null, .null, .null, .null, .null, .null, .null, .null, .int 0, .int 0, .int 0]))], rowW g.2.2.1 q1 a2 3 [] h3, rowW g.2.2.1 q4 a5 12 [] h6, rowW g.2.2.1 q7 a8 12 [] h9, rowW g.2.2.1 q10 a11 17 [] h12] : List va_W)) C dX0_init_52 hX0_init_X0 0 rfl rfl 3 (Nat.le_of_ble_eq_true rfl) kX0_init_10 tyX0_ok nmX0 rfl HI rfl rfl rfl (Nat.le_of_ble_eq_true rfl) rfl ?_
  refine y_aload_n C dX0_init_55 0 rfl rfl ?_
  refine y_new (Cn := RX3) (T := TX3) (N := 2) (ci := 3) (fs := [.null, .int 0]) (ty0 := tyX3) C dX0_init_56 hX0_init_X3 tyX3_ok kX0_init_4 kX0_init_5 kX0_init_6 rfl (fun j hj => by rcases (show j = 0 ∨ j = 1 by omega) with rfl | rfl <;> rfl) (Nat.le_of_ble_eq_true rfl) (Nat.le_of_ble_eq_true rfl) (fun q13 => ?_)
  refine y_world (L1 := ([[(h0, .inr (0, [.ref q1, .ref q4, .ref q7, .ref q10, .null, .null, .null, .null, .null, .null, .null, .null, .int 0, .int 0, .int 0]))], rowW g.2.2.1 q1 a2 3 [] h3, rowW g.2.2.1 q4 a5 12 [] h6, rowW g.2.2.1 q7 a8 12 [] h9, rowW g.2.2.1 q10 a11 17 [] h12, [(q13, .inr (3, [.null, .int 0]))]] : List va_W)) rfl ?_
  refine y_dup C dX0_init_59 rfl ?_
  refine y_bipush (v := 17) C dX0_init_60 (by decide) ?_
  refine y_callI (As := [.int 17]) (rest := [.ref q13, .ref h0]) C dX0_init_62 (c_X3_init g q13 17 (by decide)) rfl rfl rfl rfl ⟨Nat.le_of_ble_eq_true rfl, Nat.le_of_ble_eq_true rfl⟩ gX0_init_X3_init kX0_init_19 kX0_init_6 kX0_init_20 rfl (nA := 1) (by decide +kernel) rfl (Nat.le_of_ble_eq_true rfl) ⟨Nat.le_of_ble_eq_true rfl, Nat.le_of_ble_eq_true rfl⟩ [5] [0, 1, 2, 3, 4] (nB := 6) rfl (by decide +kernel) rfl (fun w9 hw => ?_)
  obtain ⟨a14, h15, rfl⟩ := hw
  refine ⟨([[(h0, .inr (0, [.ref q1, .ref q4, .ref q7, .ref q10, .null, .null, .null, .null, .null, .null, .null, .null, .int 0, .int 0, .int 0]))], rowW g.2.2.1 q1 a2 3 [] h3, rowW g.2.2.1 q4 a5 12 [] h6, rowW g.2.2.1 q7 a8 12 [] h9, rowW g.2.2.1 q10 a11 17 [] h12, rowW g.2.2.1 q13 a14 17 [] h15] : List va_W), ⟨rfl, Eq.trans (b := ([[(h0, .inr (0, [.ref q1, .ref q4, .ref q7, .ref q10, .null, .null, .null, .null, .null, .null, .null, .null, .int 0, .int 0, .int 0]))], rowW g.2.2.1 q1 a2 3 [] h3, rowW g.2.2.1 q4 a5 12 [] h6, rowW g.2.2.1 q7 a8 12 [] h9, rowW g.2.2.1 q10 a11 17 [] h12] : List va_W)) rfl rfl, rfl⟩, ?_⟩
  refine y_putF (Cn := RX0) (T := TX0) (N := 15) (v := .ref q13) (ty0 := tyX0) (L1 := ([[(h0, .inr (0, [.ref q1, .ref q4, .ref q7, .ref q10, .ref q13, .null, .null, .null, .null, .null, .null, .null, .int 0, .int 0, .int 0]))], rowW g.2.2.1 q1 a2 3 [] h3, rowW g.2.2.1 q4 a5 12 [] h6, rowW g.2.2.1 q7 a8 12 [] h9, rowW g.2.2.1 q10 a11 17 [] h12, rowW g.2.2.1 q13 a14 17 [] h15] : List va_W)) C dX0_init_65 hX0_init_X0 0 rfl rfl 4 (Nat.le_of_ble_eq_true rfl) kX0_init_11 tyX0_ok nmX0 rfl HI rfl rfl rfl (Nat.le_of_ble_eq_true rfl) rfl ?_
  refine y_aload_n C dX0_init_68 0 rfl rfl ?_
  refine y_new (Cn := RX3) (T := TX3) (N := 2) (ci := 3) (fs := [.null, .int 0]) (ty0 := tyX3) C dX0_init_69 hX0_init_X3 tyX3_ok kX0_init_4 kX0_init_5 kX0_init_6 rfl (fun j hj => by rcases (show j = 0 ∨ j = 1 by omega) with rfl | rfl <;> rfl) (Nat.le_of_ble_eq_true rfl) (Nat.le_of_ble_eq_true rfl) (fun q16 => ?_)
  refine y_world (L1 := ([[(h0, .inr (0, [.ref q1, .ref q4, .ref q7, .ref q10, .ref q13, .null, .null, .null, .null, .null, .null, .null, .int 0, .int 0, .int 0]))], rowW g.2.2.1 q1 a2 3 [] h3, rowW g.2.2.1 q4 a5 12 [] h6, rowW g.2.2.1 q7 a8 12 [] h9, rowW g.2.2.1 q10 a11 17 [] h12, rowW g.2.2.1 q13 a14 17 [] h15, [(q16, .inr (3, [.null, .int 0]))]] : List va_W)) rfl ?_
  refine y_dup C dX0_init_72 rfl ?_
  refine y_bipush (v := 17) C dX0_init_73 (by decide) ?_
  refine y_callI (As := [.int 17]) (rest := [.ref q16, .ref h0]) C dX0_init_75 (c_X3_init g q16 17 (by decide)) rfl rfl rfl rfl ⟨Nat.le_of_ble_eq_true rfl, Nat.le_of_ble_eq_true rfl⟩ gX0_init_X3_init kX0_init_19 kX0_init_6 kX0_init_20 rfl (nA := 1) (by decide +kernel) rfl (Nat.le_of_ble_eq_true rfl) ⟨Nat.le_of_ble_eq_true rfl, Nat.le_of_ble_eq_true rfl⟩ [6] [0, 1, 2, 3, 4, 5] (nB := 7) rfl (by decide +kernel) rfl (fun w9 hw => ?_)
  obtain ⟨a17, h18, rfl⟩ := hw
  refine ⟨([[(h0, .inr (0, [.ref q1, .ref q4, .ref q7, .ref q10, .ref q13, .null, .null, .null, .null, .null, .null, .null, .int 0, .int 0, .int 0]))], rowW g.2.2.1 q1 a2 3 [] h3, rowW g.2.2.1 q4 a5 12 [] h6, rowW g.2.2.1 q7 a8 12 [] h9, rowW g.2.2.1 q10 a11 17 [] h12, rowW g.2.2.1 q13 a14 17 [] h15, rowW g.2.2.1 q16 a17 17 [] h18] : List va_W), ⟨rfl, Eq.trans (b := ([[(h0, .inr (0, [.ref q1, .ref q4, .ref q7, .ref q10, .ref q13, .null, .null, .null, .null, .null, .null, .null, .int 0, .int 0, .int 0]))], rowW g.2.2.1 q1 a2 3 [] h3, rowW g.2.2.1 q4 a5 12 [] h6, rowW g.2.2.1 q7 a8 12 [] h9, rowW g.2.2.1 q10 a11 17 [] h12, rowW g.2.2.1 q13 a14 17 [] h15] : List va_W)) rfl rfl, rfl⟩, ?_⟩
  refine y_putF (Cn := RX0) (T := TX0) (N := 15) (v := .ref q16) (ty0 := tyX0) (L1 := ([[(h0, .inr (0, [.ref q1, .ref q4, .ref q7, .ref q10, .ref q13, .ref q16, .null, .null, .null, .null, .null, .null, .int 0, .int 0, .int 0]))], rowW g.2.2.1 q1 a2 3 [] h3, rowW g.2.2.1 q4 a5 12 [] h6, rowW g.2.2.1 q7 a8 12 [] h9, rowW g.2.2.1 q10 a11 17 [] h12, rowW g.2.2.1 q13 a14 17 [] h15, rowW g.2.2.1 q16 a17 17 [] h18] : List va_W)) C dX0_init_78 hX0_init_X0 0 rfl rfl 5 (Nat.le_of_ble_eq_true rfl) kX0_init_12 tyX0_ok nmX0 rfl HI rfl rfl rfl (Nat.le_of_ble_eq_true rfl) rfl ?_
  refine y_aload_n C dX0_init_81 0 rfl rfl ?_
  refine y_new (Cn := RX3) (T := TX3) (N := 2) (ci := 3) (fs := [.null, .int 0]) (ty0 := tyX3) C dX0_init_82 hX0_init_X3 tyX3_ok kX0_init_4 kX0_init_5 kX0_init_6 rfl (fun j hj => by rcases (show j = 0 ∨ j = 1 by omega) with rfl | rfl <;> rfl) (Nat.le_of_ble_eq_true rfl) (Nat.le_of_ble_eq_true rfl) (fun q19 => ?_)
  refine y_world (L1 := ([[(h0, .inr (0, [.ref q1, .ref q4, .ref q7, .ref q10, .ref q13, .ref q16, .null, .null, .null, .null, .null, .null, .int 0, .int 0, .int 0]))], rowW g.2.2.1 q1 a2 3 [] h3, rowW g.2.2.1 q4 a5 12 [] h6, rowW g.2.2.1 q7 a8 12 [] h9, rowW g.2.2.1 q10 a11 17 [] h12, rowW g.2.2.1 q13 a14 17 [] h15, rowW g.2.2.1 q16 a17 17 [] h18, [(q19, .inr (3, [.null, .int 0]))]] : List va_W)) rfl ?_
  refine y_dup C dX0_init_85 rfl ?_
  refine y_bipush (v := 17) C dX0_init_86 (by decide) ?_
  refine y_callI (As := [.int 17]) (rest := [.ref q19, .ref h0]) C dX0_init_88 (c_X3_init g q19 17 (by decide)) rfl rfl rfl rfl ⟨Nat.le_of_ble_eq_true rfl, Nat.le_of_ble_eq_true rfl⟩ gX0_init_X3_init kX0_init_19 kX0_init_6 kX0_init_20 rfl (nA := 1) (by decide +kernel) rfl (Nat.le_of_ble_eq_true rfl) ⟨Nat.le_of_ble_eq_true rfl, Nat.le_of_ble_eq_true rfl⟩ [7] [0, 1, 2, 3, 4, 5, 6] (nB := 8) rfl (by decide +kernel) rfl (fun w9 hw => ?_)
  obtain ⟨a20, h21, rfl⟩ := hw
  refine ⟨([[(h0, .inr (0, [.ref q1, .ref q4, .ref q7, .ref q10, .ref q13, .ref q16, .null, .null, .null, .null, .null, .null, .int 0, .int 0, .int 0]))], rowW g.2.2.1 q1 a2 3 [] h3, rowW g.2.2.1 q4 a5 12 [] h6, rowW g.2.2.1 q7 a8 12 [] h9, rowW g.2.2.1 q10 a11 17 [] h12, rowW g.2.2.1 q13 a14 17 [] h15, rowW g.2.2.1 q16 a17 17 [] h18, rowW g.2.2.1 q19 a20 17 [] h21] : List va_W), ⟨rfl, Eq.trans (b := ([[(h0, .inr (0, [.ref q1, .ref q4, .ref q7, .ref q10, .ref q13, .ref q16, .null, .null, .null, .null, .null, .null, .int 0, .int 0, .int 0]))], rowW g.2.2.1 q1 a2 3 [] h3, rowW g.2.2.1 q4 a5 12 [] h6, rowW g.2.2.1 q7 a8 12 [] h9, rowW g.2.2.1 q10 a11 17 [] h12, rowW g.2.2.1 q13 a14 17 [] h15, rowW g.2.2.1 q16 a17 17 [] h18] : List va_W)) rfl rfl, rfl⟩, ?_⟩
  refine y_putF (Cn := RX0) (T := TX0) (N := 15) (v := .ref q19) (ty0 := tyX0) (L1 := ([[(h0, .inr (0, [.ref q1, .ref q4, .ref q7, .ref q10, .ref q13, .ref q16, .ref q19, .null, .null, .null, .null, .null, .int 0, .int 0, .int 0]))], rowW g.2.2.1 q1 a2 3 [] h3, rowW g.2.2.1 q4 a5 12 [] h6, rowW g.2.2.1 q7 a8 12 [] h9, rowW g.2.2.1 q10 a11 17 [] h12, rowW g.2.2.1 q13 a14 17 [] h15, rowW g.2.2.1 q16 a17 17 [] h18, rowW g.2.2.1 q19 a20 17 [] h21] : List va_W)) C dX0_init_91 hX0_init_X0 0 rfl rfl 6 (Nat.le_of_ble_eq_true rfl) kX0_init_13 tyX0_ok nmX0 rfl HI rfl rfl rfl (Nat.le_of_ble_eq_true rfl) rfl ?_
  refine y_aload_n C dX0_init_94 0 rfl rfl ?_
  refine y_new (Cn := RX3) (T := TX3) (N := 2) (ci := 3) (fs := [.null, .int 0]) (ty0 := tyX3) C dX0_init_95 hX0_init_X3 tyX3_ok kX0_init_4 kX0_init_5 kX0_init_6 rfl (fun j hj => by rcases (show j = 0 ∨ j = 1 by omega) with rfl | rfl <;> rfl) (Nat.le_of_ble_eq_true rfl) (Nat.le_of_ble_eq_true rfl) (fun q22 => ?_)
  refine y_world (L1 := ([[(h0, .inr (0, [.ref q1, .ref q4, .ref q7, .ref q10, .ref q13, .ref q16, .ref q19, .null, .null, .null, .null, .null, .int 0, .int 0, .int 0]))], rowW g.2.2.1 q1 a2 3 [] h3, rowW g.2.2.1 q4 a5 12 [] h6, rowW g.2.2.1 q7 a8 12 [] h9, rowW g.2.2.1 q10 a11 17 [] h12, rowW g.2.2.1 q13 a14 17 [] h15, rowW g.2.2.1 q16 a17 17 [] h18, rowW g.2.2.1 q19 a20 17 [] h21, [(q22, .inr (3, [.null, .int 0]))]] : List va_W)) rfl ?_
  refine y_dup C dX0_init_98 rfl ?_
  refine y_bipush (v := 17) C dX0_init_99 (by decide) ?_
  refine y_callI (As := [.int 17]) (rest := [.ref q22, .ref h0]) C dX0_init_101 (c_X3_init g q22 17 (by decide)) rfl rfl rfl rfl ⟨Nat.le_of_ble_eq_true rfl, Nat.le_of_ble_eq_true rfl⟩ gX0_init_X3_init kX0_init_19 kX0_init_6 kX0_init_20 rfl (nA := 1) (by decide +kernel) rfl (Nat.le_of_ble_eq_true rfl) ⟨Nat.le_of_ble_eq_true rfl, Nat.le_of_ble_eq_true rfl⟩ [8] [0, 1, 2, 3, 4, 5, 6, 7] (nB := 9) rfl (by decide +kernel) rfl (fun w9 hw => ?_)
  obtain ⟨a23, h24, rfl⟩ := hw
  refine ⟨([[(h0, .inr (0, [.ref q1, .ref q4, .ref q7, .ref q10, .ref q13, .ref q16, .ref q19, .null, .null, .null, .null, .null, .int 0, .int 0, .int 0]))], rowW g.2.2.1 q1 a2 3 [] h3, rowW g.2.2.1 q4 a5 12 [] h6, rowW g.2.2.1 q7 a8 12 [] h9, rowW g.2.2.1 q10 a11 17 [] h12, rowW g.2.2.1 q13 a14 17 [] h15, rowW g.2.2.1 q16 a17 17 [] h18, rowW g.2.2.1 q19 a20 17 [] h21, rowW g.2.2.1 q22 a23 17 [] h24] : List va_W), ⟨rfl, Eq.trans (b := ([[(h0, .inr (0, [.ref q1, .ref q4, .ref q7, .ref q10, .ref q13, .ref q16, .ref q19, .null, .null, .null, .null, .null, .int 0, .int 0, .int 0]))], rowW g.2.2.1 q1 a2 3 [] h3, rowW g.2.2.1 q4 a5 12 [] h6, rowW g.2.2.1 q7 a8 12 [] h9, rowW g.2.2.1 q10 a11 17 [] h12, rowW g.2.2.1 q13 a14 17 [] h15, rowW g.2.2.1 q16 a17 17 [] h18, rowW g.2.2.1 q19 a20 17 [] h21] : List va_W)) rfl rfl, rfl⟩, ?_⟩
  refine y_putF (Cn := RX0) (T := TX0) (N := 15) (v := .ref q22) (ty0 := tyX0) (L1 := ([[(h0, .inr (0, [.ref q1, .ref q4, .ref q7, .ref q10, .ref q13, .ref q16, .ref q19, .ref q22, .null, .null, .null, .null, .int 0, .int 0, .int 0]))], rowW g.2.2.1 q1 a2 3 [] h3, rowW g.2.2.1 q4 a5 12 [] h6, rowW g.2.2.1 q7 a8 12 [] h9, rowW g.2.2.1 q10 a11 17 [] h12, rowW g.2.2.1 q13 a14 17 [] h15, rowW g.2.2.1 q16 a17 17 [] h18, rowW g.2.2.1 q19 a20 17 [] h21, rowW g.2.2.1 q22 a23 17 [] h24] : List va_W)) C dX0_init_104 hX0_init_X0 0 rfl rfl 7 (Nat.le_of_ble_eq_true rfl) kX0_init_14 tyX0_ok nmX0 rfl HI rfl rfl rfl (Nat.le_of_ble_eq_true rfl) rfl ?_
  refine y_aload_n C dX0_init_107 0 rfl rfl ?_
  refine y_new (Cn := RX3) (T := TX3) (N := 2) (ci := 3) (fs := [.null, .int 0]) (ty0 := tyX3) C dX0_init_108 hX0_init_X3 tyX3_ok kX0_init_4 kX0_init_5 kX0_init_6 rfl (fun j hj => by rcases (show j = 0 ∨ j = 1 by omega) with rfl | rfl <;> rfl) (Nat.le_of_ble_eq_true rfl) (Nat.le_of_ble_eq_true rfl) (fun q25 => ?_)
  refine y_world (L1 := ([[(h0, .inr (0, [.ref q1, .ref q4, .ref q7, .ref q10, .ref q13, .ref q16, .ref q19, .ref q22, .null, .null, .null, .null, .int 0, .int 0, .int 0]))], rowW g.2.2.1 q1 a2 3 [] h3, rowW g.2.2.1 q4 a5 12 [] h6, rowW g.2.2.1 q7 a8 12 [] h9, rowW g.2.2.1 q10 a11 17 [] h12, rowW g.2.2.1 q13 a14 17 [] h15, rowW g.2.2.1 q16 a17 17 [] h18, rowW g.2.2.1 q19 a20 17 [] h21, rowW g.2.2.1 q22 a23 17 [] h24, [(q25, .inr (3, [.null, .int 0]))]] : List va_W)) rfl ?_
  refine y_dup C dX0_init_111 rfl ?_
  refine y_bipush (v := 17) C dX0_init_112 (by decide) ?_
  refine y_callI (As := [.int 17]) (rest := [.ref q25, .ref h0]) C dX0_init_114 (c_X3_init g q25 17 (by decide)) rfl rfl rfl rfl ⟨Nat.le_of_ble_eq_true rfl, Nat.le_of_ble_eq_true rfl⟩ gX0_init_X3_init kX0_init_19 kX0_init_6 kX0_init_20 rfl (nA := 1) (by decide +kernel) rfl (Nat.le_of_ble_eq_true rfl) ⟨Nat.le_of_ble_eq_true rfl, Nat.le_of_ble_eq_true rfl⟩ [9] [0, 1, 2, 3, 4, 5, 6, 7, 8] (nB := 10) rfl (by decide +kernel) rfl (fun w9 hw => ?_)
  obtain ⟨a26, h27, rfl⟩ := hw
  refine ⟨([[(h0, .inr (0, [.ref q1, .ref q4, .ref q7, .ref q10, .ref q13, .ref q16, .ref q19, .ref q22, .null, .null, .null, .null, .int 0, .int 0, .int 0]))], rowW g.2.2.1 q1 a2 3 [] h3, rowW g.2.2.1 q4 a5 12 [] h6, rowW g.2.2.1 q7 a8 12 [] h9, rowW g.2.2.1 q10 a11 17 [] h12, rowW g.2.2.1 q13 a14 17 [] h15, rowW g.2.2.1 q16 a17 17 [] h18, rowW g.2.2.1 q19 a20 17 [] h21, rowW g.2.2.1 q22 a23 17 [] h24, rowW g.2.2.1 q25 a26 17 [] h27] : List va_W), ⟨rfl, Eq.trans (b := ([[(h0, .inr (0, [.ref q1, .ref q4, .ref q7, .ref q10, .ref q13, .ref q16, .ref q19, .ref q22, .null, .null, .null, .null, .int 0, .int 0, .int 0]))], rowW g.2.2.1 q1 a2 3 [] h3, rowW g.2.2.1 q4 a5 12 [] h6, rowW g.2.2.1 q7 a8 12 [] h9, rowW g.2.2.1 q10 a11 17 [] h12, rowW g.2.2.1 q13 a14 17 [] h15, rowW g.2.2.1 q16 a17 17 [] h18, rowW g.2.2.1 q19 a20 17 [] h21, rowW g.2.2.1 q22 a23 17 [] h24] : List va_W)) rfl rfl, rfl⟩, ?_⟩
  refine y_putF (Cn := RX0) (T := TX0) (N := 15) (v := .ref q25) (ty0 := tyX0) (L1 := ([[(h0, .inr (0, [.ref q1, .ref q4, .ref q7, .ref q10, .ref q13, .ref q16, .ref q19, .ref q22, .ref q25, .null, .null, .null, .int 0, .int 0, .int 0]))], rowW g.2.2.1 q1 a2 3 [] h3, rowW g.2.2.1 q4 a5 12 [] h6, rowW g.2.2.1 q7 a8 12 [] h9, rowW g.2.2.1 q10 a11 17 [] h12, rowW g.2.2.1 q13 a14 17 [] h15, rowW g.2.2.1 q16 a17 17 [] h18, rowW g.2.2.1 q19 a20 17 [] h21, rowW g.2.2.1 q22 a23 17 [] h24, rowW g.2.2.1 q25 a26 17 [] h27] : List va_W)) C dX0_init_117 hX0_init_X0 0 rfl rfl 8 (Nat.le_of_ble_eq_true rfl) kX0_init_15 tyX0_ok nmX0 rfl HI rfl rfl rfl (Nat.le_of_ble_eq_true rfl) rfl ?_
  refine y_aload_n C dX0_init_120 0 rfl rfl ?_
  refine y_new (Cn := RX3) (T := TX3) (N := 2) (ci := 3) (fs := [.null, .int 0]) (ty0 := tyX3) C dX0_init_121 hX0_init_X3 tyX3_ok kX0_init_4 kX0_init_5 kX0_init_6 rfl (fun j hj => by rcases (show j = 0 ∨ j = 1 by omega) with rfl | rfl <;> rfl) (Nat.le_of_ble_eq_true rfl) (Nat.le_of_ble_eq_true rfl) (fun q28 => ?_)
  refine y_world (L1 := ([[(h0, .inr (0, [.ref q1, .ref q4, .ref q7, .ref q10, .ref q13, .ref q16, .ref q19, .ref q22, .ref q25, .null, .null, .null, .int 0, .int 0, .int 0]))], rowW g.2.2.1 q1 a2 3 [] h3, rowW g.2.2.1 q4 a5 12 [] h6, rowW g.2.2.1 q7 a8 12 [] h9, rowW g.2.2.1 q10 a11 17 [] h12, rowW g.2.2.1 q13 a14 17 [] h15, rowW g.2.2.1 q16 a17 17 [] h18, rowW g.2.2.1 q19 a20 17 [] h21, rowW g.2.2.1 q22 a23 17 [] h24, rowW g.2.2.1 q25 a26 17 [] h27, [(q28, .inr (3, [.null, .int 0]))]] : List va_W)) rfl ?_
  refine y_dup C dX0_init_124 rfl ?_
  refine y_bipush (v := 17) C dX0_init_125 (by decide) ?_
  refine y_callI (As := [.int 17]) (rest := [.ref q28, .ref h0]) C dX0_init_127 (c_X3_init g q28 17 (by decide)) rfl rfl rfl rfl ⟨Nat.le_of_ble_eq_true rfl, Nat.le_of_ble_eq_true rfl⟩ gX0_init_X3_init kX0_init_19 kX0_init_6 kX0_init_20 rfl (nA := 1) (by decide +kernel) rfl (Nat.le_of_ble_eq_true rfl) ⟨Nat.le_of_ble_eq_true rfl, Nat.le_of_ble_eq_true rfl⟩ [10] [0, 1, 2, 3, 4, 5, 6, 7, 8, 9] (nB := 11) rfl (by decide +kernel) rfl (fun w9 hw => ?_)
  obtain ⟨a29, h30, rfl⟩ := hw
  refine ⟨([[(h0, .inr (0, [.ref q1, .ref q4, .ref q7, .ref q10, .ref q13, .ref q16, .ref q19, .ref q22, .ref q25, .null, .null, .null, .int 0, .int 0, .int 0]))], rowW g.2.2.1 q1 a2 3 [] h3, rowW g.2.2.1 q4 a5 12 [] h6, rowW g.2.2.1 q7 a8 12 [] h9, rowW g.2.2.1 q10 a11 17 [] h12, rowW g.2.2.1 q13 a14 17 [] h15, rowW g.2.2.1 q16 a17 17 [] h18, rowW g.2.2.1 q19 a20 17 [] h21, rowW g.2.2.1 q22 a23 17 [] h24, rowW g.2.2.1 q25 a26 17 [] h27, rowW g.2.2.1 q28 a29 17 [] h30] : List va_W), ⟨rfl, Eq.trans (b := ([[(h0, .inr (0, [.ref q1, .ref q4, .ref q7, .ref q10, .ref q13, .ref q16, .ref q19, .ref q22, .ref q25, .null, .null, .null, .int 0, .int 0, .int 0]))], rowW g.2.2.1 q1 a2 3 [] h3, rowW g.2.2.1 q4 a5 12 [] h6, rowW g.2.2.1 q7 a8 12 [] h9, rowW g.2.2.1 q10 a11 17 [] h12, rowW g.2.2.1 q13 a14 17 [] h15, rowW g.2.2.1 q16 a17 17 [] h18, rowW g.2.2.1 q19 a20 17 [] h21, rowW g.2.2.1 q22 a23 17 [] h24, rowW g.2.2.1 q25 a26 17 [] h27] : List va_W)) rfl rfl, rfl⟩, ?_⟩
  refine y_putF (Cn := RX0) (T := TX0) (N := 15) (v := .ref q28) (ty0 := tyX0) (L1 := ([[(h0, .inr (0, [.ref q1, .ref q4, .ref q7, .ref q10, .ref q13, .ref q16, .ref q19, .ref q22, .ref q25, .ref q28, .null, .null, .int 0, .int 0, .int 0]))], rowW g.2.2.1 q1 a2 3 [] h3, rowW g.2.2.1 q4 a5 12 [] h6, rowW g.2.2.1 q7 a8 12 [] h9, rowW g.2.2.1 q10 a11 17 [] h12, rowW g.2.2.1 q13 a14 17 [] h15, rowW g.2.2.1 q16 a17 17 [] h18, rowW g.2.2.1 q19 a20 17 [] h21, rowW g.2.2.1 q22 a23 17 [] h24, rowW g.2.2.1 q25 a26 17 [] h27, rowW g.2.2.1 q28 a29 17 [] h30] : List va_W)) C dX0_init_130 hX0_init_X0 0 rfl rfl 9 (Nat.le_of_ble_eq_true rfl) kX0_init_16 tyX0_ok nmX0 rfl HI rfl rfl rfl (Nat.le_of_ble_eq_true rfl) rfl ?_
  refine y_aload_n C dX0_init_133 0 rfl rfl ?_
  refine y_new (Cn := RX3) (T := TX3) (N := 2) (ci := 3) (fs := [.null, .int 0]) (ty0 := tyX3) C dX0_init_134 hX0_init_X3 tyX3_ok kX0_init_4 kX0_init_5 kX0_init_6 rfl (fun j hj => by rcases (show j = 0 ∨ j = 1 by omega) with rfl | rfl <;> rfl) (Nat.le_of_ble_eq_true rfl) (Nat.le_of_ble_eq_true rfl) (fun q31 => ?_)
  refine y_world (L1 := ([[(h0, .inr (0, [.ref q1, .ref q4, .ref q7, .ref q10, .ref q13, .ref q16, .ref q19, .ref q22, .ref q25, .ref q28, .null, .null, .int 0, .int 0, .int 0]))], rowW g.2.2.1 q1 a2 3 [] h3, rowW g.2.2.1 q4 a5 12 [] h6, rowW g.2.2.1 q7 a8 12 [] h9, rowW g.2.2.1 q10 a11 17 [] h12, rowW g.2.2.1 q13 a14 17 [] h15, rowW g.2.2.1 q16 a17 17 [] h18, rowW g.2.2.1 q19 a20 17 [] h21, rowW g.2.2.1 q22 a23 17 [] h24, rowW g.2.2.1 q25 a26 17 [] h27, rowW g.2.2.1 q28 a29 17 [] h30, [(q31, .inr (3, [.null, .int 0]))]] : List va_W)) rfl ?_
  refine y_dup C dX0_init_137 rfl ?_
  refine y_bipush (v := 17) C dX0_init_138 (by decide) ?_
  refine y_callI (As := [.int 17]) (rest := [.ref q31, .ref h0]) C dX0_init_140 (c_X3_init g q31 17 (by decide)) rfl rfl rfl rfl ⟨Nat.le_of_ble_eq_true rfl, Nat.le_of_ble_eq_true rfl⟩ gX0_init_X3_init kX0_init_19 kX0_init_6 kX0_init_20 rfl (nA := 1) (by decide +kernel) rfl (Nat.le_of_ble_eq_true rfl) ⟨Nat.le_of_ble_eq_true rfl, Nat.le_of_ble_eq_true rfl⟩ [11] [0, 1, 2, 3, 4, 5, 6, 7, 8, 9, 10] (nB := 12) rfl (by decide +kernel) rfl (fun w9 hw => ?_)
  obtain ⟨a32, h33, rfl⟩ := hw
  refine ⟨([[(h0, .inr (0, [.ref q1, .ref q4, .ref q7, .ref q10, .ref q13, .ref q16, .ref q19, .ref q22, .ref q25, .ref q28, .null, .null, .int 0, .int 0, .int 0]))], rowW g.2.2.1 q1 a2 3 [] h3, rowW g.2.2.1 q4 a5 12 [] h6, rowW g.2.2.1 q7 a8 12 [] h9, rowW g.2.2.1 q10 a11 17 [] h12, rowW g.2.2.1 q13 a14 17 [] h15, rowW g.2.2.1 q16 a17 17 [] h18, rowW g.2.2.1 q19 a20 17 [] h21, rowW g.2.2.1 q22 a23 17 [] h24, rowW g.2.2.1 q25 a26 17 [] h27, rowW g.2.2.1 q28 a29 17 [] h30, rowW g.2.2.1 q31 a32 17 [] h33] : List va_W), ⟨rfl, Eq.trans (b := ([[(h0, .inr (0, [.ref q1, .ref q4, .ref q7, .ref q10, .ref q13, .ref q16, .ref q19, .ref q22, .ref q25, .ref q28, .null, .null, .int 0, .int 0, .int 0]))], rowW g.2.2.1 q1 a2 3 [] h3, rowW g.2.2.1 q4 a5 12 [] h6, rowW g.2.2.1 q7 a8 12 [] h9, rowW g.2.2.1 q10 a11 17 [] h12, rowW g.2.2.1 q13 a14 17 [] h15, rowW g.2.2.1 q16 a17 17 [] h18, rowW g.2.2.1 q19 a20 17 [] h21, rowW g.2.2.1 q22 a23 17 [] h24, rowW g.2.2.1 q25 a26 17 [] h27, rowW g.2.2.1 q28 a29 17 [] h30] : List va_W)) rfl rfl, rfl⟩, ?_⟩
  refine y_putF (Cn := RX0) (T := TX0) (N := 15) (v := .ref q31) (ty0 := tyX0) (L1 := ([[(h0, .inr (0, [.ref q1, .ref q4, .ref q7, .ref q10, .ref q13, .ref q16, .ref q19, .ref q22, .ref q25, .ref q28, .ref q31, .null, .int 0, .int 0, .int 0]))], rowW g.2.2.1 q1 a2 3 [] h3, rowW g.2.2.1 q4 a5 12 [] h6, rowW g.2.2.1 q7 a8 12 [] h9, rowW g.2.2.1 q10 a11 17 [] h12, rowW g.2.2.1 q13 a14 17 [] h15, rowW g.2.2.1 q16 a17 17 [] h18, rowW g.2.2.1 q19 a20 17 [] h21, rowW g.2.2.1 q22 a23 17 [] h24, rowW g.2.2.1 q25 a26 17 [] h27, rowW g.2.2.1 q28 a29 17 [] h30, rowW g.2.2.1 q31 a32 17 [] h33] : List va_W)) C dX0_init_143 hX0_init_X0 0 rfl rfl 10 (Nat.le_of_ble_eq_true rfl) kX0_init_17 tyX0_ok nmX0 rfl HI rfl rfl rfl (Nat.le_of_ble_eq_true rfl) rfl ?_
  refine y_aload_n C dX0_init_146 0 rfl rfl ?_
  refine y_new (Cn := RX3) (T := TX3) (N := 2) (ci := 3) (fs := [.null, .int 0]) (ty0 := tyX3) C dX0_init_147 hX0_init_X3 tyX3_ok kX0_init_4 kX0_init_5 kX0_init_6 rfl (fun j hj => by rcases (show j = 0 ∨ j = 1 by omega) with rfl | rfl <;> rfl) (Nat.le_of_ble_eq_true rfl) (Nat.le_of_ble_eq_true rfl) (fun q34 => ?_)
  refine y_world (L1 := ([[(h0, .inr (0, [.ref q1, .ref q4, .ref q7, .ref q10, .ref q13, .ref q16, .ref q19, .ref q22, .ref q25, .ref q28, .ref q31, .null, .int 0, .int 0, .int 0]))], rowW g.2.2.1 q1 a2 3 [] h3, rowW g.2.2.1 q4 a5 12 [] h6, rowW g.2.2.1 q7 a8 12 [] h9, rowW g.2.2.1 q10 a11 17 [] h12, rowW g.2.2.1 q13 a14 17 [] h15, rowW g.2.2.1 q16 a17 17 [] h18, rowW g.2.2.1 q19 a20 17 [] h21, rowW g.2.2.1 q22 a23 17 [] h24, rowW g.2.2.1 q25 a26 17 [] h27, rowW g.2.2.1 q28 a29 17 [] h30, rowW g.2.2.1 q31 a32 17 [] h33, [(q34, .inr (3, [.null, .int 0]))]] : List va_W)) rfl ?_
  refine y_dup C dX0_init_150 rfl ?_
  refine y_bipush (v := 34) C dX0_init_151 (by decide) ?_
  refine y_callI (As := [.int 34]) (rest := [.ref q34, .ref h0]) C dX0_init_153 (c_X3_init g q34 34 (by decide)) rfl rfl rfl rfl ⟨Nat.le_of_ble_eq_true rfl, Nat.le_of_ble_eq_true rfl⟩ gX0_init_X3_init kX0_init_19 kX0_init_6 kX0_init_20 rfl (nA := 1) (by decide +kernel) rfl (Nat.le_of_ble_eq_true rfl) ⟨Nat.le_of_ble_eq_true rfl, Nat.le_of_ble_eq_true rfl⟩ [12] [0, 1, 2, 3, 4, 5, 6, 7, 8, 9, 10, 11] (nB := 13) rfl (by decide +kernel) rfl (fun w9 hw => ?_)
  obtain ⟨a35, h36, rfl⟩ := hw
  refine ⟨([[(h0, .inr (0, [.ref q1, .ref q4, .ref q7, .ref q10, .ref q13, .ref q16, .ref q19, .ref q22, .ref q25, .ref q28, .ref q31, .null, .int 0, .int 0, .int 0]))], rowW g.2.2.1 q1 a2 3 [] h3, rowW g.2.2.1 q4 a5 12 [] h6, rowW g.2.2.1 q7 a8 12 [] h9, rowW g.2.2.1 q10 a11 17 [] h12, rowW g.2.2.1 q13 a14 17 [] h15, rowW g.2.2.1 q16 a17 17 [] h18, rowW g.2.2.1 q19 a20 17 [] h21, rowW g.2.2.1 q22 a23 17 [] h24, rowW g.2.2.1 q25 a26 17 [] h27, rowW g.2.2.1 q28 a29 17 [] h30, rowW g.2.2.1 q31 a32 17 [] h33, rowW g.2.2.1 q34 a35 34 [] h36] : List va_W), ⟨rfl, Eq.trans (b := ([[(h0, .inr (0, [.ref q1, .ref q4, .ref q7, .ref q10, .ref q13, .ref q16, .ref q19, .ref q22, .ref q25, .ref q28, .ref q31, .null, .int 0, .int 0, .int 0]))], rowW g.2.2.1 q1 a2 3 [] h3, rowW g.2.2.1 q4 a5 12 [] h6, rowW g.2.2.1 q7 a8 12 [] h9, rowW g.2.2.1 q10 a11 17 [] h12, rowW g.2.2.1 q13 a14 17 [] h15, rowW g.2.2.1 q16 a17 17 [] h18, rowW g.2.2.1 q19 a20 17 [] h21, rowW g.2.2.1 q22 a23 17 [] h24, rowW g.2.2.1 q25 a26 17 [] h27, rowW g.2.2.1 q28 a29 17 [] h30, rowW g.2.2.1 q31 a32 17 [] h33] : List va_W)) rfl rfl, rfl⟩, ?_⟩
  refine y_putF (Cn := RX0) (T := TX0) (N := 15) (v := .ref q34) (ty0 := tyX0) (L1 := ([[(h0, .inr (0, [.ref q1, .ref q4, .ref q7, .ref q10, .ref q13, .ref q16, .ref q19, .ref q22, .ref q25, .ref q28, .ref q31, .ref q34, .int 0, .int 0, .int 0]))], rowW g.2.2.1 q1 a2 3 [] h3, rowW g.2.2.1 q4 a5 12 [] h6, rowW g.2.2.1 q7 a8 12 [] h9, rowW g.2.2.1 q10 a11 17 [] h12, rowW g.2.2.1 q13 a14 17 [] h15, rowW g.2.2.1 q16 a17 17 [] h18, rowW g.2.2.1 q19 a20 17 [] h21, rowW g.2.2.1 q22 a23 17 [] h24, rowW g.2.2.1 q25 a26 17 [] h27, rowW g.2.2.1 q28 a29 17 [] h30, rowW g.2.2.1 q31 a32 17 [] h33, rowW g.2.2.1 q34 a35 34 [] h36] : List va_W)) C dX0_init_156 hX0_init_X0 0 rfl rfl 11 (Nat.le_of_ble_eq_true rfl) kX0_init_18 tyX0_ok nmX0 rfl HI rfl rfl rfl (Nat.le_of_ble_eq_true rfl) rfl ?_
  refine y_aload_n C dX0_init_159 0 rfl rfl ?_
  refine y_get (Cn := RX0) (T := TX0) (N := 15) (v := .ref q1) C dX0_init_160 hX0_init_X0 0 rfl rfl 0 (Nat.le_of_ble_eq_true rfl) kX0_init_7 rfl ?_
  refine y_iconst (v := 3) C dX0_init_163 (by decide) ?_
  refine y_callVv (As := [.int 3]) (rest := []) C dX0_init_164 (c_X3_add g q1 a2 3 [] h3 3 (by decide)) rfl rfl rfl rfl ⟨Nat.le_of_ble_eq_true rfl, Nat.le_of_ble_eq_true rfl⟩ gX0_init_X3_add (nA := 1) (by decide +kernel) rfl (rowW_recv ⟨_, rfl⟩) (Nat.le_of_ble_eq_true rfl) ⟨Nat.le_of_ble_eq_true rfl, Nat.le_of_ble_eq_true rfl⟩ [1] [0, 2, 3, 4, 5, 6, 7, 8, 9, 10, 11, 12] (nB := 13) rfl (by decide +kernel) rfl (fun w9 hw => ?_)
  obtain ⟨y37, h38, ey37, rfl⟩ := hw
  refine ⟨([[(h0, .inr (0, [.ref q1, .ref q4, .ref q7, .ref q10, .ref q13, .ref q16, .ref q19, .ref q22, .ref q25, .ref q28, .ref q31, .ref q34, .int 0, .int 0, .int 0]))], rowW g.2.2.1 q1 a2 3 y37 h38, rowW g.2.2.1 q4 a5 12 [] h6, rowW g.2.2.1 q7 a8 12 [] h9, rowW g.2.2.1 q10 a11 17 [] h12, rowW g.2.2.1 q13 a14 17 [] h15, rowW g.2.2.1 q16 a17 17 [] h18, rowW g.2.2.1 q19 a20 17 [] h21, rowW g.2.2.1 q22 a23 17 [] h24, rowW g.2.2.1 q25 a26 17 [] h27, rowW g.2.2.1 q28 a29 17 [] h30, rowW g.2.2.1 q31 a32 17 [] h33, rowW g.2.2.1 q34 a35 34 [] h36] : List va_W), ⟨rfl, Eq.trans (b := ([[(h0, .inr (0, [.ref q1, .ref q4, .ref q7, .ref q10, .ref q13, .ref q16, .ref q19, .ref q22, .ref q25, .ref q28, .ref q31, .ref q34, .int 0, .int 0, .int 0]))], rowW g.2.2.1 q4 a5 12 [] h6, rowW g.2.2.1 q7 a8 12 [] h9, rowW g.2.2.1 q10 a11 17 [] h12, rowW g.2.2.1 q13 a14 17 [] h15, rowW g.2.2.1 q16 a17 17 [] h18, rowW g.2.2.1 q19 a20 17 [] h21, rowW g.2.2.1 q22 a23 17 [] h24, rowW g.2.2.1 q25 a26 17 [] h27, rowW g.2.2.1 q28 a29 17 [] h30, rowW g.2.2.1 q31 a32 17 [] h33, rowW g.2.2.1 q34 a35 34 [] h36] : List va_W)) rfl rfl, rfl⟩, ?_⟩
  refine y_aload_n C dX0_init_167 0 rfl rfl ?_
  refine y_get (Cn := RX0) (T := TX0) (N := 15) (v := .ref q1) C dX0_init_168 hX0_init_X0 0 rfl rfl 0 (Nat.le_of_ble_eq_true rfl) kX0_init_7 rfl ?_
  refine y_bipush (v := 10) C dX0_init_171 (by decide) ?_
  refine y_callVv (As := [.int 10]) (rest := []) C dX0_init_173 (c_X3_add g q1 a2 3 y37 h38 10 (by decide)) rfl rfl rfl rfl ⟨Nat.le_of_ble_eq_true rfl, Nat.le_of_ble_eq_true rfl⟩ gX0_init_X3_add (nA := 1) (by decide +kernel) rfl (rowW_recv ⟨_, rfl⟩) (Nat.le_of_ble_eq_true rfl) ⟨Nat.le_of_ble_eq_true rfl, Nat.le_of_ble_eq_true rfl⟩ [1] [0, 2, 3, 4, 5, 6, 7, 8, 9, 10, 11, 12] (nB := 13) rfl (by decide +kernel) rfl (fun w9 hw => ?_)
  obtain ⟨y39, h40, ey39, rfl⟩ := hw
  refine ⟨([[(h0, .inr (0, [.ref q1, .ref q4, .ref q7, .ref q10, .ref q13, .ref q16, .ref q19, .ref q22, .ref q25, .ref q28, .ref q31, .ref q34, .int 0, .int 0, .int 0]))], rowW g.2.2.1 q1 a2 3 y39 h40, rowW g.2.2.1 q4 a5 12 [] h6, rowW g.2.2.1 q7 a8 12 [] h9, rowW g.2.2.1 q10 a11 17 [] h12, rowW g.2.2.1 q13 a14 17 [] h15, rowW g.2.2.1 q16 a17 17 [] h18, rowW g.2.2.1 q19 a20 17 [] h21, rowW g.2.2.1 q22 a23 17 [] h24, rowW g.2.2.1 q25 a26 17 [] h27, rowW g.2.2.1 q28 a29 17 [] h30, rowW g.2.2.1 q31 a32 17 [] h33, rowW g.2.2.1 q34 a35 34 [] h36] : List va_W), ⟨rfl, Eq.trans (b := ([[(h0, .inr (0, [.ref q1, .ref q4, .ref q7, .ref q10, .ref q13, .ref q16, .ref q19, .ref q22, .ref q25, .ref q28, .ref q31, .ref q34, .int 0, .int 0, .int 0]))], rowW g.2.2.1 q4 a5 12 [] h6, rowW g.2.2.1 q7 a8 12 [] h9, rowW g.2.2.1 q10 a11 17 [] h12, rowW g.2.2.1 q13 a14 17 [] h15, rowW g.2.2.1 q16 a17 17 [] h18, rowW g.2.2.1 q19 a20 17 [] h21, rowW g.2.2.1 q22 a23 17 [] h24, rowW g.2.2.1 q25 a26 17 [] h27, rowW g.2.2.1 q28 a29 17 [] h30, rowW g.2.2.1 q31 a32 17 [] h33, rowW g.2.2.1 q34 a35 34 [] h36] : List va_W)) rfl rfl, rfl⟩, ?_⟩
  refine y_aload_n C dX0_init_176 0 rfl rfl ?_
  refine y_get (Cn := RX0) (T := TX0) (N := 15) (v := .ref q1) C dX0_init_177 hX0_init_X0 0 rfl rfl 0 (Nat.le_of_ble_eq_true rfl) kX0_init_7 rfl ?_
  refine y_iconst (v := 1) C dX0_init_180 (by decide) ?_
  refine y_callVv (As := [.int 1]) (rest := []) C dX0_init_181 (c_X3_add g q1 a2 3 y39 h40 1 (by decide)) rfl rfl rfl rfl ⟨Nat.le_of_ble_eq_true rfl, Nat.le_of_ble_eq_true rfl⟩ gX0_init_X3_add (nA := 1) (by decide +kernel) rfl (rowW_recv ⟨_, rfl⟩) (Nat.le_of_ble_eq_true rfl) ⟨Nat.le_of_ble_eq_true rfl, Nat.le_of_ble_eq_true rfl⟩ [1] [0, 2, 3, 4, 5, 6, 7, 8, 9, 10, 11, 12] (nB := 13) rfl (by decide +kernel) rfl (fun w9 hw => ?_)
  obtain ⟨y41, h42, ey41, rfl⟩ := hw
  refine ⟨([[(h0, .inr (0, [.ref q1, .ref q4, .ref q7, .ref q10, .ref q13, .ref q16, .ref q19, .ref q22, .ref q25, .ref q28, .ref q31, .ref q34, .int 0, .int 0, .int 0]))], rowW g.2.2.1 q1 a2 3 y41 h42, rowW g.2.2.1 q4 a5 12 [] h6, rowW g.2.2.1 q7 a8 12 [] h9, rowW g.2.2.1 q10 a11 17 [] h12, rowW g.2.2.1 q13 a14 17 [] h15, rowW g.2.2.1 q16 a17 17 [] h18, rowW g.2.2.1 q19 a20 17 [] h21, rowW g.2.2.1 q22 a23 17 [] h24, rowW g.2.2.1 q25 a26 17 [] h27, rowW g.2.2.1 q28 a29 17 [] h30, rowW g.2.2.1 q31 a32 17 [] h33, rowW g.2.2.1 q34 a35 34 [] h36] : List va_W), ⟨rfl, Eq.trans (b := ([[(h0, .inr (0, [.ref q1, .ref q4, .ref q7, .ref q10, .ref q13, .ref q16, .ref q19, .ref q22, .ref q25, .ref q28, .ref q31, .ref q34, .int 0, .int 0, .int 0]))], rowW g.2.2.1 q4 a5 12 [] h6, rowW g.2.2.1 q7 a8 12 [] h9, rowW g.2.2.1 q10 a11 17 [] h12, rowW g.2.2.1 q13 a14 17 [] h15, rowW g.2.2.1 q16 a17 17 [] h18, rowW g.2.2.1 q19 a20 17 [] h21, rowW g.2.2.1 q22 a23 17 [] h24, rowW g.2.2.1 q25 a26 17 [] h27, rowW g.2.2.1 q28 a29 17 [] h30, rowW g.2.2.1 q31 a32 17 [] h33, rowW g.2.2.1 q34 a35 34 [] h36] : List va_W)) rfl rfl, rfl⟩, ?_⟩
  subst ey37
  subst ey39
  subst ey41
  refine y_world (L1 := ([dayW g (fun n => ([h0, q1, a2, q4, a5, q7, a8, q10, a11, q13, a14, q16, a17, q19, a20, q22, a23, q25, a26, q28, a29, q31, a32, q34, a35] : List Nat).getD n 0) D0 (fun n => ([h42, h6, h9, h12, h15, h18, h21, h24, h27, h30, h33, h36] : List (Nat → Int32)).getD n (fun _ => 0))] : List va_W)) ?_ ?_
  · rw [List.flatten_singleton]; rfl
  · exact HR 184 dX0_init_184 _ _ _ _ (Nat.le_of_ble_eq_true rfl) (Nat.le_of_ble_eq_true rfl) ⟨_, _, rfl, rfl⟩
