def M0 : MV := (fun _ => 0, fun k => if k = 1 then (upd (upd (upd (fun _ => 0) 0 3) 1 10) 2 1) else fun _ => 0)
theorem dX7_init_0 : decode cX7_init 0 = .ok (.aload_n 0, 1) := by decide +kernel
theorem dX7_init_1 : decode cX7_init 1 = .ok (.invokespecial 1, 3) := by decide +kernel
theorem dX7_init_4 : decode cX7_init 4 = .ok (.aload_n 0, 1) := by decide +kernel
theorem dX7_init_5 : decode cX7_init 5 = .ok (.sipush 186, 3) := by decide +kernel
theorem dX7_init_8 : decode cX7_init 8 = .ok (.newarray .int, 2) := by decide +kernel
theorem dX7_init_10 : decode cX7_init 10 = .ok (.putfield 7, 3) := by decide +kernel
theorem dX7_init_13 : decode cX7_init 13 = .ok (.aload_n 0, 1) := by decide +kernel
theorem dX7_init_14 : decode cX7_init 14 = .ok (.sipush 186, 3) := by decide +kernel
theorem dX7_init_17 : decode cX7_init 17 = .ok (.newarray .int, 2) := by decide +kernel
theorem dX7_init_19 : decode cX7_init 19 = .ok (.putfield 13, 3) := by decide +kernel
theorem dX7_init_22 : decode cX7_init 22 = .ok (.aload_n 0, 1) := by decide +kernel
theorem dX7_init_23 : decode cX7_init 23 = .ok (.sipush 1116, 3) := by decide +kernel
theorem dX7_init_26 : decode cX7_init 26 = .ok (.newarray .int, 2) := by decide +kernel
theorem dX7_init_28 : decode cX7_init 28 = .ok (.putfield 16, 3) := by decide +kernel
theorem dX7_init_31 : decode cX7_init 31 = .ok (.aload_n 0, 1) := by decide +kernel
theorem dX7_init_32 : decode cX7_init 32 = .ok (.sipush 372, 3) := by decide +kernel
theorem dX7_init_35 : decode cX7_init 35 = .ok (.newarray .int, 2) := by decide +kernel
theorem dX7_init_37 : decode cX7_init 37 = .ok (.putfield 19, 3) := by decide +kernel
theorem dX7_init_40 : decode cX7_init 40 = .ok (.aload_n 0, 1) := by decide +kernel
theorem dX7_init_41 : decode cX7_init 41 = .ok (.iconst 2, 1) := by decide +kernel
theorem dX7_init_42 : decode cX7_init 42 = .ok (.newarray .boolean, 2) := by decide +kernel
theorem dX7_init_44 : decode cX7_init 44 = .ok (.putfield 22, 3) := by decide +kernel
theorem dX7_init_47 : decode cX7_init 47 = .ok (.aload_n 0, 1) := by decide +kernel
theorem dX7_init_48 : decode cX7_init 48 = .ok (.bipush 60, 2) := by decide +kernel
theorem dX7_init_50 : decode cX7_init 50 = .ok (.newarray .int, 2) := by decide +kernel
theorem dX7_init_52 : decode cX7_init 52 = .ok (.putfield 26, 3) := by decide +kernel
theorem dX7_init_55 : decode cX7_init 55 = .ok (.aload_n 0, 1) := by decide +kernel
theorem dX7_init_56 : decode cX7_init 56 = .ok (.bipush 36, 2) := by decide +kernel
theorem dX7_init_58 : decode cX7_init 58 = .ok (.newarray .int, 2) := by decide +kernel
theorem dX7_init_60 : decode cX7_init 60 = .ok (.putfield 29, 3) := by decide +kernel
theorem dX7_init_63 : decode cX7_init 63 = .ok (.aload_n 0, 1) := by decide +kernel
theorem dX7_init_64 : decode cX7_init 64 = .ok (.bipush 36, 2) := by decide +kernel
theorem dX7_init_66 : decode cX7_init 66 = .ok (.newarray .int, 2) := by decide +kernel
theorem dX7_init_68 : decode cX7_init 68 = .ok (.putfield 32, 3) := by decide +kernel
theorem dX7_init_71 : decode cX7_init 71 = .ok (.aload_n 0, 1) := by decide +kernel
theorem dX7_init_72 : decode cX7_init 72 = .ok (.bipush 36, 2) := by decide +kernel
theorem dX7_init_74 : decode cX7_init 74 = .ok (.newarray .int, 2) := by decide +kernel
theorem dX7_init_76 : decode cX7_init 76 = .ok (.putfield 35, 3) := by decide +kernel
theorem dX7_init_79 : decode cX7_init 79 = .ok (.aload_n 0, 1) := by decide +kernel
theorem dX7_init_80 : decode cX7_init 80 = .ok (.bipush 36, 2) := by decide +kernel
theorem dX7_init_82 : decode cX7_init 82 = .ok (.newarray .int, 2) := by decide +kernel
theorem dX7_init_84 : decode cX7_init 84 = .ok (.putfield 38, 3) := by decide +kernel
theorem dX7_init_87 : decode cX7_init 87 = .ok (.aload_n 0, 1) := by decide +kernel
theorem dX7_init_88 : decode cX7_init 88 = .ok (.bipush 64, 2) := by decide +kernel
theorem dX7_init_90 : decode cX7_init 90 = .ok (.newarray .int, 2) := by decide +kernel
theorem dX7_init_92 : decode cX7_init 92 = .ok (.putfield 41, 3) := by decide +kernel
theorem dX7_init_95 : decode cX7_init 95 = .ok (.aload_n 0, 1) := by decide +kernel
theorem dX7_init_96 : decode cX7_init 96 = .ok (.iconst 0, 1) := by decide +kernel
theorem dX7_init_97 : decode cX7_init 97 = .ok (.putfield 44, 3) := by decide +kernel
theorem dX7_init_100 : decode cX7_init 100 = .ok (.aload_n 0, 1) := by decide +kernel
theorem dX7_init_101 : decode cX7_init 101 = .ok (.getfield 7, 3) := by decide +kernel
theorem dX7_init_104 : decode cX7_init 104 = .ok (.iconst 0, 1) := by decide +kernel
theorem dX7_init_105 : decode cX7_init 105 = .ok (.iconst 3, 1) := by decide +kernel
theorem dX7_init_106 : decode cX7_init 106 = .ok (.iastore, 1) := by decide +kernel
theorem dX7_init_107 : decode cX7_init 107 = .ok (.aload_n 0, 1) := by decide +kernel
theorem dX7_init_108 : decode cX7_init 108 = .ok (.getfield 7, 3) := by decide +kernel
theorem dX7_init_111 : decode cX7_init 111 = .ok (.iconst 1, 1) := by decide +kernel
theorem dX7_init_112 : decode cX7_init 112 = .ok (.bipush 10, 2) := by decide +kernel
theorem dX7_init_114 : decode cX7_init 114 = .ok (.iastore, 1) := by decide +kernel
theorem dX7_init_115 : decode cX7_init 115 = .ok (.aload_n 0, 1) := by decide +kernel
theorem dX7_init_116 : decode cX7_init 116 = .ok (.getfield 7, 3) := by decide +kernel
theorem dX7_init_119 : decode cX7_init 119 = .ok (.iconst 2, 1) := by decide +kernel
theorem dX7_init_120 : decode cX7_init 120 = .ok (.iconst 1, 1) := by decide +kernel
theorem dX7_init_121 : decode cX7_init 121 = .ok (.iastore, 1) := by decide +kernel
theorem dX7_init_122 : decode cX7_init 122 = .ok (.return_, 1) := by decide +kernel
theorem kX7_init_1 : Cond.methodLink RX7 1 objectInit ∈ wsX7_init := List.mem_of_getElem? (i := 1) (by decide +kernel)
theorem kX7_init_2 : Cond.instanceMethod objectInit ∈ wsX7_init := List.mem_of_getElem? (i := 2) (by decide +kernel)
theorem kX7_init_3 : Cond.code objectInit ⟨#[0xb1]⟩ 1 none ∈ wsX7_init := List.mem_of_getElem? (i := 3) (by decide +kernel)
theorem kX7_init_4 : Cond.arrayClass .int ∈ wsX7_init := List.mem_of_getElem? (i := 4) (by decide +kernel)
theorem kX7_init_5 : Cond.fieldLink RX7 7 "BookedDetoursModel" "s" "[I" ∈ wsX7_init := List.mem_of_getElem? (i := 5) (by decide +kernel)
theorem kX7_init_6 : Cond.fieldLink RX7 13 "BookedDetoursModel" "aside" "[I" ∈ wsX7_init := List.mem_of_getElem? (i := 6) (by decide +kernel)
theorem kX7_init_7 : Cond.fieldLink RX7 16 "BookedDetoursModel" "undos" "[I" ∈ wsX7_init := List.mem_of_getElem? (i := 7) (by decide +kernel)
theorem kX7_init_8 : Cond.fieldLink RX7 19 "BookedDetoursModel" "slots" "[I" ∈ wsX7_init := List.mem_of_getElem? (i := 8) (by decide +kernel)
theorem kX7_init_9 : Cond.arrayClass .boolean ∈ wsX7_init := List.mem_of_getElem? (i := 9) (by decide +kernel)
theorem kX7_init_10 : Cond.fieldLink RX7 22 "BookedDetoursModel" "hasSlot" "[Z" ∈ wsX7_init := List.mem_of_getElem? (i := 10) (by decide +kernel)
theorem kX7_init_11 : Cond.fieldLink RX7 26 "BookedDetoursModel" "pad" "[I" ∈ wsX7_init := List.mem_of_getElem? (i := 11) (by decide +kernel)
theorem kX7_init_12 : Cond.fieldLink RX7 29 "BookedDetoursModel" "way" "[I" ∈ wsX7_init := List.mem_of_getElem? (i := 12) (by decide +kernel)
theorem kX7_init_13 : Cond.fieldLink RX7 32 "BookedDetoursModel" "times" "[I" ∈ wsX7_init := List.mem_of_getElem? (i := 13) (by decide +kernel)
theorem kX7_init_14 : Cond.fieldLink RX7 35 "BookedDetoursModel" "waits" "[I" ∈ wsX7_init := List.mem_of_getElem? (i := 14) (by decide +kernel)
theorem kX7_init_15 : Cond.fieldLink RX7 38 "BookedDetoursModel" "aboards" "[I" ∈ wsX7_init := List.mem_of_getElem? (i := 15) (by decide +kernel)
theorem kX7_init_16 : Cond.fieldLink RX7 41 "BookedDetoursModel" "told" "[I" ∈ wsX7_init := List.mem_of_getElem? (i := 16) (by decide +kernel)
theorem kX7_init_17 : Cond.fieldLink RX7 44 "BookedDetoursModel" "thrown" "I" ∈ wsX7_init := List.mem_of_getElem? (i := 17) (by decide +kernel)
theorem hX7_init_X7 : ∀ w ∈ u_ws RX7 TX7 26, w ∈ wsX7_init := fun _ h => List.mem_cons_of_mem _ (List.mem_append_right _ h)
set_option maxHeartbeats 4000000 in
set_option maxRecDepth 100000 in
theorem c_X7_init (g : yG) (h0 : Nat) : yMv g yX7_init wsX7_init ({ frames := 1, cells := 11, slots := 2130, locals := 20 } : Room) [.ref h0] ([[(h0, .inr (7, [.int 0, .null, .null, .null, .int 0, .null, .null, .null, .int 0, .null, .int 0, .null, .null, .null, .int 0, .int 0, .int 0, .int 0, .int 0, .int 0, .int 0, .int 0, .int 0, .int 0, .null, .int 0]))]] : List va_W) (fun w => ∃ (A : Nat → Nat), h0 = A 0 ∧ w = ([modW g A M0] : List va_W)) 11 2130 := by
  refine y_entryV (cc := cX7_init) (maxL := 1) (by decide +kernel) rfl (Nat.le_of_ble_eq_true rfl) (fun Z C HI HR => ?_)
  have HI : yIn Z := HI rfl
  have C : yC Z g cX7_init 1 wsX7_init RX7 := C
  show yJ Z _ 0 0 _ 0 [(0, .ref h0)] []
  refine y_aload_n C dX7_init_0 0 rfl rfl ?_
  refine y_objInit C dX7_init_1 kX7_init_1 kX7_init_2 kX7_init_3 (Nat.le_of_ble_eq_true rfl) (Nat.le_of_ble_eq_true rfl) ?_
  refine y_aload_n C dX7_init_4 0 rfl rfl ?_
  refine y_sipush (v := 186) C dX7_init_5 (by decide) ?_
  refine y_newI (N := 186) C dX7_init_8 kX7_init_4 (by decide) (by decide) (Nat.le_of_ble_eq_true rfl) (Nat.le_of_ble_eq_true rfl) (fun q1 => ?_)
  refine y_world (L1 := ([[(h0, .inr (7, [.int 0, .null, .null, .null, .int 0, .null, .null, .null, .int 0, .null, .int 0, .null, .null, .null, .int 0, .int 0, .int 0, .int 0, .int 0, .int 0, .int 0, .int 0, .int 0, .int 0, .null, .int 0]))], [(q1, .inl (g.2.2.1, 186, .inl (fun _ => 0)))]] : List va_W)) rfl ?_
  refine y_putF (Cn := RX7) (T := TX7) (N := 26) (v := .ref q1) (ty0 := tyX7) (L1 := ([[(h0, .inr (7, [.int 0, .ref q1, .null, .null, .int 0, .null, .null, .null, .int 0, .null, .int 0, .null, .null, .null, .int 0, .int 0, .int 0, .int 0, .int 0, .int 0, .int 0, .int 0, .int 0, .int 0, .null, .int 0]))], [(q1, .inl (g.2.2.1, 186, .inl (fun _ => 0)))]] : List va_W)) C dX7_init_10 hX7_init_X7 0 rfl rfl 1 (Nat.le_of_ble_eq_true rfl) kX7_init_5 tyX7_ok nmX7 rfl HI rfl rfl rfl (Nat.le_of_ble_eq_true rfl) rfl ?_
  refine y_aload_n C dX7_init_13 0 rfl rfl ?_
  refine y_sipush (v := 186) C dX7_init_14 (by decide) ?_
  refine y_newI (N := 186) C dX7_init_17 kX7_init_4 (by decide) (by decide) (Nat.le_of_ble_eq_true rfl) (Nat.le_of_ble_eq_true rfl) (fun q2 => ?_)
  refine y_world (L1 := ([[(h0, .inr (7, [.int 0, .ref q1, .null, .null, .int 0, .null, .null, .null, .int 0, .null, .int 0, .null, .null, .null, .int 0, .int 0, .int 0, .int 0, .int 0, .int 0, .int 0, .int 0, .int 0, .int 0, .null, .int 0]))], [(q1, .inl (g.2.2.1, 186, .inl (fun _ => 0)))], [(q2, .inl (g.2.2.1, 186, .inl (fun _ => 0)))]] : List va_W)) rfl ?_
  refine y_putF (Cn := RX7) (T := TX7) (N := 26) (v := .ref q2) (ty0 := tyX7) (L1 := ([[(h0, .inr (7, [.int 0, .ref q1, .ref q2, .null, .int 0, .null, .null, .null, .int 0, .null, .int 0, .null, .null, .null, .int 0, .int 0, .int 0, .int 0, .int 0, .int 0, .int 0, .int 0, .int 0, .int 0, .null, .int 0]))], [(q1, .inl (g.2.2.1, 186, .inl (fun _ => 0)))], [(q2, .inl (g.2.2.1, 186, .inl (fun _ => 0)))]] : List va_W)) C dX7_init_19 hX7_init_X7 0 rfl rfl 2 (Nat.le_of_ble_eq_true rfl) kX7_init_6 tyX7_ok nmX7 rfl HI rfl rfl rfl (Nat.le_of_ble_eq_true rfl) rfl ?_
  refine y_aload_n C dX7_init_22 0 rfl rfl ?_
  refine y_sipush (v := 1116) C dX7_init_23 (by decide) ?_
  refine y_newI (N := 1116) C dX7_init_26 kX7_init_4 (by decide) (by decide) (Nat.le_of_ble_eq_true rfl) (Nat.le_of_ble_eq_true rfl) (fun q3 => ?_)
  refine y_world (L1 := ([[(h0, .inr (7, [.int 0, .ref q1, .ref q2, .null, .int 0, .null, .null, .null, .int 0, .null, .int 0, .null, .null, .null, .int 0, .int 0, .int 0, .int 0, .int 0, .int 0, .int 0, .int 0, .int 0, .int 0, .null, .int 0]))], [(q1, .inl (g.2.2.1, 186, .inl (fun _ => 0)))], [(q2, .inl (g.2.2.1, 186, .inl (fun _ => 0)))], [(q3, .inl (g.2.2.1, 1116, .inl (fun _ => 0)))]] : List va_W)) rfl ?_
  refine y_putF (Cn := RX7) (T := TX7) (N := 26) (v := .ref q3) (ty0 := tyX7) (L1 := ([[(h0, .inr (7, [.int 0, .ref q1, .ref q2, .ref q3, .int 0, .null, .null, .null, .int 0, .null, .int 0, .null, .null, .null, .int 0, .int 0, .int 0, .int 0, .int 0, .int 0, .int 0, .int 0, .int 0, .int 0, .null, .int 0]))], [(q1, .inl (g.2.2.1, 186, .inl (fun _ => 0)))], [(q2, .inl (g.2.2.1, 186, .inl (fun _ => 0)))], [(q3, .inl (g.2.2.1, 1116, .inl (fun _ => 0)))]] : List va_W)) C dX7_init_28 hX7_init_X7 0 rfl rfl 3 (Nat.le_of_ble_eq_true rfl) kX7_init_7 tyX7_ok nmX7 rfl HI rfl rfl rfl (Nat.le_of_ble_eq_true rfl) rfl ?_
  refine y_aload_n C dX7_init_31 0 rfl rfl ?_
  refine y_sipush (v := 372) C dX7_init_32 (by decide) ?_
  refine y_newI (N := 372) C dX7_init_35 kX7_init_4 (by decide) (by decide) (Nat.le_of_ble_eq_true rfl) (Nat.le_of_ble_eq_true rfl) (fun q4 => ?_)
  refine y_world (L1 := ([[(h0, .inr (7, [.int 0, .ref q1, .ref q2, .ref q3, .int 0, .null, .null, .null, .int 0, .null, .int 0, .null, .null, .null, .int 0, .int 0, .int 0, .int 0, .int 0, .int 0, .int 0, .int 0, .int 0, .int 0, .null, .int 0]))], [(q1, .inl (g.2.2.1, 186, .inl (fun _ => 0)))], [(q2, .inl (g.2.2.1, 186, .inl (fun _ => 0)))], [(q3, .inl (g.2.2.1, 1116, .inl (fun _ => 0)))], [(q4, .inl (g.2.2.1, 372, .inl (fun _ => 0)))]] : List va_W)) rfl ?_
  refine y_putF (Cn := RX7) (T := TX7) (N := 26) (v := .ref q4) (ty0 := tyX7) (L1 := ([[(h0, .inr (7, [.int 0, .ref q1, .ref q2, .ref q3, .int 0, .ref q4, .null, .null, .int 0, .null, .int 0, .null, .null, .null, .int 0, .int 0, .int 0, .int 0, .int 0, .int 0, .int 0, .int 0, .int 0, .int 0, .null, .int 0]))], [(q1, .inl (g.2.2.1, 186, .inl (fun _ => 0)))], [(q2, .inl (g.2.2.1, 186, .inl (fun _ => 0)))], [(q3, .inl (g.2.2.1, 1116, .inl (fun _ => 0)))], [(q4, .inl (g.2.2.1, 372, .inl (fun _ => 0)))]] : List va_W)) C dX7_init_37 hX7_init_X7 0 rfl rfl 5 (Nat.le_of_ble_eq_true rfl) kX7_init_8 tyX7_ok nmX7 rfl HI rfl rfl rfl (Nat.le_of_ble_eq_true rfl) rfl ?_
  refine y_aload_n C dX7_init_40 0 rfl rfl ?_
  refine y_iconst (v := 2) C dX7_init_41 (by decide) ?_
  refine y_newZ (N := 2) C dX7_init_42 kX7_init_9 (by decide) (by decide) (Nat.le_of_ble_eq_true rfl) (Nat.le_of_ble_eq_true rfl) (fun q5 => ?_)
  refine y_world (L1 := ([[(h0, .inr (7, [.int 0, .ref q1, .ref q2, .ref q3, .int 0, .ref q4, .null, .null, .int 0, .null, .int 0, .null, .null, .null, .int 0, .int 0, .int 0, .int 0, .int 0, .int 0, .int 0, .int 0, .int 0, .int 0, .null, .int 0]))], [(q1, .inl (g.2.2.1, 186, .inl (fun _ => 0)))], [(q2, .inl (g.2.2.1, 186, .inl (fun _ => 0)))], [(q3, .inl (g.2.2.1, 1116, .inl (fun _ => 0)))], [(q4, .inl (g.2.2.1, 372, .inl (fun _ => 0)))], [(q5, .inl (g.2.2.2.1, 2, .inl (fun _ => 0)))]] : List va_W)) rfl ?_
  refine y_putF (Cn := RX7) (T := TX7) (N := 26) (v := .ref q5) (ty0 := tyX7) (L1 := ([[(h0, .inr (7, [.int 0, .ref q1, .ref q2, .ref q3, .int 0, .ref q4, .ref q5, .null, .int 0, .null, .int 0, .null, .null, .null, .int 0, .int 0, .int 0, .int 0, .int 0, .int 0, .int 0, .int 0, .int 0, .int 0, .null, .int 0]))], [(q1, .inl (g.2.2.1, 186, .inl (fun _ => 0)))], [(q2, .inl (g.2.2.1, 186, .inl (fun _ => 0)))], [(q3, .inl (g.2.2.1, 1116, .inl (fun _ => 0)))], [(q4, .inl (g.2.2.1, 372, .inl (fun _ => 0)))], [(q5, .inl (g.2.2.2.1, 2, .inl (fun _ => 0)))]] : List va_W)) C dX7_init_44 hX7_init_X7 0 rfl rfl 6 (Nat.le_of_ble_eq_true rfl) kX7_init_10 tyX7_ok nmX7 rfl HI rfl rfl rfl (Nat.le_of_ble_eq_true rfl) rfl ?_
  refine y_aload_n C dX7_init_47 0 rfl rfl ?_
  refine y_bipush (v := 60) C dX7_init_48 (by decide) ?_
  refine y_newI (N := 60) C dX7_init_50 kX7_init_4 (by decide) (by decide) (Nat.le_of_ble_eq_true rfl) (Nat.le_of_ble_eq_true rfl) (fun q6 => ?_)
  refine y_world (L1 := ([[(h0, .inr (7, [.int 0, .ref q1, .ref q2, .ref q3, .int 0, .ref q4, .ref q5, .null, .int 0, .null, .int 0, .null, .null, .null, .int 0, .int 0, .int 0, .int 0, .int 0, .int 0, .int 0, .int 0, .int 0, .int 0, .null, .int 0]))], [(q1, .inl (g.2.2.1, 186, .inl (fun _ => 0)))], [(q2, .inl (g.2.2.1, 186, .inl (fun _ => 0)))], [(q3, .inl (g.2.2.1, 1116, .inl (fun _ => 0)))], [(q4, .inl (g.2.2.1, 372, .inl (fun _ => 0)))], [(q5, .inl (g.2.2.2.1, 2, .inl (fun _ => 0)))], [(q6, .inl (g.2.2.1, 60, .inl (fun _ => 0)))]] : List va_W)) rfl ?_
  refine y_putF (Cn := RX7) (T := TX7) (N := 26) (v := .ref q6) (ty0 := tyX7) (L1 := ([[(h0, .inr (7, [.int 0, .ref q1, .ref q2, .ref q3, .int 0, .ref q4, .ref q5, .ref q6, .int 0, .null, .int 0, .null, .null, .null, .int 0, .int 0, .int 0, .int 0, .int 0, .int 0, .int 0, .int 0, .int 0, .int 0, .null, .int 0]))], [(q1, .inl (g.2.2.1, 186, .inl (fun _ => 0)))], [(q2, .inl (g.2.2.1, 186, .inl (fun _ => 0)))], [(q3, .inl (g.2.2.1, 1116, .inl (fun _ => 0)))], [(q4, .inl (g.2.2.1, 372, .inl (fun _ => 0)))], [(q5, .inl (g.2.2.2.1, 2, .inl (fun _ => 0)))], [(q6, .inl (g.2.2.1, 60, .inl (fun _ => 0)))]] : List va_W)) C dX7_init_52 hX7_init_X7 0 rfl rfl 7 (Nat.le_of_ble_eq_true rfl) kX7_init_11 tyX7_ok nmX7 rfl HI rfl rfl rfl (Nat.le_of_ble_eq_true rfl) rfl ?_
  refine y_aload_n C dX7_init_55 0 rfl rfl ?_
  refine y_bipush (v := 36) C dX7_init_56 (by decide) ?_
  refine y_newI (N := 36) C dX7_init_58 kX7_init_4 (by decide) (by decide) (Nat.le_of_ble_eq_true rfl) (Nat.le_of_ble_eq_true rfl) (fun q7 => ?_)
  refine y_world (L1 := ([[(h0, .inr (7, [.int 0, .ref q1, .ref q2, .ref q3, .int 0, .ref q4, .ref q5, .ref q6, .int 0, .null, .int 0, .null, .null, .null, .int 0, .int 0, .int 0, .int 0, .int 0, .int 0, .int 0, .int 0, .int 0, .int 0, .null, .int 0]))], [(q1, .inl (g.2.2.1, 186, .inl (fun _ => 0)))], [(q2, .inl (g.2.2.1, 186, .inl (fun _ => 0)))], [(q3, .inl (g.2.2.1, 1116, .inl (fun _ => 0)))], [(q4, .inl (g.2.2.1, 372, .inl (fun _ => 0)))], [(q5, .inl (g.2.2.2.1, 2, .inl (fun _ => 0)))], [(q6, .inl (g.2.2.1, 60, .inl (fun _ => 0)))], [(q7, .inl (g.2.2.1, 36, .inl (fun _ => 0)))]] : List va_W)) rfl ?_
  refine y_putF (Cn := RX7) (T := TX7) (N := 26) (v := .ref q7) (ty0 := tyX7) (L1 := ([[(h0, .inr (7, [.int 0, .ref q1, .ref q2, .ref q3, .int 0, .ref q4, .ref q5, .ref q6, .int 0, .ref q7, .int 0, .null, .null, .null, .int 0, .int 0, .int 0, .int 0, .int 0, .int 0, .int 0, .int 0, .int 0, .int 0, .null, .int 0]))], [(q1, .inl (g.2.2.1, 186, .inl (fun _ => 0)))], [(q2, .inl (g.2.2.1, 186, .inl (fun _ => 0)))], [(q3, .inl (g.2.2.1, 1116, .inl (fun _ => 0)))], [(q4, .inl (g.2.2.1, 372, .inl (fun _ => 0)))], [(q5, .inl (g.2.2.2.1, 2, .inl (fun _ => 0)))], [(q6, .inl (g.2.2.1, 60, .inl (fun _ => 0)))], [(q7, .inl (g.2.2.1, 36, .inl (fun _ => 0)))]] : List va_W)) C dX7_init_60 hX7_init_X7 0 rfl rfl 9 (Nat.le_of_ble_eq_true rfl) kX7_init_12 tyX7_ok nmX7 rfl HI rfl rfl rfl (Nat.le_of_ble_eq_true rfl) rfl ?_
  refine y_aload_n C dX7_init_63 0 rfl rfl ?_
  refine y_bipush (v := 36) C dX7_init_64 (by decide) ?_
  refine y_newI (N := 36) C dX7_init_66 kX7_init_4 (by decide) (by decide) (Nat.le_of_ble_eq_true rfl) (Nat.le_of_ble_eq_true rfl) (fun q8 => ?_)
  refine y_world (L1 := ([[(h0, .inr (7, [.int 0, .ref q1, .ref q2, .ref q3, .int 0, .ref q4, .ref q5, .ref q6, .int 0, .ref q7, .int 0, .null, .null, .null, .int 0, .int 0, .int 0, .int 0, .int 0, .int 0, .int 0, .int 0, .int 0, .int 0, .null, .int 0]))], [(q1, .inl (g.2.2.1, 186, .inl (fun _ => 0)))], [(q2, .inl (g.2.2.1, 186, .inl (fun _ => 0)))], [(q3, .inl (g.2.2.1, 1116, .inl (fun _ => 0)))], [(q4, .inl (g.2.2.1, 372, .inl (fun _ => 0)))], [(q5, .inl (g.2.2.2.1, 2, .inl (fun _ => 0)))], [(q6, .inl (g.2.2.1, 60, .inl (fun _ => 0)))], [(q7, .inl (g.2.2.1, 36, .inl (fun _ => 0)))], [(q8, .inl (g.2.2.1, 36, .inl (fun _ => 0)))]] : List va_W)) rfl ?_
  refine y_putF (Cn := RX7) (T := TX7) (N := 26) (v := .ref q8) (ty0 := tyX7) (L1 := ([[(h0, .inr (7, [.int 0, .ref q1, .ref q2, .ref q3, .int 0, .ref q4, .ref q5, .ref q6, .int 0, .ref q7, .int 0, .ref q8, .null, .null, .int 0, .int 0, .int 0, .int 0, .int 0, .int 0, .int 0, .int 0, .int 0, .int 0, .null, .int 0]))], [(q1, .inl (g.2.2.1, 186, .inl (fun _ => 0)))], [(q2, .inl (g.2.2.1, 186, .inl (fun _ => 0)))], [(q3, .inl (g.2.2.1, 1116, .inl (fun _ => 0)))], [(q4, .inl (g.2.2.1, 372, .inl (fun _ => 0)))], [(q5, .inl (g.2.2.2.1, 2, .inl (fun _ => 0)))], [(q6, .inl (g.2.2.1, 60, .inl (fun _ => 0)))], [(q7, .inl (g.2.2.1, 36, .inl (fun _ => 0)))], [(q8, .inl (g.2.2.1, 36, .inl (fun _ => 0)))]] : List va_W)) C dX7_init_68 hX7_init_X7 0 rfl rfl 11 (Nat.le_of_ble_eq_true rfl) kX7_init_13 tyX7_ok nmX7 rfl HI rfl rfl rfl (Nat.le_of_ble_eq_true rfl) rfl ?_
  refine y_aload_n C dX7_init_71 0 rfl rfl ?_
  refine y_bipush (v := 36) C dX7_init_72 (by decide) ?_
  refine y_newI (N := 36) C dX7_init_74 kX7_init_4 (by decide) (by decide) (Nat.le_of_ble_eq_true rfl) (Nat.le_of_ble_eq_true rfl) (fun q9 => ?_)
  refine y_world (L1 := ([[(h0, .inr (7, [.int 0, .ref q1, .ref q2, .ref q3, .int 0, .ref q4, .ref q5, .ref q6, .int 0, .ref q7, .int 0, .ref q8, .null, .null, .int 0, .int 0, .int 0, .int 0, .int 0, .int 0, .int 0, .int 0, .int 0, .int 0, .null, .int 0]))], [(q1, .inl (g.2.2.1, 186, .inl (fun _ => 0)))], [(q2, .inl (g.2.2.1, 186, .inl (fun _ => 0)))], [(q3, .inl (g.2.2.1, 1116, .inl (fun _ => 0)))], [(q4, .inl (g.2.2.1, 372, .inl (fun _ => 0)))], [(q5, .inl (g.2.2.2.1, 2, .inl (fun _ => 0)))], [(q6, .inl (g.2.2.1, 60, .inl (fun _ => 0)))], [(q7, .inl (g.2.2.1, 36, .inl (fun _ => 0)))], [(q8, .inl (g.2.2.1, 36, .inl (fun _ => 0)))], [(q9, .inl (g.2.2.1, 36, .inl (fun _ => 0)))]] : List va_W)) rfl ?_
  refine y_putF (Cn := RX7) (T := TX7) (N := 26) (v := .ref q9) (ty0 := tyX7) (L1 := ([[(h0, .inr (7, [.int 0, .ref q1, .ref q2, .ref q3, .int 0, .ref q4, .ref q5, .ref q6, .int 0, .ref q7, .int 0, .ref q8, .ref q9, .null, .int 0, .int 0, .int 0, .int 0, .int 0, .int 0, .int 0, .int 0, .int 0, .int 0, .null, .int 0]))], [(q1, .inl (g.2.2.1, 186, .inl (fun _ => 0)))], [(q2, .inl (g.2.2.1, 186, .inl (fun _ => 0)))], [(q3, .inl (g.2.2.1, 1116, .inl (fun _ => 0)))], [(q4, .inl (g.2.2.1, 372, .inl (fun _ => 0)))], [(q5, .inl (g.2.2.2.1, 2, .inl (fun _ => 0)))], [(q6, .inl (g.2.2.1, 60, .inl (fun _ => 0)))], [(q7, .inl (g.2.2.1, 36, .inl (fun _ => 0)))], [(q8, .inl (g.2.2.1, 36, .inl (fun _ => 0)))], [(q9, .inl (g.2.2.1, 36, .inl (fun _ => 0)))]] : List va_W)) C dX7_init_76 hX7_init_X7 0 rfl rfl 12 (Nat.le_of_ble_eq_true rfl) kX7_init_14 tyX7_ok nmX7 rfl HI rfl rfl rfl (Nat.le_of_ble_eq_true rfl) rfl ?_
  refine y_aload_n C dX7_init_79 0 rfl rfl ?_
  refine y_bipush (v := 36) C dX7_init_80 (by decide) ?_
  refine y_newI (N := 36) C dX7_init_82 kX7_init_4 (by decide) (by decide) (Nat.le_of_ble_eq_true rfl) (Nat.le_of_ble_eq_true rfl) (fun q10 => ?_)
  refine y_world (L1 := ([[(h0, .inr (7, [.int 0, .ref q1, .ref q2, .ref q3, .int 0, .ref q4, .ref q5, .ref q6, .int 0, .ref q7, .int 0, .ref q8, .ref q9, .null, .int 0, .int 0, .int 0, .int 0, .int 0, .int 0, .int 0, .int 0, .int 0, .int 0, .null, .int 0]))], [(q1, .inl (g.2.2.1, 186, .inl (fun _ => 0)))], [(q2, .inl (g.2.2.1, 186, .inl (fun _ => 0)))], [(q3, .inl (g.2.2.1, 1116, .inl (fun _ => 0)))], [(q4, .inl (g.2.2.1, 372, .inl (fun _ => 0)))], [(q5, .inl (g.2.2.2.1, 2, .inl (fun _ => 0)))], [(q6, .inl (g.2.2.1, 60, .inl (fun _ => 0)))], [(q7, .inl (g.2.2.1, 36, .inl (fun _ => 0)))], [(q8, .inl (g.2.2.1, 36, .inl (fun _ => 0)))], [(q9, .inl (g.2.2.1, 36, .inl (fun _ => 0)))], [(q10, .inl (g.2.2.1, 36, .inl (fun _ => 0)))]] : List va_W)) rfl ?_
  refine y_putF (Cn := RX7) (T := TX7) (N := 26) (v := .ref q10) (ty0 := tyX7) (L1 := ([[(h0, .inr (7, [.int 0, .ref q1, .ref q2, .ref q3, .int 0, .ref q4, .ref q5, .ref q6, .int 0, .ref q7, .int 0, .ref q8, .ref q9, .ref q10, .int 0, .int 0, .int 0, .int 0, .int 0, .int 0, .int 0, .int 0, .int 0, .int 0, .null, .int 0]))], [(q1, .inl (g.2.2.1, 186, .inl (fun _ => 0)))], [(q2, .inl (g.2.2.1, 186, .inl (fun _ => 0)))], [(q3, .inl (g.2.2.1, 1116, .inl (fun _ => 0)))], [(q4, .inl (g.2.2.1, 372, .inl (fun _ => 0)))], [(q5, .inl (g.2.2.2.1, 2, .inl (fun _ => 0)))], [(q6, .inl (g.2.2.1, 60, .inl (fun _ => 0)))], [(q7, .inl (g.2.2.1, 36, .inl (fun _ => 0)))], [(q8, .inl (g.2.2.1, 36, .inl (fun _ => 0)))], [(q9, .inl (g.2.2.1, 36, .inl (fun _ => 0)))], [(q10, .inl (g.2.2.1, 36, .inl (fun _ => 0)))]] : List va_W)) C dX7_init_84 hX7_init_X7 0 rfl rfl 13 (Nat.le_of_ble_eq_true rfl) kX7_init_15 tyX7_ok nmX7 rfl HI rfl rfl rfl (Nat.le_of_ble_eq_true rfl) rfl ?_
  refine y_aload_n C dX7_init_87 0 rfl rfl ?_
  refine y_bipush (v := 64) C dX7_init_88 (by decide) ?_
  refine y_newI (N := 64) C dX7_init_90 kX7_init_4 (by decide) (by decide) (Nat.le_of_ble_eq_true rfl) (Nat.le_of_ble_eq_true rfl) (fun q11 => ?_)
  refine y_world (L1 := ([[(h0, .inr (7, [.int 0, .ref q1, .ref q2, .ref q3, .int 0, .ref q4, .ref q5, .ref q6, .int 0, .ref q7, .int 0, .ref q8, .ref q9, .ref q10, .int 0, .int 0, .int 0, .int 0, .int 0, .int 0, .int 0, .int 0, .int 0, .int 0, .null, .int 0]))], [(q1, .inl (g.2.2.1, 186, .inl (fun _ => 0)))], [(q2, .inl (g.2.2.1, 186, .inl (fun _ => 0)))], [(q3, .inl (g.2.2.1, 1116, .inl (fun _ => 0)))], [(q4, .inl (g.2.2.1, 372, .inl (fun _ => 0)))], [(q5, .inl (g.2.2.2.1, 2, .inl (fun _ => 0)))], [(q6, .inl (g.2.2.1, 60, .inl (fun _ => 0)))], [(q7, .inl (g.2.2.1, 36, .inl (fun _ => 0)))], [(q8, .inl (g.2.2.1, 36, .inl (fun _ => 0)))], [(q9, .inl (g.2.2.1, 36, .inl (fun _ => 0)))], [(q10, .inl (g.2.2.1, 36, .inl (fun _ => 0)))], [(q11, .inl (g.2.2.1, 64, .inl (fun _ => 0)))]] : List va_W)) rfl ?_
  refine y_putF (Cn := RX7) (T := TX7) (N := 26) (v := .ref q11) (ty0 := tyX7) (L1 := ([[(h0, .inr (7, [.int 0, .ref q1, .ref q2, .ref q3, .int 0, .ref q4, .ref q5, .ref q6, .int 0, .ref q7, .int 0, .ref q8, .ref q9, .ref q10, .int 0, .int 0, .int 0, .int 0, .int 0, .int 0, .int 0, .int 0, .int 0, .int 0, .ref q11, .int 0]))], [(q1, .inl (g.2.2.1, 186, .inl (fun _ => 0)))], [(q2, .inl (g.2.2.1, 186, .inl (fun _ => 0)))], [(q3, .inl (g.2.2.1, 1116, .inl (fun _ => 0)))], [(q4, .inl (g.2.2.1, 372, .inl (fun _ => 0)))], [(q5, .inl (g.2.2.2.1, 2, .inl (fun _ => 0)))], [(q6, .inl (g.2.2.1, 60, .inl (fun _ => 0)))], [(q7, .inl (g.2.2.1, 36, .inl (fun _ => 0)))], [(q8, .inl (g.2.2.1, 36, .inl (fun _ => 0)))], [(q9, .inl (g.2.2.1, 36, .inl (fun _ => 0)))], [(q10, .inl (g.2.2.1, 36, .inl (fun _ => 0)))], [(q11, .inl (g.2.2.1, 64, .inl (fun _ => 0)))]] : List va_W)) C dX7_init_92 hX7_init_X7 0 rfl rfl 24 (Nat.le_of_ble_eq_true rfl) kX7_init_16 tyX7_ok nmX7 rfl HI rfl rfl rfl (Nat.le_of_ble_eq_true rfl) rfl ?_
  refine y_aload_n C dX7_init_95 0 rfl rfl ?_
  refine y_iconst (v := 0) C dX7_init_96 (by decide) ?_
  refine y_put (Cn := RX7) (T := TX7) (N := 26) (v := .int 0) (ty0 := tyX7) (L1 := ([[(h0, .inr (7, [.int 0, .ref q1, .ref q2, .ref q3, .int 0, .ref q4, .ref q5, .ref q6, .int 0, .ref q7, .int 0, .ref q8, .ref q9, .ref q10, .int 0, .int 0, .int 0, .int 0, .int 0, .int 0, .int 0, .int 0, .int 0, .int 0, .ref q11, .int 0]))], [(q1, .inl (g.2.2.1, 186, .inl (fun _ => 0)))], [(q2, .inl (g.2.2.1, 186, .inl (fun _ => 0)))], [(q3, .inl (g.2.2.1, 1116, .inl (fun _ => 0)))], [(q4, .inl (g.2.2.1, 372, .inl (fun _ => 0)))], [(q5, .inl (g.2.2.2.1, 2, .inl (fun _ => 0)))], [(q6, .inl (g.2.2.1, 60, .inl (fun _ => 0)))], [(q7, .inl (g.2.2.1, 36, .inl (fun _ => 0)))], [(q8, .inl (g.2.2.1, 36, .inl (fun _ => 0)))], [(q9, .inl (g.2.2.1, 36, .inl (fun _ => 0)))], [(q10, .inl (g.2.2.1, 36, .inl (fun _ => 0)))], [(q11, .inl (g.2.2.1, 64, .inl (fun _ => 0)))]] : List va_W)) C dX7_init_97 hX7_init_X7 0 rfl rfl 0 (Nat.le_of_ble_eq_true rfl) kX7_init_17 tyX7_ok nmX7 rfl rfl rfl (Nat.le_of_ble_eq_true rfl) rfl ?_
  refine y_aload_n C dX7_init_100 0 rfl rfl ?_
  refine y_get (Cn := RX7) (T := TX7) (N := 26) (v := .ref q1) C dX7_init_101 hX7_init_X7 0 rfl rfl 1 (Nat.le_of_ble_eq_true rfl) kX7_init_5 rfl ?_
  refine y_iconst (v := 0) C dX7_init_104 (by decide) ?_
  refine y_iconst (v := 3) C dX7_init_105 (by decide) ?_
  refine y_iast (N := 186) (f := (fun _ => 0)) (L1 := ([[(h0, .inr (7, [.int 0, .ref q1, .ref q2, .ref q3, .int 0, .ref q4, .ref q5, .ref q6, .int 0, .ref q7, .int 0, .ref q8, .ref q9, .ref q10, .int 0, .int 0, .int 0, .int 0, .int 0, .int 0, .int 0, .int 0, .int 0, .int 0, .ref q11, .int 0]))], [(q1, .inl (g.2.2.1, 186, .inl (upd (fun _ => 0) 0 3)))], [(q2, .inl (g.2.2.1, 186, .inl (fun _ => 0)))], [(q3, .inl (g.2.2.1, 1116, .inl (fun _ => 0)))], [(q4, .inl (g.2.2.1, 372, .inl (fun _ => 0)))], [(q5, .inl (g.2.2.2.1, 2, .inl (fun _ => 0)))], [(q6, .inl (g.2.2.1, 60, .inl (fun _ => 0)))], [(q7, .inl (g.2.2.1, 36, .inl (fun _ => 0)))], [(q8, .inl (g.2.2.1, 36, .inl (fun _ => 0)))], [(q9, .inl (g.2.2.1, 36, .inl (fun _ => 0)))], [(q10, .inl (g.2.2.1, 36, .inl (fun _ => 0)))], [(q11, .inl (g.2.2.1, 64, .inl (fun _ => 0)))]] : List va_W)) C dX7_init_106 1 rfl (by unfold vp_in; decide) rfl ?_
  refine y_aload_n C dX7_init_107 0 rfl rfl ?_
  refine y_get (Cn := RX7) (T := TX7) (N := 26) (v := .ref q1) C dX7_init_108 hX7_init_X7 0 rfl rfl 1 (Nat.le_of_ble_eq_true rfl) kX7_init_5 rfl ?_
  refine y_iconst (v := 1) C dX7_init_111 (by decide) ?_
  refine y_bipush (v := 10) C dX7_init_112 (by decide) ?_
  refine y_iast (N := 186) (f := (upd (fun _ => 0) 0 3)) (L1 := ([[(h0, .inr (7, [.int 0, .ref q1, .ref q2, .ref q3, .int 0, .ref q4, .ref q5, .ref q6, .int 0, .ref q7, .int 0, .ref q8, .ref q9, .ref q10, .int 0, .int 0, .int 0, .int 0, .int 0, .int 0, .int 0, .int 0, .int 0, .int 0, .ref q11, .int 0]))], [(q1, .inl (g.2.2.1, 186, .inl (upd (upd (fun _ => 0) 0 3) 1 10)))], [(q2, .inl (g.2.2.1, 186, .inl (fun _ => 0)))], [(q3, .inl (g.2.2.1, 1116, .inl (fun _ => 0)))], [(q4, .inl (g.2.2.1, 372, .inl (fun _ => 0)))], [(q5, .inl (g.2.2.2.1, 2, .inl (fun _ => 0)))], [(q6, .inl (g.2.2.1, 60, .inl (fun _ => 0)))], [(q7, .inl (g.2.2.1, 36, .inl (fun _ => 0)))], [(q8, .inl (g.2.2.1, 36, .inl (fun _ => 0)))], [(q9, .inl (g.2.2.1, 36, .inl (fun _ => 0)))], [(q10, .inl (g.2.2.1, 36, .inl (fun _ => 0)))], [(q11, .inl (g.2.2.1, 64, .inl (fun _ => 0)))]] : List va_W)) C dX7_init_114 1 rfl (by unfold vp_in; decide) rfl ?_
  refine y_aload_n C dX7_init_115 0 rfl rfl ?_
  refine y_get (Cn := RX7) (T := TX7) (N := 26) (v := .ref q1) C dX7_init_116 hX7_init_X7 0 rfl rfl 1 (Nat.le_of_ble_eq_true rfl) kX7_init_5 rfl ?_
  refine y_iconst (v := 2) C dX7_init_119 (by decide) ?_
  refine y_iconst (v := 1) C dX7_init_120 (by decide) ?_
  refine y_iast (N := 186) (f := (upd (upd (fun _ => 0) 0 3) 1 10)) (L1 := ([[(h0, .inr (7, [.int 0, .ref q1, .ref q2, .ref q3, .int 0, .ref q4, .ref q5, .ref q6, .int 0, .ref q7, .int 0, .ref q8, .ref q9, .ref q10, .int 0, .int 0, .int 0, .int 0, .int 0, .int 0, .int 0, .int 0, .int 0, .int 0, .ref q11, .int 0]))], [(q1, .inl (g.2.2.1, 186, .inl (upd (upd (upd (fun _ => 0) 0 3) 1 10) 2 1)))], [(q2, .inl (g.2.2.1, 186, .inl (fun _ => 0)))], [(q3, .inl (g.2.2.1, 1116, .inl (fun _ => 0)))], [(q4, .inl (g.2.2.1, 372, .inl (fun _ => 0)))], [(q5, .inl (g.2.2.2.1, 2, .inl (fun _ => 0)))], [(q6, .inl (g.2.2.1, 60, .inl (fun _ => 0)))], [(q7, .inl (g.2.2.1, 36, .inl (fun _ => 0)))], [(q8, .inl (g.2.2.1, 36, .inl (fun _ => 0)))], [(q9, .inl (g.2.2.1, 36, .inl (fun _ => 0)))], [(q10, .inl (g.2.2.1, 36, .inl (fun _ => 0)))], [(q11, .inl (g.2.2.1, 64, .inl (fun _ => 0)))]] : List va_W)) C dX7_init_121 1 rfl (by unfold vp_in; decide) rfl ?_
  refine y_world (L1 := ([modW g (fun n => ([h0, q1, q2, q3, q4, q5, q6, q7, q8, q9, q10, q11] : List Nat).getD n 0) M0] : List va_W)) ?_ ?_
  · exact rfl
  · exact HR 122 dX7_init_122 _ _ _ _ (Nat.le_of_ble_eq_true rfl) (Nat.le_of_ble_eq_true rfl) ⟨_, rfl, rfl⟩
