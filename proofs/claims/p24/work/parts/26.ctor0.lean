theorem dX3_init_0 : decode cX3_init 0 = .ok (.aload_n 0, 1) := by decide +kernel
theorem dX3_init_1 : decode cX3_init 1 = .ok (.invokespecial 1, 3) := by decide +kernel
theorem dX3_init_4 : decode cX3_init 4 = .ok (.aload_n 0, 1) := by decide +kernel
theorem dX3_init_5 : decode cX3_init 5 = .ok (.iload_n 1, 1) := by decide +kernel
theorem dX3_init_6 : decode cX3_init 6 = .ok (.iconst 0, 1) := by decide +kernel
theorem dX3_init_7 : decode cX3_init 7 = .ok (.invokestatic 7, 3) := by decide +kernel
theorem dX3_init_10 : decode cX3_init 10 = .ok (.newarray .int, 2) := by decide +kernel
theorem dX3_init_12 : decode cX3_init 12 = .ok (.putfield 13, 3) := by decide +kernel
theorem dX3_init_15 : decode cX3_init 15 = .ok (.return_, 1) := by decide +kernel
/-! ===== constructors ===== -/
theorem kX3_init_a : Cond.methodLink RX3 1 objectInit ∈ wsX3_init := List.mem_of_getElem? (i := 1) (by decide +kernel)
theorem kX3_init_b : Cond.instanceMethod objectInit ∈ wsX3_init := List.mem_of_getElem? (i := 2) (by decide +kernel)
theorem kX3_init_c : Cond.code objectInit ⟨#[0xb1]⟩ 1 none ∈ wsX3_init := List.mem_of_getElem? (i := 3) (by decide +kernel)
theorem kX3_init_d : Cond.methodLink RX3 7 Lib.Math.max.name ∈ wsX3_init := List.mem_of_getElem? (i := 4) (by decide +kernel)
theorem kX3_init_e : Cond.static Lib.Math.max.name ∈ wsX3_init := List.mem_of_getElem? (i := 5) (by decide +kernel)
theorem kX3_init_f : Cond.initialized "java/lang/Math" ∈ wsX3_init := List.mem_of_getElem? (i := 6) (by decide +kernel)
theorem kX3_init_g : Cond.code Lib.Math.max.name Lib.Math.max.code 2 (some .int) ∈ wsX3_init := List.mem_of_getElem? (i := 7) (by decide +kernel)
theorem kX3_init_h : Cond.arrayClass .int ∈ wsX3_init := List.mem_of_getElem? (i := 8) (by decide +kernel)
theorem kX3_init_i : Cond.fieldLink RX3 13 "BookedDetours$Row" "cells" "[I" ∈ wsX3_init := List.mem_of_getElem? (i := 9) (by decide +kernel)
theorem hX3_init_X3 : ∀ w ∈ u_ws RX3 TX3 2, w ∈ wsX3_init := fun _ h => List.mem_cons_of_mem _ (List.mem_append_right _ h)
set_option maxHeartbeats 4000000 in
set_option maxRecDepth 100000 in
theorem c_X3_init (g : yG) (r cap : Nat) (hc : cap ≤ 1000) : yMv g yX3_init wsX3_init ({ frames := 1, cells := 1, slots := cap, locals := 20 } : Room) [.ref r, .int (nI cap)] ([[(r, .inr (3, [.null, .int 0]))]] : List va_W) (fun w => ∃ (a : Nat) (h' : Nat → Int32), w = ([rowW g.2.2.1 r a cap [] h'] : List va_W)) 1 cap := by
  refine y_entryV (cc := cX3_init) (maxL := 2) (by decide +kernel) rfl (Nat.le_of_ble_eq_true rfl) (fun Z C HI HR => ?_)
  have HI : yIn Z := HI rfl
  have C : yC Z g cX3_init 2 wsX3_init RX3 := C
  show yJ Z _ 0 0 _ 0 [(0, .ref r), (1, .int (nI cap))] []
  refine y_aload_n C dX3_init_0 0 rfl rfl ?_
  refine y_objInit C dX3_init_1 kX3_init_a kX3_init_b kX3_init_c (Nat.le_of_ble_eq_true rfl) (Nat.le_of_ble_eq_true rfl) ?_
  refine y_aload_n C dX3_init_4 0 rfl rfl ?_
  refine y_iload_n C dX3_init_5 1 rfl rfl ?_
  refine y_iconst (v := 0) C dX3_init_6 (by decide) ?_
  refine y_mmax C dX3_init_7 kX3_init_d kX3_init_e kX3_init_f kX3_init_g (Nat.le_of_ble_eq_true rfl) (Nat.le_of_ble_eq_true rfl) (Nat.zero_le _) (Nat.zero_le _) ?_
  refine y_newI (N := cap) C dX3_init_10 kX3_init_h (by rw [if_neg (nI_pos (by omega))]) (by omega) (Nat.le_refl _) (by show 0 + cap ≤ cap; omega) (fun q => ?_)
  refine y_putF (Cn := RX3) (T := TX3) (N := 2) (ci := 3) (v := .ref q) (ty0 := tyX3) (L1 := ([[(r, .inr (3, [.ref q, .int 0]))], [(q, .inl (g.2.2.1, cap, .inl (fun _ => 0)))]] : List va_W)) C dX3_init_12 hX3_init_X3 0 rfl rfl 0 (Nat.le_of_ble_eq_true rfl) kX3_init_i tyX3_ok nmX3 rfl HI rfl rfl rfl (Nat.le_of_ble_eq_true rfl) rfl ?_
  refine y_world (L1 := ([rowW g.2.2.1 r q cap [] (fun _ => 0)] : List va_W)) ?_ ?_
  · rw [List.flatten_singleton, rowW_pos (Nat.zero_le _)]
    rfl
  · exact HR 15 dX3_init_15 _ _ _ _ (Nat.le_refl _) (by omega) ⟨q, fun _ => 0, rfl⟩
