theorem dX7_undo_0 : decode cX7_undo 0 = .ok (.aload_n 0, 1) := by decide +kernel
theorem dX7_undo_1 : decode cX7_undo 1 = .ok (.iconst 0, 1) := by decide +kernel
theorem dX7_undo_2 : decode cX7_undo 2 = .ok (.putfield 44, 3) := by decide +kernel
theorem dX7_undo_5 : decode cX7_undo 5 = .ok (.aload_n 0, 1) := by decide +kernel
theorem dX7_undo_6 : decode cX7_undo 6 = .ok (.getfield 52, 3) := by decide +kernel
theorem dX7_undo_9 : decode cX7_undo 9 = .ok (.ifCond .ne 6, 3) := by decide +kernel
theorem dX7_undo_12 : decode cX7_undo 12 = .ok (.bipush (-5), 2) := by decide +kernel
theorem dX7_undo_14 : decode cX7_undo 14 = .ok (.ireturn, 1) := by decide +kernel
theorem dX7_undo_15 : decode cX7_undo 15 = .ok (.aload_n 0, 1) := by decide +kernel
theorem dX7_undo_16 : decode cX7_undo 16 = .ok (.dup, 1) := by decide +kernel
theorem dX7_undo_17 : decode cX7_undo 17 = .ok (.getfield 52, 3) := by decide +kernel
theorem dX7_undo_20 : decode cX7_undo 20 = .ok (.iconst 1, 1) := by decide +kernel
theorem dX7_undo_21 : decode cX7_undo 21 = .ok (.isub, 1) := by decide +kernel
theorem dX7_undo_22 : decode cX7_undo 22 = .ok (.putfield 52, 3) := by decide +kernel
theorem dX7_undo_25 : decode cX7_undo 25 = .ok (.iconst 0, 1) := by decide +kernel
theorem dX7_undo_26 : decode cX7_undo 26 = .ok (.istore_n 1, 1) := by decide +kernel
theorem dX7_undo_27 : decode cX7_undo 27 = .ok (.iload_n 1, 1) := by decide +kernel
theorem dX7_undo_28 : decode cX7_undo 28 = .ok (.sipush 186, 3) := by decide +kernel
theorem dX7_undo_31 : decode cX7_undo 31 = .ok (.if_icmp .ge 30, 3) := by decide +kernel
theorem dX7_undo_34 : decode cX7_undo 34 = .ok (.aload_n 0, 1) := by decide +kernel
theorem dX7_undo_35 : decode cX7_undo 35 = .ok (.getfield 7, 3) := by decide +kernel
theorem dX7_undo_38 : decode cX7_undo 38 = .ok (.iload_n 1, 1) := by decide +kernel
theorem dX7_undo_39 : decode cX7_undo 39 = .ok (.aload_n 0, 1) := by decide +kernel
theorem dX7_undo_40 : decode cX7_undo 40 = .ok (.getfield 16, 3) := by decide +kernel
theorem dX7_undo_43 : decode cX7_undo 43 = .ok (.sipush 186, 3) := by decide +kernel
theorem dX7_undo_46 : decode cX7_undo 46 = .ok (.aload_n 0, 1) := by decide +kernel
theorem dX7_undo_47 : decode cX7_undo 47 = .ok (.getfield 52, 3) := by decide +kernel
theorem dX7_undo_50 : decode cX7_undo 50 = .ok (.imul, 1) := by decide +kernel
theorem dX7_undo_51 : decode cX7_undo 51 = .ok (.iload_n 1, 1) := by decide +kernel
theorem dX7_undo_52 : decode cX7_undo 52 = .ok (.iadd, 1) := by decide +kernel
theorem dX7_undo_53 : decode cX7_undo 53 = .ok (.iaload, 1) := by decide +kernel
theorem dX7_undo_54 : decode cX7_undo 54 = .ok (.iastore, 1) := by decide +kernel
theorem dX7_undo_55 : decode cX7_undo 55 = .ok (.iinc 1 1, 3) := by decide +kernel
theorem dX7_undo_58 : decode cX7_undo 58 = .ok (.goto (-31), 3) := by decide +kernel
theorem dX7_undo_61 : decode cX7_undo 61 = .ok (.aload_n 0, 1) := by decide +kernel
theorem dX7_undo_62 : decode cX7_undo 62 = .ok (.getfield 52, 3) := by decide +kernel
theorem dX7_undo_65 : decode cX7_undo 65 = .ok (.ireturn, 1) := by decide +kernel
theorem kX7_undo_2 : Cond.fieldLink RX7 52 "BookedDetoursModel" "undoMany" "I" ∈ wsX7_undo := List.mem_of_getElem? (i := 2) (by decide +kernel)
theorem kX7_undo_3 : Cond.fieldLink RX7 7 "BookedDetoursModel" "s" "[I" ∈ wsX7_undo := List.mem_of_getElem? (i := 3) (by decide +kernel)
theorem kX7_undo_4 : Cond.fieldLink RX7 16 "BookedDetoursModel" "undos" "[I" ∈ wsX7_undo := List.mem_of_getElem? (i := 4) (by decide +kernel)
theorem kX7_undo_1 : Cond.fieldLink RX7 44 "BookedDetoursModel" "thrown" "I" ∈ wsX7_undo := List.mem_of_getElem? (i := 1) (by decide +kernel)
theorem hX7_undo_X7 : ∀ w ∈ u_ws RX7 TX7 26, w ∈ wsX7_undo := fun _ h => List.mem_cons_of_mem _ (List.mem_append_right _ h)
set_option maxHeartbeats 4000000 in
set_option maxRecDepth 100000 in
theorem w_X7_undo_27 {Z : yZ} (g : yG) (M : Nat → Nat) (C : yC Z g cX7_undo 2 wsX7_undo RX7) {post : Int32 → List va_W → Prop} (HR : yRi Z ({ frames := 0, cells := 0, slots := 0, locals := 0 } : Room) cX7_undo .int post 0 0) {X27 : MV → Int32 → Prop} (hX27 : ∀ (m : MV) (x1 : Int32), X27 m x1 → yJ Z ({ frames := 0, cells := 0, slots := 0, locals := 0 } : Room) 0 0 ([modW g M m] : List va_W) 27 [(0, .ref (M 0)), (1, .int x1)] []) {K : Int32 → MV → Prop} (hK : ∀ (r0 : Int32) (m : MV), K r0 m → post r0 ([modW g M m] : List va_W)) (m : MV) (x1 : Int32) (h : wp_X7_undo_27  X27 K m x1) : yJ Z ({ frames := 0, cells := 0, slots := 0, locals := 0 } : Room) 0 0 ([modW g M m] : List va_W) 27 [(0, .ref (M 0)), (1, .int x1)] [] := by
  unfold wp_X7_undo_27 at h
  refine y_iload_n C dX7_undo_27 1 rfl rfl ?_
  refine y_sipush (v := 186) C dX7_undo_28 (by decide) ?_
  refine y_icmp_ge (tgt := 61) C dX7_undo_31 rfl h (fun c31 h => ?_) (fun c31 h => ?_)
  · refine y_aload_n C dX7_undo_61 0 rfl rfl ?_
    refine y_get (Cn := RX7) (T := TX7) (N := 26) (v := .int (m.1 4)) C dX7_undo_62 hX7_undo_X7 0 (sh_5000 g M m) rfl 4 (Nat.le_of_ble_eq_true rfl) kX7_undo_2 rfl ?_
    exact HR 65 dX7_undo_65 (m.1 4) _ _ _ _ (rfl) (Nat.le_of_ble_eq_true rfl) (Nat.le_of_ble_eq_true rfl) (hK _ _  h)
  · refine y_aload_n C dX7_undo_34 0 rfl rfl ?_
    refine y_get (Cn := RX7) (T := TX7) (N := 26) (v := .ref (M 1)) C dX7_undo_35 hX7_undo_X7 0 (sh_5000 g M m) rfl 1 (Nat.le_of_ble_eq_true rfl) kX7_undo_3 rfl ?_
    refine y_iload_n C dX7_undo_38 1 rfl rfl ?_
    refine y_aload_n C dX7_undo_39 0 rfl rfl ?_
    refine y_get (Cn := RX7) (T := TX7) (N := 26) (v := .ref (M 3)) C dX7_undo_40 hX7_undo_X7 0 (sh_5000 g M m) rfl 3 (Nat.le_of_ble_eq_true rfl) kX7_undo_4 rfl ?_
    refine y_sipush (v := 186) C dX7_undo_43 (by decide) ?_
    refine y_aload_n C dX7_undo_46 0 rfl rfl ?_
    refine y_get (Cn := RX7) (T := TX7) (N := 26) (v := .int (m.1 4)) C dX7_undo_47 hX7_undo_X7 0 (sh_5000 g M m) rfl 4 (Nat.le_of_ble_eq_true rfl) kX7_undo_2 rfl ?_
    refine y_imul C dX7_undo_50 ?_
    refine y_iload_n C dX7_undo_51 1 rfl rfl ?_
    refine y_iadd C dX7_undo_52 ?_
    obtain ⟨hb1, h⟩ := h
    refine y_iald (N := 1116) (f := (m.2 3)) C dX7_undo_53 3 (sh_5005 g M m) hb1 ?_
    obtain ⟨hb2, h⟩ := h
    obtain ⟨m3, em3⟩ : ∃ z : MV, z = mA m 1 x1.toNatClampNeg ((m.2 3) (((186 : Int32) * (m.1 4)) + x1).toNatClampNeg) := ⟨_, rfl⟩
    have h := y_letP h em3
    refine y_iast (N := 186) (f := (m.2 1)) (L1 := ([modW g M m3] : List va_W)) C dX7_undo_54 1 (sh_5001 g M m) hb2 (sh_5003 g M m x1.toNatClampNeg ((m.2 3) (((186 : Int32) * (m.1 4)) + x1).toNatClampNeg) m3 em3) ?_
    refine y_iinc (v := (x1 + (1 : Int32))) (lv' := [(1, .int (x1 + (1 : Int32))), (0, .ref (M 0))]) C dX7_undo_55 1 rfl rfl (Nat.le_of_ble_eq_true rfl) rfl ?_
    refine y_goto (tgt := 27) C dX7_undo_58 rfl ?_
    refine y_sub (lv' := [(0, .ref (M 0)), (1, .int (x1 + (1 : Int32)))]) [1, 0] rfl ?_
    exact hX27 _ _ h
set_option maxHeartbeats 4000000 in
set_option maxRecDepth 100000 in
theorem l_X7_undo {Z : yZ} (g : yG) (M : Nat → Nat) (C : yC Z g cX7_undo 2 wsX7_undo RX7) {post : Int32 → List va_W → Prop} (HR : yRi Z ({ frames := 0, cells := 0, slots := 0, locals := 0 } : Room) cX7_undo .int post 0 0) {K : Int32 → MV → Prop} (hK : ∀ (r0 : Int32) (m : MV), K r0 m → post r0 ([modW g M m] : List va_W)) {I27 : Nat → MV → Int32 → Prop} (o27 : ∀ (w0 : Nat) (m : MV) (x1 : Int32), I27 w0 m x1 → wp_X7_undo_27  (fun (m9 : MV) (x19 : Int32) => ∃ w9, w9 < w0 ∧ I27 w9 m9 x19) K m x1) : ∀ w0 : Nat, (∀ (m : MV) (x1 : Int32), I27 w0 m x1 → yJ Z ({ frames := 0, cells := 0, slots := 0, locals := 0 } : Room) 0 0 ([modW g M m] : List va_W) 27 [(0, .ref (M 0)), (1, .int x1)] []) := by
  intro w0
  induction w0 using Nat.strongRecOn with
  | _ w0 ih =>
    exact fun m x1 hi => w_X7_undo_27 g M C HR (fun m x1 hq => by obtain ⟨w9, hlt, hi⟩ := hq; exact (ih w9 hlt) m x1 hi) hK m x1 (o27 w0 m x1 hi)
set_option maxHeartbeats 4000000 in
set_option maxRecDepth 100000 in
theorem t_X7_undo (g : yG) (M : Nat → Nat) (m : MV)  {post : Int32 → List va_W → Prop} {K : Int32 → MV → Prop} (hK : ∀ (r0 : Int32) (m : MV), K r0 m → post r0 ([modW g M m] : List va_W)) (hPO : PO_X7_undo  K m ) : yM g yX7_undo wsX7_undo ({ frames := 0, cells := 0, slots := 0, locals := 0 } : Room) [.ref (M 0)] ([modW g M m] : List va_W) post 0 0 := by
  refine y_entryI (cc := cX7_undo) (maxL := 2) (by decide +kernel) rfl (Nat.le_of_ble_eq_true rfl) (fun Z C HR => ?_)
  have C : yC Z g cX7_undo 2 wsX7_undo RX7 := C
  obtain ⟨I27, o27, h⟩ := hPO
  have hX27 : ∀ (m : MV) (x1 : Int32), (fun (m9 : MV) (x19 : Int32) => ∃ w9, I27 w9 m9 x19) m x1 → yJ Z ({ frames := 0, cells := 0, slots := 0, locals := 0 } : Room) 0 0 ([modW g M m] : List va_W) 27 [(0, .ref (M 0)), (1, .int x1)] [] := by
    intro m x1 hq
    obtain ⟨w9, hi⟩ := hq
    exact (l_X7_undo g M C HR hK o27 w9) m x1 hi
  unfold wp_X7_undo_0 at h
  show yJ Z _ 0 0 _ 0 [(0, .ref (M 0))] []
  refine y_aload_n C dX7_undo_0 0 rfl rfl ?_
  refine y_iconst (v := 0) C dX7_undo_1 (by decide) ?_
  obtain ⟨m1, em1⟩ : ∃ z : MV, z = mI m 0 (0 : Int32) := ⟨_, rfl⟩
  have h := y_letP h em1
  refine y_put (Cn := RX7) (T := TX7) (N := 26) (v := .int (0 : Int32)) (ty0 := tyX7) (L1 := ([modW g M m1] : List va_W)) C dX7_undo_2 hX7_undo_X7 0 (sh_5000 g M m) rfl 0 (Nat.le_of_ble_eq_true rfl) kX7_undo_1 tyX7_ok nmX7 rfl rfl rfl (Nat.le_of_ble_eq_true rfl) (sh_5029 g M m (0 : Int32) m1 em1) ?_
  refine y_aload_n C dX7_undo_5 0 rfl rfl ?_
  refine y_get (Cn := RX7) (T := TX7) (N := 26) (v := .int (m1.1 4)) C dX7_undo_6 hX7_undo_X7 0 (sh_5000 g M m1) rfl 4 (Nat.le_of_ble_eq_true rfl) kX7_undo_2 rfl ?_
  refine y_if_ne (tgt := 15) C dX7_undo_9 rfl h (fun c9 h => ?_) (fun c9 h => ?_)
  · refine y_aload_n C dX7_undo_15 0 rfl rfl ?_
    refine y_dup C dX7_undo_16 rfl ?_
    refine y_get (Cn := RX7) (T := TX7) (N := 26) (v := .int (m1.1 4)) C dX7_undo_17 hX7_undo_X7 0 (sh_5000 g M m1) rfl 4 (Nat.le_of_ble_eq_true rfl) kX7_undo_2 rfl ?_
    refine y_iconst (v := 1) C dX7_undo_20 (by decide) ?_
    refine y_isub C dX7_undo_21 ?_
    obtain ⟨m2, em2⟩ : ∃ z : MV, z = mI m1 4 ((m1.1 4) - (1 : Int32)) := ⟨_, rfl⟩
    have h := y_letP h em2
    refine y_put (Cn := RX7) (T := TX7) (N := 26) (v := .int ((m1.1 4) - (1 : Int32))) (ty0 := tyX7) (L1 := ([modW g M m2] : List va_W)) C dX7_undo_22 hX7_undo_X7 0 (sh_5000 g M m1) rfl 4 (Nat.le_of_ble_eq_true rfl) kX7_undo_2 tyX7_ok nmX7 rfl rfl rfl (Nat.le_of_ble_eq_true rfl) (sh_5004 g M m1 ((m1.1 4) - (1 : Int32)) m2 em2) ?_
    refine y_iconst (v := 0) C dX7_undo_25 (by decide) ?_
    refine y_istore_n (lv' := [(1, .int (0 : Int32)), (0, .ref (M 0))]) C dX7_undo_26 rfl (Nat.le_of_ble_eq_true rfl) rfl ?_
    refine y_sub (lv' := [(0, .ref (M 0)), (1, .int (0 : Int32))]) [1, 0] rfl ?_
    exact hX27 _ _ h
  · refine y_bipush (v := -5) C dX7_undo_12 (by decide) ?_
    exact HR 14 dX7_undo_14 (-5 : Int32) _ _ _ _ (rfl) (Nat.le_of_ble_eq_true rfl) (Nat.le_of_ble_eq_true rfl) (hK _ _  h)
theorem u_X7_undo (g : yG) (M : Nat → Nat) (m : MV)  {K : Int32 → MV → Prop} (hPO : PO_X7_undo  K m ) : yM g yX7_undo wsX7_undo ({ frames := 0, cells := 0, slots := 0, locals := 0 } : Room) [.ref (M 0)] ([modW g M m] : List va_W) (fun r w => ∃ m' : MV, K r m' ∧ w = ([modW g M m'] : List va_W)) 0 0 :=
  t_X7_undo g M m  (fun r0 m hk => ⟨m, hk, rfl⟩) hPO
theorem dX7_save_0 : decode cX7_save 0 = .ok (.aload_n 0, 1) := by decide +kernel
theorem dX7_save_1 : decode cX7_save 1 = .ok (.iconst 0, 1) := by decide +kernel
theorem dX7_save_2 : decode cX7_save 2 = .ok (.putfield 44, 3) := by decide +kernel
theorem dX7_save_5 : decode cX7_save 5 = .ok (.iload_n 1, 1) := by decide +kernel
theorem dX7_save_6 : decode cX7_save 6 = .ok (.iconst 0, 1) := by decide +kernel
theorem dX7_save_7 : decode cX7_save 7 = .ok (.iconst 1, 1) := by decide +kernel
theorem dX7_save_8 : decode cX7_save 8 = .ok (.invokestatic 48, 3) := by decide +kernel
theorem dX7_save_11 : decode cX7_save 11 = .ok (.ifCond .ne 6, 3) := by decide +kernel
theorem dX7_save_14 : decode cX7_save 14 = .ok (.bipush (-2), 2) := by decide +kernel
theorem dX7_save_16 : decode cX7_save 16 = .ok (.ireturn, 1) := by decide +kernel
theorem dX7_save_17 : decode cX7_save 17 = .ok (.iconst 0, 1) := by decide +kernel
theorem dX7_save_18 : decode cX7_save 18 = .ok (.istore_n 2, 1) := by decide +kernel
theorem dX7_save_19 : decode cX7_save 19 = .ok (.iload_n 2, 1) := by decide +kernel
theorem dX7_save_20 : decode cX7_save 20 = .ok (.sipush 186, 3) := by decide +kernel
theorem dX7_save_23 : decode cX7_save 23 = .ok (.if_icmp .ge 27, 3) := by decide +kernel
theorem dX7_save_26 : decode cX7_save 26 = .ok (.aload_n 0, 1) := by decide +kernel
theorem dX7_save_27 : decode cX7_save 27 = .ok (.getfield 19, 3) := by decide +kernel
theorem dX7_save_30 : decode cX7_save 30 = .ok (.sipush 186, 3) := by decide +kernel
theorem dX7_save_33 : decode cX7_save 33 = .ok (.iload_n 1, 1) := by decide +kernel
theorem dX7_save_34 : decode cX7_save 34 = .ok (.imul, 1) := by decide +kernel
theorem dX7_save_35 : decode cX7_save 35 = .ok (.iload_n 2, 1) := by decide +kernel
theorem dX7_save_36 : decode cX7_save 36 = .ok (.iadd, 1) := by decide +kernel
theorem dX7_save_37 : decode cX7_save 37 = .ok (.aload_n 0, 1) := by decide +kernel
theorem dX7_save_38 : decode cX7_save 38 = .ok (.getfield 7, 3) := by decide +kernel
theorem dX7_save_41 : decode cX7_save 41 = .ok (.iload_n 2, 1) := by decide +kernel
theorem dX7_save_42 : decode cX7_save 42 = .ok (.iaload, 1) := by decide +kernel
theorem dX7_save_43 : decode cX7_save 43 = .ok (.iastore, 1) := by decide +kernel
theorem dX7_save_44 : decode cX7_save 44 = .ok (.iinc 2 1, 3) := by decide +kernel
theorem dX7_save_47 : decode cX7_save 47 = .ok (.goto (-28), 3) := by decide +kernel
theorem dX7_save_50 : decode cX7_save 50 = .ok (.aload_n 0, 1) := by decide +kernel
theorem dX7_save_51 : decode cX7_save 51 = .ok (.getfield 22, 3) := by decide +kernel
theorem dX7_save_54 : decode cX7_save 54 = .ok (.iload_n 1, 1) := by decide +kernel
theorem dX7_save_55 : decode cX7_save 55 = .ok (.iconst 1, 1) := by decide +kernel
theorem dX7_save_56 : decode cX7_save 56 = .ok (.bastore, 1) := by decide +kernel
theorem dX7_save_57 : decode cX7_save 57 = .ok (.aload_n 0, 1) := by decide +kernel
theorem dX7_save_58 : decode cX7_save 58 = .ok (.getfield 7, 3) := by decide +kernel
theorem dX7_save_61 : decode cX7_save 61 = .ok (.iconst 4, 1) := by decide +kernel
theorem dX7_save_62 : decode cX7_save 62 = .ok (.iaload, 1) := by decide +kernel
theorem dX7_save_63 : decode cX7_save 63 = .ok (.ireturn, 1) := by decide +kernel
set_option maxRecDepth 20000 in
theorem ggX7_save_X7_in : GoodIn wsX7_save wsX7_in := goodIn_r _ [8] (by decide +kernel) (by decide +kernel)
set_option maxRecDepth 20000 in
theorem gX7_save_X7_in : GoodIn wsX7_save (va_wsS RX7 48 yX7_in wsX7_in) := goodIn_app (goodIn_of _ (by decide +kernel)) ggX7_save_X7_in
theorem kX7_save_4 : Cond.fieldLink RX7 22 "BookedDetoursModel" "hasSlot" "[Z" ∈ wsX7_save := List.mem_of_getElem? (i := 4) (by decide +kernel)
theorem kX7_save_3 : Cond.fieldLink RX7 7 "BookedDetoursModel" "s" "[I" ∈ wsX7_save := List.mem_of_getElem? (i := 3) (by decide +kernel)
theorem kX7_save_2 : Cond.fieldLink RX7 19 "BookedDetoursModel" "slots" "[I" ∈ wsX7_save := List.mem_of_getElem? (i := 2) (by decide +kernel)
theorem kX7_save_1 : Cond.fieldLink RX7 44 "BookedDetoursModel" "thrown" "I" ∈ wsX7_save := List.mem_of_getElem? (i := 1) (by decide +kernel)
theorem hX7_save_X7 : ∀ w ∈ u_ws RX7 TX7 26, w ∈ wsX7_save := fun _ h => List.mem_cons_of_mem _ (List.mem_append_right _ h)
set_option maxHeartbeats 4000000 in
set_option maxRecDepth 100000 in
theorem w_X7_save_19 {Z : yZ} (g : yG) (M : Nat → Nat) (sl : Int32) (C : yC Z g cX7_save 3 wsX7_save RX7) {post : Int32 → List va_W → Prop} (HR : yRi Z ({ frames := 1, cells := 0, slots := 0, locals := 22 } : Room) cX7_save .int post 0 0) {X19 : MV → Int32 → Prop} (hX19 : ∀ (m : MV) (x2 : Int32), X19 m x2 → yJ Z ({ frames := 1, cells := 0, slots := 0, locals := 22 } : Room) 0 0 ([modW g M m] : List va_W) 19 [(0, .ref (M 0)), (1, .int sl), (2, .int x2)] []) {K : Int32 → MV → Prop} (hK : ∀ (r0 : Int32) (m : MV), K r0 m → post r0 ([modW g M m] : List va_W)) (m : MV) (x2 : Int32) (h : wp_X7_save_19 sl X19 K m x2) : yJ Z ({ frames := 1, cells := 0, slots := 0, locals := 22 } : Room) 0 0 ([modW g M m] : List va_W) 19 [(0, .ref (M 0)), (1, .int sl), (2, .int x2)] [] := by
  unfold wp_X7_save_19 at h
  refine y_iload_n C dX7_save_19 2 rfl rfl ?_
  refine y_sipush (v := 186) C dX7_save_20 (by decide) ?_
  refine y_icmp_ge (tgt := 50) C dX7_save_23 rfl h (fun c23 h => ?_) (fun c23 h => ?_)
  · refine y_aload_n C dX7_save_50 0 rfl rfl ?_
    refine y_get (Cn := RX7) (T := TX7) (N := 26) (v := .ref (M 5)) C dX7_save_51 hX7_save_X7 0 (sh_5000 g M m) rfl 6 (Nat.le_of_ble_eq_true rfl) kX7_save_4 rfl ?_
    refine y_iload_n C dX7_save_54 1 rfl rfl ?_
    refine y_iconst (v := 1) C dX7_save_55 (by decide) ?_
    obtain ⟨hb1, h⟩ := h
    obtain ⟨m2, em2⟩ : ∃ z : MV, z = mA m 6 sl.toNatClampNeg (vp_nar .boolean (1 : Int32)) := ⟨_, rfl⟩
    have h := y_letP h em2
    refine y_zast (N := 2) (f := (m.2 6)) (L1 := ([modW g M m2] : List va_W)) C dX7_save_56 5 (sh_5038 g M m) hb1 (sh_5039 g M m sl.toNatClampNeg (1 : Int32) m2 em2) ?_
    refine y_aload_n C dX7_save_57 0 rfl rfl ?_
    refine y_get (Cn := RX7) (T := TX7) (N := 26) (v := .ref (M 1)) C dX7_save_58 hX7_save_X7 0 (sh_5000 g M m2) rfl 1 (Nat.le_of_ble_eq_true rfl) kX7_save_3 rfl ?_
    refine y_iconst (v := 4) C dX7_save_61 (by decide) ?_
    obtain ⟨hb3, h⟩ := h
    refine y_iald (N := 186) (f := (m2.2 1)) C dX7_save_62 1 (sh_5001 g M m2) hb3 ?_
    exact HR 63 dX7_save_63 ((m2.2 1) (4 : Int32).toNatClampNeg) _ _ _ _ (rfl) (Nat.le_of_ble_eq_true rfl) (Nat.le_of_ble_eq_true rfl) (hK _ _  h)
  · refine y_aload_n C dX7_save_26 0 rfl rfl ?_
    refine y_get (Cn := RX7) (T := TX7) (N := 26) (v := .ref (M 4)) C dX7_save_27 hX7_save_X7 0 (sh_5000 g M m) rfl 5 (Nat.le_of_ble_eq_true rfl) kX7_save_2 rfl ?_
    refine y_sipush (v := 186) C dX7_save_30 (by decide) ?_
    refine y_iload_n C dX7_save_33 1 rfl rfl ?_
    refine y_imul C dX7_save_34 ?_
    refine y_iload_n C dX7_save_35 2 rfl rfl ?_
    refine y_iadd C dX7_save_36 ?_
    refine y_aload_n C dX7_save_37 0 rfl rfl ?_
    refine y_get (Cn := RX7) (T := TX7) (N := 26) (v := .ref (M 1)) C dX7_save_38 hX7_save_X7 0 (sh_5000 g M m) rfl 1 (Nat.le_of_ble_eq_true rfl) kX7_save_3 rfl ?_
    refine y_iload_n C dX7_save_41 2 rfl rfl ?_
    obtain ⟨hb4, h⟩ := h
    refine y_iald (N := 186) (f := (m.2 1)) C dX7_save_42 1 (sh_5001 g M m) hb4 ?_
    obtain ⟨hb5, h⟩ := h
    obtain ⟨m6, em6⟩ : ∃ z : MV, z = mA m 5 (((186 : Int32) * sl) + x2).toNatClampNeg ((m.2 1) x2.toNatClampNeg) := ⟨_, rfl⟩
    have h := y_letP h em6
    refine y_iast (N := 372) (f := (m.2 5)) (L1 := ([modW g M m6] : List va_W)) C dX7_save_43 4 (sh_5040 g M m) hb5 (sh_5041 g M m (((186 : Int32) * sl) + x2).toNatClampNeg ((m.2 1) x2.toNatClampNeg) m6 em6) ?_
    refine y_iinc (v := (x2 + (1 : Int32))) (lv' := [(2, .int (x2 + (1 : Int32))), (0, .ref (M 0)), (1, .int sl)]) C dX7_save_44 2 rfl rfl (Nat.le_of_ble_eq_true rfl) rfl ?_
    refine y_goto (tgt := 19) C dX7_save_47 rfl ?_
    refine y_sub (lv' := [(0, .ref (M 0)), (1, .int sl), (2, .int (x2 + (1 : Int32)))]) [1, 2, 0] rfl ?_
    exact hX19 _ _ h
set_option maxHeartbeats 4000000 in
set_option maxRecDepth 100000 in
theorem l_X7_save {Z : yZ} (g : yG) (M : Nat → Nat) (sl : Int32) (C : yC Z g cX7_save 3 wsX7_save RX7) {post : Int32 → List va_W → Prop} (HR : yRi Z ({ frames := 1, cells := 0, slots := 0, locals := 22 } : Room) cX7_save .int post 0 0) {K : Int32 → MV → Prop} (hK : ∀ (r0 : Int32) (m : MV), K r0 m → post r0 ([modW g M m] : List va_W)) {I19 : Nat → MV → Int32 → Prop} (o19 : ∀ (w0 : Nat) (m : MV) (x2 : Int32), I19 w0 m x2 → wp_X7_save_19 sl (fun (m9 : MV) (x29 : Int32) => ∃ w9, w9 < w0 ∧ I19 w9 m9 x29) K m x2) : ∀ w0 : Nat, (∀ (m : MV) (x2 : Int32), I19 w0 m x2 → yJ Z ({ frames := 1, cells := 0, slots := 0, locals := 22 } : Room) 0 0 ([modW g M m] : List va_W) 19 [(0, .ref (M 0)), (1, .int sl), (2, .int x2)] []) := by
  intro w0
  induction w0 using Nat.strongRecOn with
  | _ w0 ih =>
    exact fun m x2 hi => w_X7_save_19 g M sl C HR (fun m x2 hq => by obtain ⟨w9, hlt, hi⟩ := hq; exact (ih w9 hlt) m x2 hi) hK m x2 (o19 w0 m x2 hi)
set_option maxHeartbeats 4000000 in
set_option maxRecDepth 100000 in
theorem t_X7_save (g : yG) (M : Nat → Nat) (m : MV) (sl : Int32) {post : Int32 → List va_W → Prop} {K : Int32 → MV → Prop} (hK : ∀ (r0 : Int32) (m : MV), K r0 m → post r0 ([modW g M m] : List va_W)) (hPO : PO_X7_save sl K m ) : yM g yX7_save wsX7_save ({ frames := 1, cells := 0, slots := 0, locals := 22 } : Room) [.ref (M 0), .int sl] ([modW g M m] : List va_W) post 0 0 := by
  refine y_entryI (cc := cX7_save) (maxL := 3) (by decide +kernel) rfl (Nat.le_of_ble_eq_true rfl) (fun Z C HR => ?_)
  have C : yC Z g cX7_save 3 wsX7_save RX7 := C
  obtain ⟨I19, o19, h⟩ := hPO
  have hX19 : ∀ (m : MV) (x2 : Int32), (fun (m9 : MV) (x29 : Int32) => ∃ w9, I19 w9 m9 x29) m x2 → yJ Z ({ frames := 1, cells := 0, slots := 0, locals := 22 } : Room) 0 0 ([modW g M m] : List va_W) 19 [(0, .ref (M 0)), (1, .int sl), (2, .int x2)] [] := by
    intro m x2 hq
    obtain ⟨w9, hi⟩ := hq
    exact (l_X7_save g M sl C HR hK o19 w9) m x2 hi
  unfold wp_X7_save_0 at h
  show yJ Z _ 0 0 _ 0 [(0, .ref (M 0)), (1, .int sl)] []
  refine y_aload_n C dX7_save_0 0 rfl rfl ?_
  refine y_iconst (v := 0) C dX7_save_1 (by decide) ?_
  obtain ⟨m1, em1⟩ : ∃ z : MV, z = mI m 0 (0 : Int32) := ⟨_, rfl⟩
  have h := y_letP h em1
  refine y_put (Cn := RX7) (T := TX7) (N := 26) (v := .int (0 : Int32)) (ty0 := tyX7) (L1 := ([modW g M m1] : List va_W)) C dX7_save_2 hX7_save_X7 0 (sh_5000 g M m) rfl 0 (Nat.le_of_ble_eq_true rfl) kX7_save_1 tyX7_ok nmX7 rfl rfl rfl (Nat.le_of_ble_eq_true rfl) (sh_5029 g M m (0 : Int32) m1 em1) ?_
  refine y_iload_n C dX7_save_5 1 rfl rfl ?_
  refine y_iconst (v := 0) C dX7_save_6 (by decide) ?_
  refine y_iconst (v := 1) C dX7_save_7 (by decide) ?_
  refine y_callS (As := [.int sl, .int (0 : Int32), .int (1 : Int32)]) (rest := []) C dX7_save_8 (c_X7_in g sl (0 : Int32) (1 : Int32)) rfl rfl rfl rfl ⟨Nat.le_of_ble_eq_true rfl, Nat.le_of_ble_eq_true rfl⟩ gX7_save_X7_in (nA := 3) (by decide +kernel) rfl (Nat.le_of_ble_eq_true rfl) ⟨Nat.le_of_ble_eq_true rfl, Nat.le_of_ble_eq_true rfl⟩ [] [0] (nB := 1) rfl (by decide +kernel) (sh_5002 g M m1) (fun r2 w9 hw => ?_)
  obtain ⟨er2, rfl⟩ := hw
  have h := y_letP h er2
  refine ⟨([modW g M m1] : List va_W), ⟨(sh_5002 g M m1), rfl, rfl⟩, ?_⟩
  refine y_if_ne (tgt := 17) C dX7_save_11 rfl h (fun c11 h => ?_) (fun c11 h => ?_)
  · refine y_iconst (v := 0) C dX7_save_17 (by decide) ?_
    refine y_istore_n (lv' := [(2, .int (0 : Int32)), (0, .ref (M 0)), (1, .int sl)]) C dX7_save_18 rfl (Nat.le_of_ble_eq_true rfl) rfl ?_
    refine y_sub (lv' := [(0, .ref (M 0)), (1, .int sl), (2, .int (0 : Int32))]) [1, 2, 0] rfl ?_
    exact hX19 _ _ h
  · refine y_bipush (v := -2) C dX7_save_14 (by decide) ?_
    exact HR 16 dX7_save_16 (-2 : Int32) _ _ _ _ (rfl) (Nat.le_of_ble_eq_true rfl) (Nat.le_of_ble_eq_true rfl) (hK _ _  h)
theorem u_X7_save (g : yG) (M : Nat → Nat) (m : MV) (sl : Int32) {K : Int32 → MV → Prop} (hPO : PO_X7_save sl K m ) : yM g yX7_save wsX7_save ({ frames := 1, cells := 0, slots := 0, locals := 22 } : Room) [.ref (M 0), .int sl] ([modW g M m] : List va_W) (fun r w => ∃ m' : MV, K r m' ∧ w = ([modW g M m'] : List va_W)) 0 0 :=
  t_X7_save g M m sl (fun r0 m hk => ⟨m, hk, rfl⟩) hPO
