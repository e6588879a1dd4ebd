theorem dX7_records_0 : decode cX7_records 0 = .ok (.aload_n 0, 1) := by decide +kernel
theorem dX7_records_1 : decode cX7_records 1 = .ok (.getfield 52, 3) := by decide +kernel
theorem dX7_records_4 : decode cX7_records 4 = .ok (.bipush 6, 2) := by decide +kernel
theorem dX7_records_6 : decode cX7_records 6 = .ok (.if_icmp .ne 44, 3) := by decide +kernel
theorem dX7_records_9 : decode cX7_records 9 = .ok (.iconst 0, 1) := by decide +kernel
theorem dX7_records_10 : decode cX7_records 10 = .ok (.istore_n 1, 1) := by decide +kernel
theorem dX7_records_11 : decode cX7_records 11 = .ok (.iload_n 1, 1) := by decide +kernel
theorem dX7_records_12 : decode cX7_records 12 = .ok (.sipush 930, 3) := by decide +kernel
theorem dX7_records_15 : decode cX7_records 15 = .ok (.if_icmp .ge 25, 3) := by decide +kernel
theorem dX7_records_18 : decode cX7_records 18 = .ok (.aload_n 0, 1) := by decide +kernel
theorem dX7_records_19 : decode cX7_records 19 = .ok (.getfield 16, 3) := by decide +kernel
theorem dX7_records_22 : decode cX7_records 22 = .ok (.iload_n 1, 1) := by decide +kernel
theorem dX7_records_23 : decode cX7_records 23 = .ok (.aload_n 0, 1) := by decide +kernel
theorem dX7_records_24 : decode cX7_records 24 = .ok (.getfield 16, 3) := by decide +kernel
theorem dX7_records_27 : decode cX7_records 27 = .ok (.iload_n 1, 1) := by decide +kernel
theorem dX7_records_28 : decode cX7_records 28 = .ok (.sipush 186, 3) := by decide +kernel
theorem dX7_records_31 : decode cX7_records 31 = .ok (.iadd, 1) := by decide +kernel
theorem dX7_records_32 : decode cX7_records 32 = .ok (.iaload, 1) := by decide +kernel
theorem dX7_records_33 : decode cX7_records 33 = .ok (.iastore, 1) := by decide +kernel
theorem dX7_records_34 : decode cX7_records 34 = .ok (.iinc 1 1, 3) := by decide +kernel
theorem dX7_records_37 : decode cX7_records 37 = .ok (.goto (-26), 3) := by decide +kernel
theorem dX7_records_40 : decode cX7_records 40 = .ok (.aload_n 0, 1) := by decide +kernel
theorem dX7_records_41 : decode cX7_records 41 = .ok (.dup, 1) := by decide +kernel
theorem dX7_records_42 : decode cX7_records 42 = .ok (.getfield 52, 3) := by decide +kernel
theorem dX7_records_45 : decode cX7_records 45 = .ok (.iconst 1, 1) := by decide +kernel
theorem dX7_records_46 : decode cX7_records 46 = .ok (.isub, 1) := by decide +kernel
theorem dX7_records_47 : decode cX7_records 47 = .ok (.putfield 52, 3) := by decide +kernel
theorem dX7_records_50 : decode cX7_records 50 = .ok (.iconst 0, 1) := by decide +kernel
theorem dX7_records_51 : decode cX7_records 51 = .ok (.istore_n 1, 1) := by decide +kernel
theorem dX7_records_52 : decode cX7_records 52 = .ok (.iload_n 1, 1) := by decide +kernel
theorem dX7_records_53 : decode cX7_records 53 = .ok (.sipush 186, 3) := by decide +kernel
theorem dX7_records_56 : decode cX7_records 56 = .ok (.if_icmp .ge 30, 3) := by decide +kernel
theorem dX7_records_59 : decode cX7_records 59 = .ok (.aload_n 0, 1) := by decide +kernel
theorem dX7_records_60 : decode cX7_records 60 = .ok (.getfield 16, 3) := by decide +kernel
theorem dX7_records_63 : decode cX7_records 63 = .ok (.sipush 186, 3) := by decide +kernel
theorem dX7_records_66 : decode cX7_records 66 = .ok (.aload_n 0, 1) := by decide +kernel
theorem dX7_records_67 : decode cX7_records 67 = .ok (.getfield 52, 3) := by decide +kernel
theorem dX7_records_70 : decode cX7_records 70 = .ok (.imul, 1) := by decide +kernel
theorem dX7_records_71 : decode cX7_records 71 = .ok (.iload_n 1, 1) := by decide +kernel
theorem dX7_records_72 : decode cX7_records 72 = .ok (.iadd, 1) := by decide +kernel
theorem dX7_records_73 : decode cX7_records 73 = .ok (.aload_n 0, 1) := by decide +kernel
theorem dX7_records_74 : decode cX7_records 74 = .ok (.getfield 7, 3) := by decide +kernel
theorem dX7_records_77 : decode cX7_records 77 = .ok (.iload_n 1, 1) := by decide +kernel
theorem dX7_records_78 : decode cX7_records 78 = .ok (.iaload, 1) := by decide +kernel
theorem dX7_records_79 : decode cX7_records 79 = .ok (.iastore, 1) := by decide +kernel
theorem dX7_records_80 : decode cX7_records 80 = .ok (.iinc 1 1, 3) := by decide +kernel
theorem dX7_records_83 : decode cX7_records 83 = .ok (.goto (-31), 3) := by decide +kernel
theorem dX7_records_86 : decode cX7_records 86 = .ok (.aload_n 0, 1) := by decide +kernel
theorem dX7_records_87 : decode cX7_records 87 = .ok (.dup, 1) := by decide +kernel
theorem dX7_records_88 : decode cX7_records 88 = .ok (.getfield 52, 3) := by decide +kernel
theorem dX7_records_91 : decode cX7_records 91 = .ok (.iconst 1, 1) := by decide +kernel
theorem dX7_records_92 : decode cX7_records 92 = .ok (.iadd, 1) := by decide +kernel
theorem dX7_records_93 : decode cX7_records 93 = .ok (.putfield 52, 3) := by decide +kernel
theorem dX7_records_96 : decode cX7_records 96 = .ok (.return_, 1) := by decide +kernel
theorem kX7_records_1 : Cond.fieldLink RX7 52 "BookedDetoursModel" "undoMany" "I" ∈ wsX7_records := List.mem_of_getElem? (i := 1) (by decide +kernel)
theorem kX7_records_2 : Cond.fieldLink RX7 16 "BookedDetoursModel" "undos" "[I" ∈ wsX7_records := List.mem_of_getElem? (i := 2) (by decide +kernel)
theorem kX7_records_3 : Cond.fieldLink RX7 7 "BookedDetoursModel" "s" "[I" ∈ wsX7_records := List.mem_of_getElem? (i := 3) (by decide +kernel)
theorem hX7_records_X7 : ∀ w ∈ u_ws RX7 TX7 26, w ∈ wsX7_records := fun _ h => List.mem_cons_of_mem _ (List.mem_append_right _ h)
set_option maxHeartbeats 4000000 in
set_option maxRecDepth 100000 in
theorem w_X7_records_50 {Z : yZ} (g : yG) (M : Nat → Nat) (C : yC Z g cX7_records 2 wsX7_records RX7) {post : List va_W → Prop} (HR : yRv Z ({ frames := 0, cells := 0, slots := 0, locals := 0 } : Room) cX7_records post 0 0) {X11 : MV → Int32 → Prop} {X52 : MV → Int32 → Prop} (hX11 : ∀ (m : MV) (x1 : Int32), X11 m x1 → yJ Z ({ frames := 0, cells := 0, slots := 0, locals := 0 } : Room) 0 0 ([modW g M m] : List va_W) 11 [(0, .ref (M 0)), (1, .int x1)] []) (hX52 : ∀ (m : MV) (x1 : Int32), X52 m x1 → yJ Z ({ frames := 0, cells := 0, slots := 0, locals := 0 } : Room) 0 0 ([modW g M m] : List va_W) 52 [(0, .ref (M 0)), (1, .int x1)] []) {K : MV → Prop} (hK : ∀ (m : MV), K m → post ([modW g M m] : List va_W)) (m : MV) (h : wp_X7_records_50  X11 X52 K m) : yJ Z ({ frames := 0, cells := 0, slots := 0, locals := 0 } : Room) 0 0 ([modW g M m] : List va_W) 50 [(0, .ref (M 0))] [] := by
  unfold wp_X7_records_50 at h
  refine y_iconst (v := 0) C dX7_records_50 (by decide) ?_
  refine y_istore_n (lv' := [(1, .int (0 : Int32)), (0, .ref (M 0))]) C dX7_records_51 rfl (Nat.le_of_ble_eq_true rfl) rfl ?_
  refine y_sub (lv' := [(0, .ref (M 0)), (1, .int (0 : Int32))]) [1, 0] rfl ?_
  exact hX52 _ _ h
set_option maxHeartbeats 4000000 in
set_option maxRecDepth 100000 in
theorem w_X7_records_11 {Z : yZ} (g : yG) (M : Nat → Nat) (C : yC Z g cX7_records 2 wsX7_records RX7) {post : List va_W → Prop} (HR : yRv Z ({ frames := 0, cells := 0, slots := 0, locals := 0 } : Room) cX7_records post 0 0) {X11 : MV → Int32 → Prop} {X52 : MV → Int32 → Prop} (hX11 : ∀ (m : MV) (x1 : Int32), X11 m x1 → yJ Z ({ frames := 0, cells := 0, slots := 0, locals := 0 } : Room) 0 0 ([modW g M m] : List va_W) 11 [(0, .ref (M 0)), (1, .int x1)] []) (hX52 : ∀ (m : MV) (x1 : Int32), X52 m x1 → yJ Z ({ frames := 0, cells := 0, slots := 0, locals := 0 } : Room) 0 0 ([modW g M m] : List va_W) 52 [(0, .ref (M 0)), (1, .int x1)] []) {K : MV → Prop} (hK : ∀ (m : MV), K m → post ([modW g M m] : List va_W)) (m : MV) (x1 : Int32) (h : wp_X7_records_11  X11 X52 K m x1) : yJ Z ({ frames := 0, cells := 0, slots := 0, locals := 0 } : Room) 0 0 ([modW g M m] : List va_W) 11 [(0, .ref (M 0)), (1, .int x1)] [] := by
  unfold wp_X7_records_11 at h
  refine y_iload_n C dX7_records_11 1 rfl rfl ?_
  refine y_sipush (v := 930) C dX7_records_12 (by decide) ?_
  refine y_icmp_ge (tgt := 40) C dX7_records_15 rfl h (fun c15 h => ?_) (fun c15 h => ?_)
  · refine y_aload_n C dX7_records_40 0 rfl rfl ?_
    refine y_dup C dX7_records_41 rfl ?_
    refine y_get (Cn := RX7) (T := TX7) (N := 26) (v := .int (m.1 4)) C dX7_records_42 hX7_records_X7 0 (sh_5000 g M m) rfl 4 (Nat.le_of_ble_eq_true rfl) kX7_records_1 rfl ?_
    refine y_iconst (v := 1) C dX7_records_45 (by decide) ?_
    refine y_isub C dX7_records_46 ?_
    obtain ⟨m1, em1⟩ : ∃ z : MV, z = mI m 4 ((m.1 4) - (1 : Int32)) := ⟨_, rfl⟩
    have h := y_letP h em1
    refine y_put (Cn := RX7) (T := TX7) (N := 26) (v := .int ((m.1 4) - (1 : Int32))) (ty0 := tyX7) (L1 := ([modW g M m1] : List va_W)) C dX7_records_47 hX7_records_X7 0 (sh_5000 g M m) rfl 4 (Nat.le_of_ble_eq_true rfl) kX7_records_1 tyX7_ok nmX7 rfl rfl rfl (Nat.le_of_ble_eq_true rfl) (sh_5004 g M m ((m.1 4) - (1 : Int32)) m1 em1) ?_
    refine y_sub (lv' := [(0, .ref (M 0))]) [0] rfl ?_
    exact w_X7_records_50 g M C HR hX11 hX52 hK _ h
  · refine y_aload_n C dX7_records_18 0 rfl rfl ?_
    refine y_get (Cn := RX7) (T := TX7) (N := 26) (v := .ref (M 3)) C dX7_records_19 hX7_records_X7 0 (sh_5000 g M m) rfl 3 (Nat.le_of_ble_eq_true rfl) kX7_records_2 rfl ?_
    refine y_iload_n C dX7_records_22 1 rfl rfl ?_
    refine y_aload_n C dX7_records_23 0 rfl rfl ?_
    refine y_get (Cn := RX7) (T := TX7) (N := 26) (v := .ref (M 3)) C dX7_records_24 hX7_records_X7 0 (sh_5000 g M m) rfl 3 (Nat.le_of_ble_eq_true rfl) kX7_records_2 rfl ?_
    refine y_iload_n C dX7_records_27 1 rfl rfl ?_
    refine y_sipush (v := 186) C dX7_records_28 (by decide) ?_
    refine y_iadd C dX7_records_31 ?_
    obtain ⟨hb2, h⟩ := h
    refine y_iald (N := 1116) (f := (m.2 3)) C dX7_records_32 3 (sh_5005 g M m) hb2 ?_
    obtain ⟨hb3, h⟩ := h
    obtain ⟨m4, em4⟩ : ∃ z : MV, z = mA m 3 x1.toNatClampNeg ((m.2 3) (x1 + (186 : Int32)).toNatClampNeg) := ⟨_, rfl⟩
    have h := y_letP h em4
    refine y_iast (N := 1116) (f := (m.2 3)) (L1 := ([modW g M m4] : List va_W)) C dX7_records_33 3 (sh_5005 g M m) hb3 (sh_5006 g M m x1.toNatClampNeg ((m.2 3) (x1 + (186 : Int32)).toNatClampNeg) m4 em4) ?_
    refine y_iinc (v := (x1 + (1 : Int32))) (lv' := [(1, .int (x1 + (1 : Int32))), (0, .ref (M 0))]) C dX7_records_34 1 rfl rfl (Nat.le_of_ble_eq_true rfl) rfl ?_
    refine y_goto (tgt := 11) C dX7_records_37 rfl ?_
    refine y_sub (lv' := [(0, .ref (M 0)), (1, .int (x1 + (1 : Int32)))]) [1, 0] rfl ?_
    exact hX11 _ _ h
set_option maxHeartbeats 4000000 in
set_option maxRecDepth 100000 in
theorem w_X7_records_52 {Z : yZ} (g : yG) (M : Nat → Nat) (C : yC Z g cX7_records 2 wsX7_records RX7) {post : List va_W → Prop} (HR : yRv Z ({ frames := 0, cells := 0, slots := 0, locals := 0 } : Room) cX7_records post 0 0) {X11 : MV → Int32 → Prop} {X52 : MV → Int32 → Prop} (hX11 : ∀ (m : MV) (x1 : Int32), X11 m x1 → yJ Z ({ frames := 0, cells := 0, slots := 0, locals := 0 } : Room) 0 0 ([modW g M m] : List va_W) 11 [(0, .ref (M 0)), (1, .int x1)] []) (hX52 : ∀ (m : MV) (x1 : Int32), X52 m x1 → yJ Z ({ frames := 0, cells := 0, slots := 0, locals := 0 } : Room) 0 0 ([modW g M m] : List va_W) 52 [(0, .ref (M 0)), (1, .int x1)] []) {K : MV → Prop} (hK : ∀ (m : MV), K m → post ([modW g M m] : List va_W)) (m : MV) (x1 : Int32) (h : wp_X7_records_52  X11 X52 K m x1) : yJ Z ({ frames := 0, cells := 0, slots := 0, locals := 0 } : Room) 0 0 ([modW g M m] : List va_W) 52 [(0, .ref (M 0)), (1, .int x1)] [] := by
  unfold wp_X7_records_52 at h
  refine y_iload_n C dX7_records_52 1 rfl rfl ?_
  refine y_sipush (v := 186) C dX7_records_53 (by decide) ?_
  refine y_icmp_ge (tgt := 86) C dX7_records_56 rfl h (fun c56 h => ?_) (fun c56 h => ?_)
  · refine y_aload_n C dX7_records_86 0 rfl rfl ?_
    refine y_dup C dX7_records_87 rfl ?_
    refine y_get (Cn := RX7) (T := TX7) (N := 26) (v := .int (m.1 4)) C dX7_records_88 hX7_records_X7 0 (sh_5000 g M m) rfl 4 (Nat.le_of_ble_eq_true rfl) kX7_records_1 rfl ?_
    refine y_iconst (v := 1) C dX7_records_91 (by decide) ?_
    refine y_iadd C dX7_records_92 ?_
    obtain ⟨m1, em1⟩ : ∃ z : MV, z = mI m 4 ((m.1 4) + (1 : Int32)) := ⟨_, rfl⟩
    have h := y_letP h em1
    refine y_put (Cn := RX7) (T := TX7) (N := 26) (v := .int ((m.1 4) + (1 : Int32))) (ty0 := tyX7) (L1 := ([modW g M m1] : List va_W)) C dX7_records_93 hX7_records_X7 0 (sh_5000 g M m) rfl 4 (Nat.le_of_ble_eq_true rfl) kX7_records_1 tyX7_ok nmX7 rfl rfl rfl (Nat.le_of_ble_eq_true rfl) (sh_5004 g M m ((m.1 4) + (1 : Int32)) m1 em1) ?_
    exact HR 96 dX7_records_96 _ _ _ _ (Nat.le_of_ble_eq_true rfl) (Nat.le_of_ble_eq_true rfl) (hK _  h)
  · refine y_aload_n C dX7_records_59 0 rfl rfl ?_
    refine y_get (Cn := RX7) (T := TX7) (N := 26) (v := .ref (M 3)) C dX7_records_60 hX7_records_X7 0 (sh_5000 g M m) rfl 3 (Nat.le_of_ble_eq_true rfl) kX7_records_2 rfl ?_
    refine y_sipush (v := 186) C dX7_records_63 (by decide) ?_
    refine y_aload_n C dX7_records_66 0 rfl rfl ?_
    refine y_get (Cn := RX7) (T := TX7) (N := 26) (v := .int (m.1 4)) C dX7_records_67 hX7_records_X7 0 (sh_5000 g M m) rfl 4 (Nat.le_of_ble_eq_true rfl) kX7_records_1 rfl ?_
    refine y_imul C dX7_records_70 ?_
    refine y_iload_n C dX7_records_71 1 rfl rfl ?_
    refine y_iadd C dX7_records_72 ?_
    refine y_aload_n C dX7_records_73 0 rfl rfl ?_
    refine y_get (Cn := RX7) (T := TX7) (N := 26) (v := .ref (M 1)) C dX7_records_74 hX7_records_X7 0 (sh_5000 g M m) rfl 1 (Nat.le_of_ble_eq_true rfl) kX7_records_3 rfl ?_
    refine y_iload_n C dX7_records_77 1 rfl rfl ?_
    obtain ⟨hb2, h⟩ := h
    refine y_iald (N := 186) (f := (m.2 1)) C dX7_records_78 1 (sh_5001 g M m) hb2 ?_
    obtain ⟨hb3, h⟩ := h
    obtain ⟨m4, em4⟩ : ∃ z : MV, z = mA m 3 (((186 : Int32) * (m.1 4)) + x1).toNatClampNeg ((m.2 1) x1.toNatClampNeg) := ⟨_, rfl⟩
    have h := y_letP h em4
    refine y_iast (N := 1116) (f := (m.2 3)) (L1 := ([modW g M m4] : List va_W)) C dX7_records_79 3 (sh_5005 g M m) hb3 (sh_5006 g M m (((186 : Int32) * (m.1 4)) + x1).toNatClampNeg ((m.2 1) x1.toNatClampNeg) m4 em4) ?_
    refine y_iinc (v := (x1 + (1 : Int32))) (lv' := [(1, .int (x1 + (1 : Int32))), (0, .ref (M 0))]) C dX7_records_80 1 rfl rfl (Nat.le_of_ble_eq_true rfl) rfl ?_
    refine y_goto (tgt := 52) C dX7_records_83 rfl ?_
    refine y_sub (lv' := [(0, .ref (M 0)), (1, .int (x1 + (1 : Int32)))]) [1, 0] rfl ?_
    exact hX52 _ _ h
set_option maxHeartbeats 4000000 in
set_option maxRecDepth 100000 in
theorem l_X7_records {Z : yZ} (g : yG) (M : Nat → Nat) (C : yC Z g cX7_records 2 wsX7_records RX7) {post : List va_W → Prop} (HR : yRv Z ({ frames := 0, cells := 0, slots := 0, locals := 0 } : Room) cX7_records post 0 0) {K : MV → Prop} (hK : ∀ (m : MV), K m → post ([modW g M m] : List va_W)) {I11 : Nat → MV → Int32 → Prop} {I52 : Nat → MV → Int32 → Prop} (o11 : ∀ (w0 : Nat) (m : MV) (x1 : Int32), I11 w0 m x1 → wp_X7_records_11  (fun (m9 : MV) (x19 : Int32) => ∃ w9, w9 < w0 ∧ I11 w9 m9 x19) (fun (m9 : MV) (x19 : Int32) => ∃ w9, w9 < w0 ∧ I52 w9 m9 x19) K m x1) (o52 : ∀ (w0 : Nat) (m : MV) (x1 : Int32), I52 w0 m x1 → wp_X7_records_52  (fun (m9 : MV) (x19 : Int32) => ∃ w9, w9 < w0 ∧ I11 w9 m9 x19) (fun (m9 : MV) (x19 : Int32) => ∃ w9, w9 < w0 ∧ I52 w9 m9 x19) K m x1) : ∀ w0 : Nat, (∀ (m : MV) (x1 : Int32), I11 w0 m x1 → yJ Z ({ frames := 0, cells := 0, slots := 0, locals := 0 } : Room) 0 0 ([modW g M m] : List va_W) 11 [(0, .ref (M 0)), (1, .int x1)] []) ∧ (∀ (m : MV) (x1 : Int32), I52 w0 m x1 → yJ Z ({ frames := 0, cells := 0, slots := 0, locals := 0 } : Room) 0 0 ([modW g M m] : List va_W) 52 [(0, .ref (M 0)), (1, .int x1)] []) := by
  intro w0
  induction w0 using Nat.strongRecOn with
  | _ w0 ih =>
    exact ⟨fun m x1 hi => w_X7_records_11 g M C HR (fun m x1 hq => by obtain ⟨w9, hlt, hi⟩ := hq; exact (ih w9 hlt).1 m x1 hi) (fun m x1 hq => by obtain ⟨w9, hlt, hi⟩ := hq; exact (ih w9 hlt).2 m x1 hi) hK m x1 (o11 w0 m x1 hi), fun m x1 hi => w_X7_records_52 g M C HR (fun m x1 hq => by obtain ⟨w9, hlt, hi⟩ := hq; exact (ih w9 hlt).1 m x1 hi) (fun m x1 hq => by obtain ⟨w9, hlt, hi⟩ := hq; exact (ih w9 hlt).2 m x1 hi) hK m x1 (o52 w0 m x1 hi)⟩
set_option maxHeartbeats 4000000 in
set_option maxRecDepth 100000 in
theorem t_X7_records (g : yG) (M : Nat → Nat) (m : MV)  {post : List va_W → Prop} {K : MV → Prop} (hK : ∀ (m : MV), K m → post ([modW g M m] : List va_W)) (hPO : PO_X7_records  K m ) : yMv g yX7_records wsX7_records ({ frames := 0, cells := 0, slots := 0, locals := 0 } : Room) [.ref (M 0)] ([modW g M m] : List va_W) post 0 0 := by
  refine y_entryV (cc := cX7_records) (maxL := 2) (by decide +kernel) rfl (Nat.le_of_ble_eq_true rfl) (fun Z C _ HR => ?_)
  have C : yC Z g cX7_records 2 wsX7_records RX7 := C
  obtain ⟨I11, I52, o11, o52, h⟩ := hPO
  have hX11 : ∀ (m : MV) (x1 : Int32), (fun (m9 : MV) (x19 : Int32) => ∃ w9, I11 w9 m9 x19) m x1 → yJ Z ({ frames := 0, cells := 0, slots := 0, locals := 0 } : Room) 0 0 ([modW g M m] : List va_W) 11 [(0, .ref (M 0)), (1, .int x1)] [] := by
    intro m x1 hq
    obtain ⟨w9, hi⟩ := hq
    exact (l_X7_records g M C HR hK o11 o52 w9).1 m x1 hi
  have hX52 : ∀ (m : MV) (x1 : Int32), (fun (m9 : MV) (x19 : Int32) => ∃ w9, I52 w9 m9 x19) m x1 → yJ Z ({ frames := 0, cells := 0, slots := 0, locals := 0 } : Room) 0 0 ([modW g M m] : List va_W) 52 [(0, .ref (M 0)), (1, .int x1)] [] := by
    intro m x1 hq
    obtain ⟨w9, hi⟩ := hq
    exact (l_X7_records g M C HR hK o11 o52 w9).2 m x1 hi
  unfold wp_X7_records_0 at h
  show yJ Z _ 0 0 _ 0 [(0, .ref (M 0))] []
  refine y_aload_n C dX7_records_0 0 rfl rfl ?_
  refine y_get (Cn := RX7) (T := TX7) (N := 26) (v := .int (m.1 4)) C dX7_records_1 hX7_records_X7 0 (sh_5000 g M m) rfl 4 (Nat.le_of_ble_eq_true rfl) kX7_records_1 rfl ?_
  refine y_bipush (v := 6) C dX7_records_4 (by decide) ?_
  refine y_icmp_ne (tgt := 50) C dX7_records_6 rfl h (fun c6 h => ?_) (fun c6 h => ?_)
  · refine y_sub (lv' := [(0, .ref (M 0))]) [0] rfl ?_
    exact w_X7_records_50 g M C HR hX11 hX52 hK _ h
  · refine y_iconst (v := 0) C dX7_records_9 (by decide) ?_
    refine y_istore_n (lv' := [(1, .int (0 : Int32)), (0, .ref (M 0))]) C dX7_records_10 rfl (Nat.le_of_ble_eq_true rfl) rfl ?_
    refine y_sub (lv' := [(0, .ref (M 0)), (1, .int (0 : Int32))]) [1, 0] rfl ?_
    exact hX11 _ _ h
theorem u_X7_records (g : yG) (M : Nat → Nat) (m : MV)  {K : MV → Prop} (hPO : PO_X7_records  K m ) : yMv g yX7_records wsX7_records ({ frames := 0, cells := 0, slots := 0, locals := 0 } : Room) [.ref (M 0)] ([modW g M m] : List va_W) (fun w => ∃ m' : MV, K m' ∧ w = ([modW g M m'] : List va_W)) 0 0 :=
  t_X7_records g M m  (fun m hk => ⟨m, hk, rfl⟩) hPO
theorem dX7_putAside_0 : decode cX7_putAside 0 = .ok (.iconst 0, 1) := by decide +kernel
theorem dX7_putAside_1 : decode cX7_putAside 1 = .ok (.istore_n 1, 1) := by decide +kernel
theorem dX7_putAside_2 : decode cX7_putAside 2 = .ok (.iload_n 1, 1) := by decide +kernel
theorem dX7_putAside_3 : decode cX7_putAside 3 = .ok (.sipush 186, 3) := by decide +kernel
theorem dX7_putAside_6 : decode cX7_putAside 6 = .ok (.if_icmp .ge 21, 3) := by decide +kernel
theorem dX7_putAside_9 : decode cX7_putAside 9 = .ok (.aload_n 0, 1) := by decide +kernel
theorem dX7_putAside_10 : decode cX7_putAside 10 = .ok (.getfield 13, 3) := by decide +kernel
theorem dX7_putAside_13 : decode cX7_putAside 13 = .ok (.iload_n 1, 1) := by decide +kernel
theorem dX7_putAside_14 : decode cX7_putAside 14 = .ok (.aload_n 0, 1) := by decide +kernel
theorem dX7_putAside_15 : decode cX7_putAside 15 = .ok (.getfield 7, 3) := by decide +kernel
theorem dX7_putAside_18 : decode cX7_putAside 18 = .ok (.iload_n 1, 1) := by decide +kernel
theorem dX7_putAside_19 : decode cX7_putAside 19 = .ok (.iaload, 1) := by decide +kernel
theorem dX7_putAside_20 : decode cX7_putAside 20 = .ok (.iastore, 1) := by decide +kernel
theorem dX7_putAside_21 : decode cX7_putAside 21 = .ok (.iinc 1 1, 3) := by decide +kernel
theorem dX7_putAside_24 : decode cX7_putAside 24 = .ok (.goto (-22), 3) := by decide +kernel
theorem dX7_putAside_27 : decode cX7_putAside 27 = .ok (.return_, 1) := by decide +kernel
theorem kX7_putAside_1 : Cond.fieldLink RX7 13 "BookedDetoursModel" "aside" "[I" ∈ wsX7_putAside := List.mem_of_getElem? (i := 1) (by decide +kernel)
theorem kX7_putAside_2 : Cond.fieldLink RX7 7 "BookedDetoursModel" "s" "[I" ∈ wsX7_putAside := List.mem_of_getElem? (i := 2) (by decide +kernel)
theorem hX7_putAside_X7 : ∀ w ∈ u_ws RX7 TX7 26, w ∈ wsX7_putAside := fun _ h => List.mem_cons_of_mem _ (List.mem_append_right _ h)
set_option maxHeartbeats 4000000 in
set_option maxRecDepth 100000 in
theorem w_X7_putAside_2 {Z : yZ} (g : yG) (M : Nat → Nat) (C : yC Z g cX7_putAside 2 wsX7_putAside RX7) {post : List va_W → Prop} (HR : yRv Z ({ frames := 0, cells := 0, slots := 0, locals := 0 } : Room) cX7_putAside post 0 0) {X2 : MV → Int32 → Prop} (hX2 : ∀ (m : MV) (x1 : Int32), X2 m x1 → yJ Z ({ frames := 0, cells := 0, slots := 0, locals := 0 } : Room) 0 0 ([modW g M m] : List va_W) 2 [(0, .ref (M 0)), (1, .int x1)] []) {K : MV → Prop} (hK : ∀ (m : MV), K m → post ([modW g M m] : List va_W)) (m : MV) (x1 : Int32) (h : wp_X7_putAside_2  X2 K m x1) : yJ Z ({ frames := 0, cells := 0, slots := 0, locals := 0 } : Room) 0 0 ([modW g M m] : List va_W) 2 [(0, .ref (M 0)), (1, .int x1)] [] := by
  unfold wp_X7_putAside_2 at h
  refine y_iload_n C dX7_putAside_2 1 rfl rfl ?_
  refine y_sipush (v := 186) C dX7_putAside_3 (by decide) ?_
  refine y_icmp_ge (tgt := 27) C dX7_putAside_6 rfl h (fun c6 h => ?_) (fun c6 h => ?_)
  · exact HR 27 dX7_putAside_27 _ _ _ _ (Nat.le_of_ble_eq_true rfl) (Nat.le_of_ble_eq_true rfl) (hK _  h)
  · refine y_aload_n C dX7_putAside_9 0 rfl rfl ?_
    refine y_get (Cn := RX7) (T := TX7) (N := 26) (v := .ref (M 2)) C dX7_putAside_10 hX7_putAside_X7 0 (sh_5000 g M m) rfl 2 (Nat.le_of_ble_eq_true rfl) kX7_putAside_1 rfl ?_
    refine y_iload_n C dX7_putAside_13 1 rfl rfl ?_
    refine y_aload_n C dX7_putAside_14 0 rfl rfl ?_
    refine y_get (Cn := RX7) (T := TX7) (N := 26) (v := .ref (M 1)) C dX7_putAside_15 hX7_putAside_X7 0 (sh_5000 g M m) rfl 1 (Nat.le_of_ble_eq_true rfl) kX7_putAside_2 rfl ?_
    refine y_iload_n C dX7_putAside_18 1 rfl rfl ?_
    obtain ⟨hb1, h⟩ := h
    refine y_iald (N := 186) (f := (m.2 1)) C dX7_putAside_19 1 (sh_5001 g M m) hb1 ?_
    obtain ⟨hb2, h⟩ := h
    obtain ⟨m3, em3⟩ : ∃ z : MV, z = mA m 2 x1.toNatClampNeg ((m.2 1) x1.toNatClampNeg) := ⟨_, rfl⟩
    have h := y_letP h em3
    refine y_iast (N := 186) (f := (m.2 2)) (L1 := ([modW g M m3] : List va_W)) C dX7_putAside_20 2 (sh_5007 g M m) hb2 (sh_5008 g M m x1.toNatClampNeg ((m.2 1) x1.toNatClampNeg) m3 em3) ?_
    refine y_iinc (v := (x1 + (1 : Int32))) (lv' := [(1, .int (x1 + (1 : Int32))), (0, .ref (M 0))]) C dX7_putAside_21 1 rfl rfl (Nat.le_of_ble_eq_true rfl) rfl ?_
    refine y_goto (tgt := 2) C dX7_putAside_24 rfl ?_
    refine y_sub (lv' := [(0, .ref (M 0)), (1, .int (x1 + (1 : Int32)))]) [1, 0] rfl ?_
    exact hX2 _ _ h
set_option maxHeartbeats 4000000 in
set_option maxRecDepth 100000 in
theorem l_X7_putAside {Z : yZ} (g : yG) (M : Nat → Nat) (C : yC Z g cX7_putAside 2 wsX7_putAside RX7) {post : List va_W → Prop} (HR : yRv Z ({ frames := 0, cells := 0, slots := 0, locals := 0 } : Room) cX7_putAside post 0 0) {K : MV → Prop} (hK : ∀ (m : MV), K m → post ([modW g M m] : List va_W)) {I2 : Nat → MV → Int32 → Prop} (o2 : ∀ (w0 : Nat) (m : MV) (x1 : Int32), I2 w0 m x1 → wp_X7_putAside_2  (fun (m9 : MV) (x19 : Int32) => ∃ w9, w9 < w0 ∧ I2 w9 m9 x19) K m x1) : ∀ w0 : Nat, (∀ (m : MV) (x1 : Int32), I2 w0 m x1 → yJ Z ({ frames := 0, cells := 0, slots := 0, locals := 0 } : Room) 0 0 ([modW g M m] : List va_W) 2 [(0, .ref (M 0)), (1, .int x1)] []) := by
  intro w0
  induction w0 using Nat.strongRecOn with
  | _ w0 ih =>
    exact fun m x1 hi => w_X7_putAside_2 g M C HR (fun m x1 hq => by obtain ⟨w9, hlt, hi⟩ := hq; exact (ih w9 hlt) m x1 hi) hK m x1 (o2 w0 m x1 hi)
set_option maxHeartbeats 4000000 in
set_option maxRecDepth 100000 in
theorem t_X7_putAside (g : yG) (M : Nat → Nat) (m : MV)  {post : List va_W → Prop} {K : MV → Prop} (hK : ∀ (m : MV), K m → post ([modW g M m] : List va_W)) (hPO : PO_X7_putAside  K m ) : yMv g yX7_putAside wsX7_putAside ({ frames := 0, cells := 0, slots := 0, locals := 0 } : Room) [.ref (M 0)] ([modW g M m] : List va_W) post 0 0 := by
  refine y_entryV (cc := cX7_putAside) (maxL := 2) (by decide +kernel) rfl (Nat.le_of_ble_eq_true rfl) (fun Z C _ HR => ?_)
  have C : yC Z g cX7_putAside 2 wsX7_putAside RX7 := C
  obtain ⟨I2, o2, h⟩ := hPO
  have hX2 : ∀ (m : MV) (x1 : Int32), (fun (m9 : MV) (x19 : Int32) => ∃ w9, I2 w9 m9 x19) m x1 → yJ Z ({ frames := 0, cells := 0, slots := 0, locals := 0 } : Room) 0 0 ([modW g M m] : List va_W) 2 [(0, .ref (M 0)), (1, .int x1)] [] := by
    intro m x1 hq
    obtain ⟨w9, hi⟩ := hq
    exact (l_X7_putAside g M C HR hK o2 w9) m x1 hi
  unfold wp_X7_putAside_0 at h
  show yJ Z _ 0 0 _ 0 [(0, .ref (M 0))] []
  refine y_iconst (v := 0) C dX7_putAside_0 (by decide) ?_
  refine y_istore_n (lv' := [(1, .int (0 : Int32)), (0, .ref (M 0))]) C dX7_putAside_1 rfl (Nat.le_of_ble_eq_true rfl) rfl ?_
  refine y_sub (lv' := [(0, .ref (M 0)), (1, .int (0 : Int32))]) [1, 0] rfl ?_
  exact hX2 _ _ h
theorem u_X7_putAside (g : yG) (M : Nat → Nat) (m : MV)  {K : MV → Prop} (hPO : PO_X7_putAside  K m ) : yMv g yX7_putAside wsX7_putAside ({ frames := 0, cells := 0, slots := 0, locals := 0 } : Room) [.ref (M 0)] ([modW g M m] : List va_W) (fun w => ∃ m' : MV, K m' ∧ w = ([modW g M m'] : List va_W)) 0 0 :=
  t_X7_putAside g M m  (fun m hk => ⟨m, hk, rfl⟩) hPO
