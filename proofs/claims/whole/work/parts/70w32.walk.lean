theorem dX7_restore_0 : decode cX7_restore 0 = .ok (.aload_n 0, 1) := by decide +kernel
theorem dX7_restore_1 : decode cX7_restore 1 = .ok (.iconst 0, 1) := by decide +kernel
theorem dX7_restore_2 : decode cX7_restore 2 = .ok (.putfield 44, 3) := by decide +kernel
theorem dX7_restore_5 : decode cX7_restore 5 = .ok (.iload_n 1, 1) := by decide +kernel
theorem dX7_restore_6 : decode cX7_restore 6 = .ok (.iconst 0, 1) := by decide +kernel
theorem dX7_restore_7 : decode cX7_restore 7 = .ok (.iconst 1, 1) := by decide +kernel
theorem dX7_restore_8 : decode cX7_restore 8 = .ok (.invokestatic 48, 3) := by decide +kernel
theorem dX7_restore_11 : decode cX7_restore 11 = .ok (.ifCond .ne 6, 3) := by decide +kernel
theorem dX7_restore_14 : decode cX7_restore 14 = .ok (.bipush (-2), 2) := by decide +kernel
theorem dX7_restore_16 : decode cX7_restore 16 = .ok (.ireturn, 1) := by decide +kernel
theorem dX7_restore_17 : decode cX7_restore 17 = .ok (.aload_n 0, 1) := by decide +kernel
theorem dX7_restore_18 : decode cX7_restore 18 = .ok (.getfield 22, 3) := by decide +kernel
theorem dX7_restore_21 : decode cX7_restore 21 = .ok (.iload_n 1, 1) := by decide +kernel
theorem dX7_restore_22 : decode cX7_restore 22 = .ok (.baload, 1) := by decide +kernel
theorem dX7_restore_23 : decode cX7_restore 23 = .ok (.ifCond .ne 6, 3) := by decide +kernel
theorem dX7_restore_26 : decode cX7_restore 26 = .ok (.bipush (-5), 2) := by decide +kernel
theorem dX7_restore_28 : decode cX7_restore 28 = .ok (.ireturn, 1) := by decide +kernel
theorem dX7_restore_29 : decode cX7_restore 29 = .ok (.aload_n 0, 1) := by decide +kernel
theorem dX7_restore_30 : decode cX7_restore 30 = .ok (.invokevirtual 149, 3) := by decide +kernel
theorem dX7_restore_33 : decode cX7_restore 33 = .ok (.iconst 0, 1) := by decide +kernel
theorem dX7_restore_34 : decode cX7_restore 34 = .ok (.istore_n 2, 1) := by decide +kernel
theorem dX7_restore_35 : decode cX7_restore 35 = .ok (.iload_n 2, 1) := by decide +kernel
theorem dX7_restore_36 : decode cX7_restore 36 = .ok (.sipush 186, 3) := by decide +kernel
theorem dX7_restore_39 : decode cX7_restore 39 = .ok (.if_icmp .ge 27, 3) := by decide +kernel
theorem dX7_restore_42 : decode cX7_restore 42 = .ok (.aload_n 0, 1) := by decide +kernel
theorem dX7_restore_43 : decode cX7_restore 43 = .ok (.getfield 7, 3) := by decide +kernel
theorem dX7_restore_46 : decode cX7_restore 46 = .ok (.iload_n 2, 1) := by decide +kernel
theorem dX7_restore_47 : decode cX7_restore 47 = .ok (.aload_n 0, 1) := by decide +kernel
theorem dX7_restore_48 : decode cX7_restore 48 = .ok (.getfield 19, 3) := by decide +kernel
theorem dX7_restore_51 : decode cX7_restore 51 = .ok (.sipush 186, 3) := by decide +kernel
theorem dX7_restore_54 : decode cX7_restore 54 = .ok (.iload_n 1, 1) := by decide +kernel
theorem dX7_restore_55 : decode cX7_restore 55 = .ok (.imul, 1) := by decide +kernel
theorem dX7_restore_56 : decode cX7_restore 56 = .ok (.iload_n 2, 1) := by decide +kernel
theorem dX7_restore_57 : decode cX7_restore 57 = .ok (.iadd, 1) := by decide +kernel
theorem dX7_restore_58 : decode cX7_restore 58 = .ok (.iaload, 1) := by decide +kernel
theorem dX7_restore_59 : decode cX7_restore 59 = .ok (.iastore, 1) := by decide +kernel
theorem dX7_restore_60 : decode cX7_restore 60 = .ok (.iinc 2 1, 3) := by decide +kernel
theorem dX7_restore_63 : decode cX7_restore 63 = .ok (.goto (-28), 3) := by decide +kernel
theorem dX7_restore_66 : decode cX7_restore 66 = .ok (.aload_n 0, 1) := by decide +kernel
theorem dX7_restore_67 : decode cX7_restore 67 = .ok (.getfield 7, 3) := by decide +kernel
theorem dX7_restore_70 : decode cX7_restore 70 = .ok (.iconst 4, 1) := by decide +kernel
theorem dX7_restore_71 : decode cX7_restore 71 = .ok (.iaload, 1) := by decide +kernel
theorem dX7_restore_72 : decode cX7_restore 72 = .ok (.ireturn, 1) := by decide +kernel
set_option maxRecDepth 20000 in
theorem ggX7_restore_X7_in : GoodIn wsX7_restore wsX7_in := goodIn_r _ [8] (by decide +kernel) (by decide +kernel)
set_option maxRecDepth 20000 in
theorem gX7_restore_X7_in : GoodIn wsX7_restore (va_wsS RX7 48 yX7_in wsX7_in) := goodIn_app (goodIn_of _ (by decide +kernel)) ggX7_restore_X7_in
set_option maxRecDepth 20000 in
theorem ggX7_restore_X7_records : GoodIn wsX7_restore wsX7_records := goodIn_r _ [12, 13, 14, 3, 15, 16, 17, 18, 19, 20, 21, 22, 23, 24, 25, 26, 27, 28, 29, 30, 31, 32, 33, 34, 35, 36, 37, 38, 39, 40] (by decide +kernel) (by decide +kernel)
set_option maxRecDepth 20000 in
theorem gX7_restore_X7_records : GoodIn wsX7_restore (wsV RX7 149 RX7 yX7_records wsX7_records) := goodIn_app (goodIn_of _ (by decide +kernel)) ggX7_restore_X7_records
theorem kX7_restore_3 : Cond.fieldLink RX7 7 "BookedDetoursModel" "s" "[I" ∈ wsX7_restore := List.mem_of_getElem? (i := 3) (by decide +kernel)
theorem kX7_restore_4 : Cond.fieldLink RX7 19 "BookedDetoursModel" "slots" "[I" ∈ wsX7_restore := List.mem_of_getElem? (i := 4) (by decide +kernel)
theorem kX7_restore_1 : Cond.fieldLink RX7 44 "BookedDetoursModel" "thrown" "I" ∈ wsX7_restore := List.mem_of_getElem? (i := 1) (by decide +kernel)
theorem kX7_restore_2 : Cond.fieldLink RX7 22 "BookedDetoursModel" "hasSlot" "[Z" ∈ wsX7_restore := List.mem_of_getElem? (i := 2) (by decide +kernel)
theorem hX7_restore_X7 : ∀ w ∈ u_ws RX7 TX7 26, w ∈ wsX7_restore := fun _ h => List.mem_cons_of_mem _ (List.mem_append_right _ h)
set_option maxHeartbeats 4000000 in
set_option maxRecDepth 100000 in
theorem w_X7_restore_35 {Z : yZ} (g : yG) (M : Nat → Nat) (sl : Int32) (C : yC Z g cX7_restore 3 wsX7_restore RX7) {post : Int32 → List va_W → Prop} (HR : yRi Z ({ frames := 1, cells := 0, slots := 0, locals := 22 } : Room) cX7_restore .int post 0 0) {X35 : MV → Int32 → Prop} (hX35 : ∀ (m : MV) (x2 : Int32), X35 m x2 → yJ Z ({ frames := 1, cells := 0, slots := 0, locals := 22 } : Room) 0 0 ([modW g M m] : List va_W) 35 [(0, .ref (M 0)), (1, .int sl), (2, .int x2)] []) {K : Int32 → MV → Prop} (hK : ∀ (r0 : Int32) (m : MV), K r0 m → post r0 ([modW g M m] : List va_W)) (m : MV) (x2 : Int32) (h : wp_X7_restore_35 sl X35 K m x2) : yJ Z ({ frames := 1, cells := 0, slots := 0, locals := 22 } : Room) 0 0 ([modW g M m] : List va_W) 35 [(0, .ref (M 0)), (1, .int sl), (2, .int x2)] [] := by
  unfold wp_X7_restore_35 at h
  refine y_iload_n C dX7_restore_35 2 rfl rfl ?_
  refine y_sipush (v := 186) C dX7_restore_36 (by decide) ?_
  refine y_icmp_ge (tgt := 66) C dX7_restore_39 rfl h (fun c39 h => ?_) (fun c39 h => ?_)
  · refine y_aload_n C dX7_restore_66 0 rfl rfl ?_
    refine y_get (Cn := RX7) (T := TX7) (N := 26) (v := .ref (M 1)) C dX7_restore_67 hX7_restore_X7 0 (sh_5000 g M m) rfl 1 (Nat.le_of_ble_eq_true rfl) kX7_restore_3 rfl ?_
    refine y_iconst (v := 4) C dX7_restore_70 (by decide) ?_
    obtain ⟨hb1, h⟩ := h
    refine y_iald (N := 186) (f := (m.2 1)) C dX7_restore_71 1 (sh_5001 g M m) hb1 ?_
    exact HR 72 dX7_restore_72 ((m.2 1) (4 : Int32).toNatClampNeg) _ _ _ _ (rfl) (Nat.le_of_ble_eq_true rfl) (Nat.le_of_ble_eq_true rfl) (hK _ _  h)
  · refine y_aload_n C dX7_restore_42 0 rfl rfl ?_
    refine y_get (Cn := RX7) (T := TX7) (N := 26) (v := .ref (M 1)) C dX7_restore_43 hX7_restore_X7 0 (sh_5000 g M m) rfl 1 (Nat.le_of_ble_eq_true rfl) kX7_restore_3 rfl ?_
    refine y_iload_n C dX7_restore_46 2 rfl rfl ?_
    refine y_aload_n C dX7_restore_47 0 rfl rfl ?_
    refine y_get (Cn := RX7) (T := TX7) (N := 26) (v := .ref (M 4)) C dX7_restore_48 hX7_restore_X7 0 (sh_5000 g M m) rfl 5 (Nat.le_of_ble_eq_true rfl) kX7_restore_4 rfl ?_
    refine y_sipush (v := 186) C dX7_restore_51 (by decide) ?_
    refine y_iload_n C dX7_restore_54 1 rfl rfl ?_
    refine y_imul C dX7_restore_55 ?_
    refine y_iload_n C dX7_restore_56 2 rfl rfl ?_
    refine y_iadd C dX7_restore_57 ?_
    obtain ⟨hb2, h⟩ := h
    refine y_iald (N := 372) (f := (m.2 5)) C dX7_restore_58 4 (sh_5040 g M m) hb2 ?_
    obtain ⟨hb3, h⟩ := h
    obtain ⟨m4, em4⟩ : ∃ z : MV, z = mA m 1 x2.toNatClampNeg ((m.2 5) (((186 : Int32) * sl) + x2).toNatClampNeg) := ⟨_, rfl⟩
    have h := y_letP h em4
    refine y_iast (N := 186) (f := (m.2 1)) (L1 := ([modW g M m4] : List va_W)) C dX7_restore_59 1 (sh_5001 g M m) hb3 (sh_5003 g M m x2.toNatClampNeg ((m.2 5) (((186 : Int32) * sl) + x2).toNatClampNeg) m4 em4) ?_
    refine y_iinc (v := (x2 + (1 : Int32))) (lv' := [(2, .int (x2 + (1 : Int32))), (0, .ref (M 0)), (1, .int sl)]) C dX7_restore_60 2 rfl rfl (Nat.le_of_ble_eq_true rfl) rfl ?_
    refine y_goto (tgt := 35) C dX7_restore_63 rfl ?_
    refine y_sub (lv' := [(0, .ref (M 0)), (1, .int sl), (2, .int (x2 + (1 : Int32)))]) [1, 2, 0] rfl ?_
    exact hX35 _ _ h
set_option maxHeartbeats 4000000 in
set_option maxRecDepth 100000 in
theorem l_X7_restore {Z : yZ} (g : yG) (M : Nat → Nat) (sl : Int32) (C : yC Z g cX7_restore 3 wsX7_restore RX7) {post : Int32 → List va_W → Prop} (HR : yRi Z ({ frames := 1, cells := 0, slots := 0, locals := 22 } : Room) cX7_restore .int post 0 0) {K : Int32 → MV → Prop} (hK : ∀ (r0 : Int32) (m : MV), K r0 m → post r0 ([modW g M m] : List va_W)) {I35 : Nat → MV → Int32 → Prop} (o35 : ∀ (w0 : Nat) (m : MV) (x2 : Int32), I35 w0 m x2 → wp_X7_restore_35 sl (fun (m9 : MV) (x29 : Int32) => ∃ w9, w9 < w0 ∧ I35 w9 m9 x29) K m x2) : ∀ w0 : Nat, (∀ (m : MV) (x2 : Int32), I35 w0 m x2 → yJ Z ({ frames := 1, cells := 0, slots := 0, locals := 22 } : Room) 0 0 ([modW g M m] : List va_W) 35 [(0, .ref (M 0)), (1, .int sl), (2, .int x2)] []) := by
  intro w0
  induction w0 using Nat.strongRecOn with
  | _ w0 ih =>
    exact fun m x2 hi => w_X7_restore_35 g M sl C HR (fun m x2 hq => by obtain ⟨w9, hlt, hi⟩ := hq; exact (ih w9 hlt) m x2 hi) hK m x2 (o35 w0 m x2 hi)
set_option maxHeartbeats 4000000 in
set_option maxRecDepth 100000 in
theorem t_X7_restore (g : yG) (M : Nat → Nat) (m : MV) (sl : Int32) {post : Int32 → List va_W → Prop} {K : Int32 → MV → Prop} (hK : ∀ (r0 : Int32) (m : MV), K r0 m → post r0 ([modW g M m] : List va_W)) (hPO : PO_X7_restore sl K m ) : yM g yX7_restore wsX7_restore ({ frames := 1, cells := 0, slots := 0, locals := 22 } : Room) [.ref (M 0), .int sl] ([modW g M m] : List va_W) post 0 0 := by
  refine y_entryI (cc := cX7_restore) (maxL := 3) (by decide +kernel) rfl (Nat.le_of_ble_eq_true rfl) (fun Z C HR => ?_)
  have C : yC Z g cX7_restore 3 wsX7_restore RX7 := C
  obtain ⟨I35, o35, h⟩ := hPO
  have hX35 : ∀ (m : MV) (x2 : Int32), (fun (m9 : MV) (x29 : Int32) => ∃ w9, I35 w9 m9 x29) m x2 → yJ Z ({ frames := 1, cells := 0, slots := 0, locals := 22 } : Room) 0 0 ([modW g M m] : List va_W) 35 [(0, .ref (M 0)), (1, .int sl), (2, .int x2)] [] := by
    intro m x2 hq
    obtain ⟨w9, hi⟩ := hq
    exact (l_X7_restore g M sl C HR hK o35 w9) m x2 hi
  unfold wp_X7_restore_0 at h
  show yJ Z _ 0 0 _ 0 [(0, .ref (M 0)), (1, .int sl)] []
  refine y_aload_n C dX7_restore_0 0 rfl rfl ?_
  refine y_iconst (v := 0) C dX7_restore_1 (by decide) ?_
  obtain ⟨m1, em1⟩ : ∃ z : MV, z = mI m 0 (0 : Int32) := ⟨_, rfl⟩
  have h := y_letP h em1
  refine y_put (Cn := RX7) (T := TX7) (N := 26) (v := .int (0 : Int32)) (ty0 := tyX7) (L1 := ([modW g M m1] : List va_W)) C dX7_restore_2 hX7_restore_X7 0 (sh_5000 g M m) rfl 0 (Nat.le_of_ble_eq_true rfl) kX7_restore_1 tyX7_ok nmX7 rfl rfl rfl (Nat.le_of_ble_eq_true rfl) (sh_5029 g M m (0 : Int32) m1 em1) ?_
  refine y_iload_n C dX7_restore_5 1 rfl rfl ?_
  refine y_iconst (v := 0) C dX7_restore_6 (by decide) ?_
  refine y_iconst (v := 1) C dX7_restore_7 (by decide) ?_
  refine y_callS (As := [.int sl, .int (0 : Int32), .int (1 : Int32)]) (rest := []) C dX7_restore_8 (c_X7_in g sl (0 : Int32) (1 : Int32)) rfl rfl rfl rfl ⟨Nat.le_of_ble_eq_true rfl, Nat.le_of_ble_eq_true rfl⟩ gX7_restore_X7_in (nA := 3) (by decide +kernel) rfl (Nat.le_of_ble_eq_true rfl) ⟨Nat.le_of_ble_eq_true rfl, Nat.le_of_ble_eq_true rfl⟩ [] [0] (nB := 1) rfl (by decide +kernel) (sh_5002 g M m1) (fun r2 w9 hw => ?_)
  obtain ⟨er2, rfl⟩ := hw
  have h := y_letP h er2
  refine ⟨([modW g M m1] : List va_W), ⟨(sh_5002 g M m1), rfl, rfl⟩, ?_⟩
  refine y_if_ne (tgt := 17) C dX7_restore_11 rfl h (fun c11 h => ?_) (fun c11 h => ?_)
  · refine y_aload_n C dX7_restore_17 0 rfl rfl ?_
    refine y_get (Cn := RX7) (T := TX7) (N := 26) (v := .ref (M 5)) C dX7_restore_18 hX7_restore_X7 0 (sh_5000 g M m1) rfl 6 (Nat.le_of_ble_eq_true rfl) kX7_restore_2 rfl ?_
    refine y_iload_n C dX7_restore_21 1 rfl rfl ?_
    obtain ⟨hb3, h⟩ := h
    refine y_zald (N := 2) (f := (m1.2 6)) C dX7_restore_22 5 (sh_5038 g M m1) hb3 ?_
    refine y_if_ne (tgt := 29) C dX7_restore_23 rfl h (fun c23 h => ?_) (fun c23 h => ?_)
    · refine y_aload_n C dX7_restore_29 0 rfl rfl ?_
      refine y_callVv (As := []) (rest := []) C dX7_restore_30 (u_X7_records g M m1 h) rfl rfl rfl rfl ⟨Nat.le_of_ble_eq_true rfl, Nat.le_of_ble_eq_true rfl⟩ gX7_restore_X7_records (nA := 0) (by decide +kernel) rfl (sh_5010 g M m1) (Nat.le_of_ble_eq_true rfl) ⟨Nat.le_of_ble_eq_true rfl, Nat.le_of_ble_eq_true rfl⟩ [0] [] (nB := 1) rfl (by decide +kernel) (sh_5009 g M m1) (fun w9 hw => ?_)
      obtain ⟨m4, h, rfl⟩ := hw
      refine ⟨([modW g M m4] : List va_W), (sh_5023 g M m1 m4), ?_⟩
      refine y_iconst (v := 0) C dX7_restore_33 (by decide) ?_
      refine y_istore_n (lv' := [(2, .int (0 : Int32)), (0, .ref (M 0)), (1, .int sl)]) C dX7_restore_34 rfl (Nat.le_of_ble_eq_true rfl) rfl ?_
      refine y_sub (lv' := [(0, .ref (M 0)), (1, .int sl), (2, .int (0 : Int32))]) [1, 2, 0] rfl ?_
      exact hX35 _ _ h
    · refine y_bipush (v := -5) C dX7_restore_26 (by decide) ?_
      exact HR 28 dX7_restore_28 (-5 : Int32) _ _ _ _ (rfl) (Nat.le_of_ble_eq_true rfl) (Nat.le_of_ble_eq_true rfl) (hK _ _  h)
  · refine y_bipush (v := -2) C dX7_restore_14 (by decide) ?_
    exact HR 16 dX7_restore_16 (-2 : Int32) _ _ _ _ (rfl) (Nat.le_of_ble_eq_true rfl) (Nat.le_of_ble_eq_true rfl) (hK _ _  h)
theorem u_X7_restore (g : yG) (M : Nat → Nat) (m : MV) (sl : Int32) {K : Int32 → MV → Prop} (hPO : PO_X7_restore sl K m ) : yM g yX7_restore wsX7_restore ({ frames := 1, cells := 0, slots := 0, locals := 22 } : Room) [.ref (M 0), .int sl] ([modW g M m] : List va_W) (fun r w => ∃ m' : MV, K r m' ∧ w = ([modW g M m'] : List va_W)) 0 0 :=
  t_X7_restore g M m sl (fun r0 m hk => ⟨m, hk, rfl⟩) hPO
