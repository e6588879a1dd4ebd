theorem dX7_wipe_0 : decode cX7_wipe 0 = .ok (.aload_n 0, 1) := by decide +kernel
theorem dX7_wipe_1 : decode cX7_wipe 1 = .ok (.iconst 0, 1) := by decide +kernel
theorem dX7_wipe_2 : decode cX7_wipe 2 = .ok (.putfield 44, 3) := by decide +kernel
theorem dX7_wipe_5 : decode cX7_wipe 5 = .ok (.aload_n 0, 1) := by decide +kernel
theorem dX7_wipe_6 : decode cX7_wipe 6 = .ok (.getfield 172, 3) := by decide +kernel
theorem dX7_wipe_9 : decode cX7_wipe 9 = .ok (.istore_n 1, 1) := by decide +kernel
theorem dX7_wipe_10 : decode cX7_wipe 10 = .ok (.aload_n 0, 1) := by decide +kernel
theorem dX7_wipe_11 : decode cX7_wipe 11 = .ok (.iconst 0, 1) := by decide +kernel
theorem dX7_wipe_12 : decode cX7_wipe 12 = .ok (.putfield 172, 3) := by decide +kernel
theorem dX7_wipe_15 : decode cX7_wipe 15 = .ok (.iload_n 1, 1) := by decide +kernel
theorem dX7_wipe_16 : decode cX7_wipe 16 = .ok (.ireturn, 1) := by decide +kernel
theorem kX7_wipe_1 : Cond.fieldLink RX7 44 "BookedDetoursModel" "thrown" "I" ∈ wsX7_wipe := List.mem_of_getElem? (i := 1) (by decide +kernel)
theorem kX7_wipe_2 : Cond.fieldLink RX7 172 "BookedDetoursModel" "length" "I" ∈ wsX7_wipe := List.mem_of_getElem? (i := 2) (by decide +kernel)
theorem hX7_wipe_X7 : ∀ w ∈ u_ws RX7 TX7 26, w ∈ wsX7_wipe := fun _ h => List.mem_cons_of_mem _ (List.mem_append_right _ h)
set_option maxHeartbeats 4000000 in
set_option maxRecDepth 100000 in
theorem t_X7_wipe (g : yG) (M : Nat → Nat) (m : MV)  {post : Int32 → List va_W → Prop} {K : Int32 → MV → Prop} (hK : ∀ (r0 : Int32) (m : MV), K r0 m → post r0 ([modW g M m] : List va_W)) (hPO : PO_X7_wipe  K m ) : yM g yX7_wipe wsX7_wipe ({ frames := 0, cells := 0, slots := 0, locals := 0 } : Room) [.ref (M 0)] ([modW g M m] : List va_W) post 0 0 := by
  refine y_entryI (cc := cX7_wipe) (maxL := 2) (by decide +kernel) rfl (Nat.le_of_ble_eq_true rfl) (fun Z C HR => ?_)
  have C : yC Z g cX7_wipe 2 wsX7_wipe RX7 := C
  have h := hPO
  unfold PO_X7_wipe wp_X7_wipe_0 at h
  show yJ Z _ 0 0 _ 0 [(0, .ref (M 0))] []
  refine y_aload_n C dX7_wipe_0 0 rfl rfl ?_
  refine y_iconst (v := 0) C dX7_wipe_1 (by decide) ?_
  obtain ⟨m1, em1⟩ : ∃ z : MV, z = mI m 0 (0 : Int32) := ⟨_, rfl⟩
  have h := y_letP h em1
  refine y_put (Cn := RX7) (T := TX7) (N := 26) (v := .int (0 : Int32)) (ty0 := tyX7) (L1 := ([modW g M m1] : List va_W)) C dX7_wipe_2 hX7_wipe_X7 0 (sh_5000 g M m) rfl 0 (Nat.le_of_ble_eq_true rfl) kX7_wipe_1 tyX7_ok nmX7 rfl rfl rfl (Nat.le_of_ble_eq_true rfl) (sh_5029 g M m (0 : Int32) m1 em1) ?_
  refine y_aload_n C dX7_wipe_5 0 rfl rfl ?_
  refine y_get (Cn := RX7) (T := TX7) (N := 26) (v := .int (m1.1 8)) C dX7_wipe_6 hX7_wipe_X7 0 (sh_5000 g M m1) rfl 8 (Nat.le_of_ble_eq_true rfl) kX7_wipe_2 rfl ?_
  refine y_istore_n (lv' := [(1, .int (m1.1 8)), (0, .ref (M 0))]) C dX7_wipe_9 rfl (Nat.le_of_ble_eq_true rfl) rfl ?_
  refine y_aload_n C dX7_wipe_10 1 rfl rfl ?_
  refine y_iconst (v := 0) C dX7_wipe_11 (by decide) ?_
  obtain ⟨m2, em2⟩ : ∃ z : MV, z = mI m1 8 (0 : Int32) := ⟨_, rfl⟩
  have h := y_letP h em2
  refine y_put (Cn := RX7) (T := TX7) (N := 26) (v := .int (0 : Int32)) (ty0 := tyX7) (L1 := ([modW g M m2] : List va_W)) C dX7_wipe_12 hX7_wipe_X7 0 (sh_5000 g M m1) rfl 8 (Nat.le_of_ble_eq_true rfl) kX7_wipe_2 tyX7_ok nmX7 rfl rfl rfl (Nat.le_of_ble_eq_true rfl) (sh_5030 g M m1 (0 : Int32) m2 em2) ?_
  refine y_iload_n C dX7_wipe_15 0 rfl rfl ?_
  exact HR 16 dX7_wipe_16 (m1.1 8) _ _ _ _ (rfl) (Nat.le_of_ble_eq_true rfl) (Nat.le_of_ble_eq_true rfl) (hK _ _  h)
theorem u_X7_wipe (g : yG) (M : Nat → Nat) (m : MV)  {K : Int32 → MV → Prop} (hPO : PO_X7_wipe  K m ) : yM g yX7_wipe wsX7_wipe ({ frames := 0, cells := 0, slots := 0, locals := 0 } : Room) [.ref (M 0)] ([modW g M m] : List va_W) (fun r w => ∃ m' : MV, K r m' ∧ w = ([modW g M m'] : List va_W)) 0 0 :=
  t_X7_wipe g M m  (fun r0 m hk => ⟨m, hk, rfl⟩) hPO
theorem dX7_sign_0 : decode cX7_sign 0 = .ok (.aload_n 0, 1) := by decide +kernel
theorem dX7_sign_1 : decode cX7_sign 1 = .ok (.getfield 175, 3) := by decide +kernel
theorem dX7_sign_4 : decode cX7_sign 4 = .ok (.aload_n 0, 1) := by decide +kernel
theorem dX7_sign_5 : decode cX7_sign 5 = .ok (.getfield 172, 3) := by decide +kernel
theorem dX7_sign_8 : decode cX7_sign 8 = .ok (.if_icmp .ge 15, 3) := by decide +kernel
theorem dX7_sign_11 : decode cX7_sign 11 = .ok (.aload_n 0, 1) := by decide +kernel
theorem dX7_sign_12 : decode cX7_sign 12 = .ok (.getfield 26, 3) := by decide +kernel
theorem dX7_sign_15 : decode cX7_sign 15 = .ok (.aload_n 0, 1) := by decide +kernel
theorem dX7_sign_16 : decode cX7_sign 16 = .ok (.getfield 175, 3) := by decide +kernel
theorem dX7_sign_19 : decode cX7_sign 19 = .ok (.iaload, 1) := by decide +kernel
theorem dX7_sign_20 : decode cX7_sign 20 = .ok (.goto 4, 3) := by decide +kernel
theorem dX7_sign_23 : decode cX7_sign 23 = .ok (.iconst 0, 1) := by decide +kernel
theorem dX7_sign_24 : decode cX7_sign 24 = .ok (.ireturn, 1) := by decide +kernel
theorem kX7_sign_1 : Cond.fieldLink RX7 175 "BookedDetoursModel" "at" "I" ∈ wsX7_sign := List.mem_of_getElem? (i := 1) (by decide +kernel)
theorem kX7_sign_2 : Cond.fieldLink RX7 172 "BookedDetoursModel" "length" "I" ∈ wsX7_sign := List.mem_of_getElem? (i := 2) (by decide +kernel)
theorem kX7_sign_3 : Cond.fieldLink RX7 26 "BookedDetoursModel" "pad" "[I" ∈ wsX7_sign := List.mem_of_getElem? (i := 3) (by decide +kernel)
theorem hX7_sign_X7 : ∀ w ∈ u_ws RX7 TX7 26, w ∈ wsX7_sign := fun _ h => List.mem_cons_of_mem _ (List.mem_append_right _ h)
set_option maxHeartbeats 4000000 in
set_option maxRecDepth 100000 in
theorem t_X7_sign (g : yG) (M : Nat → Nat) (m : MV)  {post : Int32 → List va_W → Prop} {K : Int32 → Prop} (hK : ∀ (r0 : Int32), K r0 → post r0 ([modW g M m] : List va_W)) (hPO : PO_X7_sign m K  ) : yM g yX7_sign wsX7_sign ({ frames := 0, cells := 0, slots := 0, locals := 0 } : Room) [.ref (M 0)] ([modW g M m] : List va_W) post 0 0 := by
  refine y_entryI (cc := cX7_sign) (maxL := 1) (by decide +kernel) rfl (Nat.le_of_ble_eq_true rfl) (fun Z C HR => ?_)
  have C : yC Z g cX7_sign 1 wsX7_sign RX7 := C
  have h := hPO
  unfold PO_X7_sign wp_X7_sign_0 at h
  show yJ Z _ 0 0 _ 0 [(0, .ref (M 0))] []
  refine y_aload_n C dX7_sign_0 0 rfl rfl ?_
  refine y_get (Cn := RX7) (T := TX7) (N := 26) (v := .int (m.1 22)) C dX7_sign_1 hX7_sign_X7 0 (sh_5000 g M m) rfl 22 (Nat.le_of_ble_eq_true rfl) kX7_sign_1 rfl ?_
  refine y_aload_n C dX7_sign_4 0 rfl rfl ?_
  refine y_get (Cn := RX7) (T := TX7) (N := 26) (v := .int (m.1 8)) C dX7_sign_5 hX7_sign_X7 0 (sh_5000 g M m) rfl 8 (Nat.le_of_ble_eq_true rfl) kX7_sign_2 rfl ?_
  refine y_icmp_ge (tgt := 23) C dX7_sign_8 rfl h (fun c8 h => ?_) (fun c8 h => ?_)
  · refine y_iconst (v := 0) C dX7_sign_23 (by decide) ?_
    exact HR 24 dX7_sign_24 (0 : Int32) _ _ _ _ (rfl) (Nat.le_of_ble_eq_true rfl) (Nat.le_of_ble_eq_true rfl) (hK _  h)
  · refine y_aload_n C dX7_sign_11 0 rfl rfl ?_
    refine y_get (Cn := RX7) (T := TX7) (N := 26) (v := .ref (M 6)) C dX7_sign_12 hX7_sign_X7 0 (sh_5000 g M m) rfl 7 (Nat.le_of_ble_eq_true rfl) kX7_sign_3 rfl ?_
    refine y_aload_n C dX7_sign_15 0 rfl rfl ?_
    refine y_get (Cn := RX7) (T := TX7) (N := 26) (v := .int (m.1 22)) C dX7_sign_16 hX7_sign_X7 0 (sh_5000 g M m) rfl 22 (Nat.le_of_ble_eq_true rfl) kX7_sign_1 rfl ?_
    obtain ⟨hb1, h⟩ := h
    refine y_iald (N := 60) (f := (m.2 7)) C dX7_sign_19 6 (sh_5031 g M m) hb1 ?_
    refine y_goto (tgt := 24) C dX7_sign_20 rfl ?_
    exact HR 24 dX7_sign_24 ((m.2 7) (m.1 22).toNatClampNeg) _ _ _ _ (rfl) (Nat.le_of_ble_eq_true rfl) (Nat.le_of_ble_eq_true rfl) (hK _  h)
theorem u_X7_sign (g : yG) (M : Nat → Nat) (m : MV)  {K : Int32 → Prop} (hPO : PO_X7_sign m K  ) : yM g yX7_sign wsX7_sign ({ frames := 0, cells := 0, slots := 0, locals := 0 } : Room) [.ref (M 0)] ([modW g M m] : List va_W) (fun r w => K r ∧ w = ([modW g M m] : List va_W)) 0 0 :=
  t_X7_sign g M m  (fun r0 hk => ⟨hk, rfl⟩) hPO
theorem dX7_wants_0 : decode cX7_wants 0 = .ok (.aload_n 0, 1) := by decide +kernel
theorem dX7_wants_1 : decode cX7_wants 1 = .ok (.aload_n 0, 1) := by decide +kernel
theorem dX7_wants_2 : decode cX7_wants 2 = .ok (.getfield 178, 3) := by decide +kernel
theorem dX7_wants_5 : decode cX7_wants 5 = .ok (.ifCond .eq 15, 3) := by decide +kernel
theorem dX7_wants_8 : decode cX7_wants 8 = .ok (.aload_n 0, 1) := by decide +kernel
theorem dX7_wants_9 : decode cX7_wants 9 = .ok (.invokevirtual 181, 3) := by decide +kernel
theorem dX7_wants_12 : decode cX7_wants 12 = .ok (.iload_n 1, 1) := by decide +kernel
theorem dX7_wants_13 : decode cX7_wants 13 = .ok (.if_icmp .ne 7, 3) := by decide +kernel
theorem dX7_wants_16 : decode cX7_wants 16 = .ok (.iconst 1, 1) := by decide +kernel
theorem dX7_wants_17 : decode cX7_wants 17 = .ok (.goto 4, 3) := by decide +kernel
theorem dX7_wants_20 : decode cX7_wants 20 = .ok (.iconst 0, 1) := by decide +kernel
theorem dX7_wants_21 : decode cX7_wants 21 = .ok (.putfield 178, 3) := by decide +kernel
theorem dX7_wants_24 : decode cX7_wants 24 = .ok (.aload_n 0, 1) := by decide +kernel
theorem dX7_wants_25 : decode cX7_wants 25 = .ok (.dup, 1) := by decide +kernel
theorem dX7_wants_26 : decode cX7_wants 26 = .ok (.getfield 175, 3) := by decide +kernel
theorem dX7_wants_29 : decode cX7_wants 29 = .ok (.aload_n 0, 1) := by decide +kernel
theorem dX7_wants_30 : decode cX7_wants 30 = .ok (.getfield 178, 3) := by decide +kernel
theorem dX7_wants_33 : decode cX7_wants 33 = .ok (.ifCond .eq 7, 3) := by decide +kernel
theorem dX7_wants_36 : decode cX7_wants 36 = .ok (.iconst 1, 1) := by decide +kernel
theorem dX7_wants_37 : decode cX7_wants 37 = .ok (.goto 4, 3) := by decide +kernel
theorem dX7_wants_40 : decode cX7_wants 40 = .ok (.iconst 0, 1) := by decide +kernel
theorem dX7_wants_41 : decode cX7_wants 41 = .ok (.iadd, 1) := by decide +kernel
theorem dX7_wants_42 : decode cX7_wants 42 = .ok (.putfield 175, 3) := by decide +kernel
theorem dX7_wants_45 : decode cX7_wants 45 = .ok (.return_, 1) := by decide +kernel
set_option maxRecDepth 20000 in
theorem ggX7_wants_X7_sign : GoodIn wsX7_wants wsX7_sign := goodIn_r _ [7, 2, 8, 9, 10, 11, 12, 13, 14, 15, 16, 17, 18, 19, 20, 21, 22, 23, 24, 25, 26, 27, 28, 29, 30, 31, 32, 33, 34, 35] (by decide +kernel) (by decide +kernel)
set_option maxRecDepth 20000 in
theorem gX7_wants_X7_sign : GoodIn wsX7_wants (wsV RX7 181 RX7 yX7_sign wsX7_sign) := goodIn_app (goodIn_of _ (by decide +kernel)) ggX7_wants_X7_sign
theorem kX7_wants_2 : Cond.fieldLink RX7 175 "BookedDetoursModel" "at" "I" ∈ wsX7_wants := List.mem_of_getElem? (i := 2) (by decide +kernel)
theorem kX7_wants_1 : Cond.fieldLink RX7 178 "BookedDetoursModel" "isWell" "Z" ∈ wsX7_wants := List.mem_of_getElem? (i := 1) (by decide +kernel)
theorem hX7_wants_X7 : ∀ w ∈ u_ws RX7 TX7 26, w ∈ wsX7_wants := fun _ h => List.mem_cons_of_mem _ (List.mem_append_right _ h)
set_option maxHeartbeats 4000000 in
set_option maxRecDepth 100000 in
theorem w_X7_wants_24 {Z : yZ} (g : yG) (M : Nat → Nat) (sg : Int32) (C : yC Z g cX7_wants 2 wsX7_wants RX7) {post : List va_W → Prop} (HR : yRv Z ({ frames := 1, cells := 0, slots := 0, locals := 20 } : Room) cX7_wants post 0 0)   {K : MV → Prop} (hK : ∀ (m : MV), K m → post ([modW g M m] : List va_W)) (m : MV) (h : wp_X7_wants_24 sg  K m) : yJ Z ({ frames := 1, cells := 0, slots := 0, locals := 20 } : Room) 0 0 ([modW g M m] : List va_W) 24 [(0, .ref (M 0))] [] := by
  unfold wp_X7_wants_24 at h
  refine y_aload_n C dX7_wants_24 0 rfl rfl ?_
  refine y_dup C dX7_wants_25 rfl ?_
  refine y_get (Cn := RX7) (T := TX7) (N := 26) (v := .int (m.1 22)) C dX7_wants_26 hX7_wants_X7 0 (sh_5000 g M m) rfl 22 (Nat.le_of_ble_eq_true rfl) kX7_wants_2 rfl ?_
  refine y_aload_n C dX7_wants_29 0 rfl rfl ?_
  refine y_get (Cn := RX7) (T := TX7) (N := 26) (v := .int (m.1 23)) C dX7_wants_30 hX7_wants_X7 0 (sh_5000 g M m) rfl 23 (Nat.le_of_ble_eq_true rfl) kX7_wants_1 rfl ?_
  refine y_if_eq (tgt := 40) C dX7_wants_33 rfl h (fun c33 h => ?_) (fun c33 h => ?_)
  · refine y_iconst (v := 0) C dX7_wants_40 (by decide) ?_
    refine y_iadd C dX7_wants_41 ?_
    obtain ⟨m1, em1⟩ : ∃ z : MV, z = mI m 22 ((m.1 22) + (0 : Int32)) := ⟨_, rfl⟩
    have h := y_letP h em1
    refine y_put (Cn := RX7) (T := TX7) (N := 26) (v := .int ((m.1 22) + (0 : Int32))) (ty0 := tyX7) (L1 := ([modW g M m1] : List va_W)) C dX7_wants_42 hX7_wants_X7 0 (sh_5000 g M m) rfl 22 (Nat.le_of_ble_eq_true rfl) kX7_wants_2 tyX7_ok nmX7 rfl rfl rfl (Nat.le_of_ble_eq_true rfl) (sh_5034 g M m ((m.1 22) + (0 : Int32)) m1 em1) ?_
    exact HR 45 dX7_wants_45 _ _ _ _ (Nat.le_of_ble_eq_true rfl) (Nat.le_of_ble_eq_true rfl) (hK _  h)
  · refine y_iconst (v := 1) C dX7_wants_36 (by decide) ?_
    refine y_goto (tgt := 41) C dX7_wants_37 rfl ?_
    refine y_iadd C dX7_wants_41 ?_
    obtain ⟨m2, em2⟩ : ∃ z : MV, z = mI m 22 ((m.1 22) + (1 : Int32)) := ⟨_, rfl⟩
    have h := y_letP h em2
    refine y_put (Cn := RX7) (T := TX7) (N := 26) (v := .int ((m.1 22) + (1 : Int32))) (ty0 := tyX7) (L1 := ([modW g M m2] : List va_W)) C dX7_wants_42 hX7_wants_X7 0 (sh_5000 g M m) rfl 22 (Nat.le_of_ble_eq_true rfl) kX7_wants_2 tyX7_ok nmX7 rfl rfl rfl (Nat.le_of_ble_eq_true rfl) (sh_5034 g M m ((m.1 22) + (1 : Int32)) m2 em2) ?_
    exact HR 45 dX7_wants_45 _ _ _ _ (Nat.le_of_ble_eq_true rfl) (Nat.le_of_ble_eq_true rfl) (hK _  h)
set_option maxHeartbeats 4000000 in
set_option maxRecDepth 100000 in
theorem t_X7_wants (g : yG) (M : Nat → Nat) (m : MV) (sg : Int32) {post : List va_W → Prop} {K : MV → Prop} (hK : ∀ (m : MV), K m → post ([modW g M m] : List va_W)) (hPO : PO_X7_wants sg K m ) : yMv g yX7_wants wsX7_wants ({ frames := 1, cells := 0, slots := 0, locals := 20 } : Room) [.ref (M 0), .int sg] ([modW g M m] : List va_W) post 0 0 := by
  refine y_entryV (cc := cX7_wants) (maxL := 2) (by decide +kernel) rfl (Nat.le_of_ble_eq_true rfl) (fun Z C _ HR => ?_)
  have C : yC Z g cX7_wants 2 wsX7_wants RX7 := C
  have h := hPO
  unfold PO_X7_wants wp_X7_wants_0 at h
  show yJ Z _ 0 0 _ 0 [(0, .ref (M 0)), (1, .int sg)] []
  refine y_aload_n C dX7_wants_0 0 rfl rfl ?_
  refine y_aload_n C dX7_wants_1 0 rfl rfl ?_
  refine y_get (Cn := RX7) (T := TX7) (N := 26) (v := .int (m.1 23)) C dX7_wants_2 hX7_wants_X7 0 (sh_5000 g M m) rfl 23 (Nat.le_of_ble_eq_true rfl) kX7_wants_1 rfl ?_
  refine y_if_eq (tgt := 20) C dX7_wants_5 rfl h (fun c5 h => ?_) (fun c5 h => ?_)
  · refine y_iconst (v := 0) C dX7_wants_20 (by decide) ?_
    obtain ⟨m1, em1⟩ : ∃ z : MV, z = mI m 23 (0 : Int32) := ⟨_, rfl⟩
    have h := y_letP h em1
    refine y_put (Cn := RX7) (T := TX7) (N := 26) (v := .int (0 : Int32)) (ty0 := tyX7) (L1 := ([modW g M m1] : List va_W)) C dX7_wants_21 hX7_wants_X7 0 (sh_5000 g M m) rfl 23 (Nat.le_of_ble_eq_true rfl) kX7_wants_1 tyX7_ok nmX7 rfl rfl rfl (Nat.le_of_ble_eq_true rfl) (sh_5033 g M m (0 : Int32) m1 em1) ?_
    refine y_sub (lv' := [(0, .ref (M 0))]) [0] rfl ?_
    exact w_X7_wants_24 g M sg C HR  hK _ h
  · refine y_aload_n C dX7_wants_8 0 rfl rfl ?_
    refine y_callV (As := []) (rest := [.ref (M 0)]) C dX7_wants_9 (u_X7_sign g M m h) rfl rfl rfl rfl ⟨Nat.le_of_ble_eq_true rfl, Nat.le_of_ble_eq_true rfl⟩ gX7_wants_X7_sign (nA := 0) (by decide +kernel) rfl (sh_5010 g M m) (Nat.le_of_ble_eq_true rfl) ⟨Nat.le_of_ble_eq_true rfl, Nat.le_of_ble_eq_true rfl⟩ [0] [] (nB := 1) rfl (by decide +kernel) (sh_5009 g M m) (fun r2 w9 hw => ?_)
    obtain ⟨h, rfl⟩ := hw
    refine ⟨([modW g M m] : List va_W), ⟨(sh_5009 g M m), rfl, rfl⟩, ?_⟩
    refine y_iload_n C dX7_wants_12 1 rfl rfl ?_
    refine y_icmp_ne (tgt := 20) C dX7_wants_13 rfl h (fun c13 h => ?_) (fun c13 h => ?_)
    · refine y_iconst (v := 0) C dX7_wants_20 (by decide) ?_
      obtain ⟨m3, em3⟩ : ∃ z : MV, z = mI m 23 (0 : Int32) := ⟨_, rfl⟩
      have h := y_letP h em3
      refine y_put (Cn := RX7) (T := TX7) (N := 26) (v := .int (0 : Int32)) (ty0 := tyX7) (L1 := ([modW g M m3] : List va_W)) C dX7_wants_21 hX7_wants_X7 0 (sh_5000 g M m) rfl 23 (Nat.le_of_ble_eq_true rfl) kX7_wants_1 tyX7_ok nmX7 rfl rfl rfl (Nat.le_of_ble_eq_true rfl) (sh_5033 g M m (0 : Int32) m3 em3) ?_
      refine y_sub (lv' := [(0, .ref (M 0))]) [0] rfl ?_
      exact w_X7_wants_24 g M sg C HR  hK _ h
    · refine y_iconst (v := 1) C dX7_wants_16 (by decide) ?_
      refine y_goto (tgt := 21) C dX7_wants_17 rfl ?_
      obtain ⟨m4, em4⟩ : ∃ z : MV, z = mI m 23 (1 : Int32) := ⟨_, rfl⟩
      have h := y_letP h em4
      refine y_put (Cn := RX7) (T := TX7) (N := 26) (v := .int (1 : Int32)) (ty0 := tyX7) (L1 := ([modW g M m4] : List va_W)) C dX7_wants_21 hX7_wants_X7 0 (sh_5000 g M m) rfl 23 (Nat.le_of_ble_eq_true rfl) kX7_wants_1 tyX7_ok nmX7 rfl rfl rfl (Nat.le_of_ble_eq_true rfl) (sh_5033 g M m (1 : Int32) m4 em4) ?_
      refine y_sub (lv' := [(0, .ref (M 0))]) [0] rfl ?_
      exact w_X7_wants_24 g M sg C HR  hK _ h
theorem u_X7_wants (g : yG) (M : Nat → Nat) (m : MV) (sg : Int32) {K : MV → Prop} (hPO : PO_X7_wants sg K m ) : yMv g yX7_wants wsX7_wants ({ frames := 1, cells := 0, slots := 0, locals := 20 } : Room) [.ref (M 0), .int sg] ([modW g M m] : List va_W) (fun w => ∃ m' : MV, K m' ∧ w = ([modW g M m'] : List va_W)) 0 0 :=
  t_X7_wants g M m sg (fun m hk => ⟨m, hk, rfl⟩) hPO
