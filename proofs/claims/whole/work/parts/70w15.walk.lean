theorem dX7_cancels_0 : decode cX7_cancels 0 = .ok (.aload_n 0, 1) := by decide +kernel
theorem dX7_cancels_1 : decode cX7_cancels 1 = .ok (.iload_n 1, 1) := by decide +kernel
theorem dX7_cancels_2 : decode cX7_cancels 2 = .ok (.invokevirtual 155, 3) := by decide +kernel
theorem dX7_cancels_5 : decode cX7_cancels 5 = .ok (.aload_n 0, 1) := by decide +kernel
theorem dX7_cancels_6 : decode cX7_cancels 6 = .ok (.iload_n 1, 1) := by decide +kernel
theorem dX7_cancels_7 : decode cX7_cancels 7 = .ok (.iconst 4, 1) := by decide +kernel
theorem dX7_cancels_8 : decode cX7_cancels 8 = .ok (.iconst 3, 1) := by decide +kernel
theorem dX7_cancels_9 : decode cX7_cancels 9 = .ok (.invokevirtual 103, 3) := by decide +kernel
theorem dX7_cancels_12 : decode cX7_cancels 12 = .ok (.return_, 1) := by decide +kernel
set_option maxRecDepth 20000 in
theorem ggX7_cancels_X7_leaves : GoodIn wsX7_cancels wsX7_leaves := goodIn_r _ [5, 6, 7, 8, 9, 4, 10, 11, 12, 13, 14, 15, 16, 17, 18, 19, 20, 21, 22, 23, 24, 25, 30, 31, 32, 33, 34, 35, 36, 37, 38, 39, 40, 41, 42, 43, 44, 45, 46, 47, 48, 49, 50, 51, 52, 53, 54, 55] (by decide +kernel) (by decide +kernel)
set_option maxRecDepth 20000 in
theorem gX7_cancels_X7_leaves : GoodIn wsX7_cancels (wsV RX7 155 RX7 yX7_leaves wsX7_leaves) := goodIn_app (goodIn_of _ (by decide +kernel)) ggX7_cancels_X7_leaves
set_option maxRecDepth 20000 in
theorem ggX7_cancels_X7_lay : GoodIn wsX7_cancels wsX7_lay := goodIn_r _ [29, 6, 30, 31, 32, 33, 34, 35, 36, 37, 38, 39, 40, 41, 42, 43, 44, 45, 46, 47, 48, 49, 50, 51, 52, 53, 54, 55] (by decide +kernel) (by decide +kernel)
set_option maxRecDepth 20000 in
theorem gX7_cancels_X7_lay : GoodIn wsX7_cancels (wsV RX7 103 RX7 yX7_lay wsX7_lay) := goodIn_app (goodIn_of _ (by decide +kernel)) ggX7_cancels_X7_lay
set_option maxHeartbeats 4000000 in
set_option maxRecDepth 100000 in
theorem t_X7_cancels (g : yG) (M : Nat → Nat) (m : MV) (ri : Int32) {post : List va_W → Prop} {K : MV → Prop} (hK : ∀ (m : MV), K m → post ([modW g M m] : List va_W)) (hPO : PO_X7_cancels ri K m ) : yMv g yX7_cancels wsX7_cancels ({ frames := 3, cells := 0, slots := 0, locals := 66 } : Room) [.ref (M 0), .int ri] ([modW g M m] : List va_W) post 0 0 := by
  refine y_entryV (cc := cX7_cancels) (maxL := 2) (by decide +kernel) rfl (Nat.le_of_ble_eq_true rfl) (fun Z C _ HR => ?_)
  have C : yC Z g cX7_cancels 2 wsX7_cancels RX7 := C
  have h := hPO
  unfold PO_X7_cancels wp_X7_cancels_0 at h
  show yJ Z _ 0 0 _ 0 [(0, .ref (M 0)), (1, .int ri)] []
  refine y_aload_n C dX7_cancels_0 0 rfl rfl ?_
  refine y_iload_n C dX7_cancels_1 1 rfl rfl ?_
  refine y_callVv (As := [.int ri]) (rest := []) C dX7_cancels_2 (u_X7_leaves g M m ri h) rfl rfl rfl rfl ⟨Nat.le_of_ble_eq_true rfl, Nat.le_of_ble_eq_true rfl⟩ gX7_cancels_X7_leaves (nA := 1) (by decide +kernel) rfl (sh_5010 g M m) (Nat.le_of_ble_eq_true rfl) ⟨Nat.le_of_ble_eq_true rfl, Nat.le_of_ble_eq_true rfl⟩ [0] [] (nB := 1) rfl (by decide +kernel) (sh_5009 g M m) (fun w9 hw => ?_)
  obtain ⟨m1, h, rfl⟩ := hw
  refine ⟨([modW g M m1] : List va_W), (sh_5023 g M m m1), ?_⟩
  refine y_aload_n C dX7_cancels_5 0 rfl rfl ?_
  refine y_iload_n C dX7_cancels_6 1 rfl rfl ?_
  refine y_iconst (v := 4) C dX7_cancels_7 (by decide) ?_
  refine y_iconst (v := 3) C dX7_cancels_8 (by decide) ?_
  refine y_callVv (As := [.int ri, .int (4 : Int32), .int (3 : Int32)]) (rest := []) C dX7_cancels_9 (u_X7_lay g M m1 ri (4 : Int32) (3 : Int32) h) rfl rfl rfl rfl ⟨Nat.le_of_ble_eq_true rfl, Nat.le_of_ble_eq_true rfl⟩ gX7_cancels_X7_lay (nA := 3) (by decide +kernel) rfl (sh_5010 g M m1) (Nat.le_of_ble_eq_true rfl) ⟨Nat.le_of_ble_eq_true rfl, Nat.le_of_ble_eq_true rfl⟩ [0] [] (nB := 1) rfl (by decide +kernel) (sh_5009 g M m1) (fun w9 hw => ?_)
  obtain ⟨m3, h, rfl⟩ := hw
  refine ⟨([modW g M m3] : List va_W), (sh_5023 g M m1 m3), ?_⟩
  exact HR 12 dX7_cancels_12 _ _ _ _ (Nat.le_of_ble_eq_true rfl) (Nat.le_of_ble_eq_true rfl) (hK _  h)
theorem u_X7_cancels (g : yG) (M : Nat → Nat) (m : MV) (ri : Int32) {K : MV → Prop} (hPO : PO_X7_cancels ri K m ) : yMv g yX7_cancels wsX7_cancels ({ frames := 3, cells := 0, slots := 0, locals := 66 } : Room) [.ref (M 0), .int ri] ([modW g M m] : List va_W) (fun w => ∃ m' : MV, K m' ∧ w = ([modW g M m'] : List va_W)) 0 0 :=
  t_X7_cancels g M m ri (fun m hk => ⟨m, hk, rfl⟩) hPO
theorem dX7_cancel_0 : decode cX7_cancel 0 = .ok (.aload_n 0, 1) := by decide +kernel
theorem dX7_cancel_1 : decode cX7_cancel 1 = .ok (.iconst 0, 1) := by decide +kernel
theorem dX7_cancel_2 : decode cX7_cancel 2 = .ok (.putfield 44, 3) := by decide +kernel
theorem dX7_cancel_5 : decode cX7_cancel 5 = .ok (.aload_n 0, 1) := by decide +kernel
theorem dX7_cancel_6 : decode cX7_cancel 6 = .ok (.iload_n 1, 1) := by decide +kernel
theorem dX7_cancel_7 : decode cX7_cancel 7 = .ok (.invokevirtual 158, 3) := by decide +kernel
theorem dX7_cancel_10 : decode cX7_cancel 10 = .ok (.ifCond .ne 5, 3) := by decide +kernel
theorem dX7_cancel_13 : decode cX7_cancel 13 = .ok (.iconst (-1), 1) := by decide +kernel
theorem dX7_cancel_14 : decode cX7_cancel 14 = .ok (.ireturn, 1) := by decide +kernel
theorem dX7_cancel_15 : decode cX7_cancel 15 = .ok (.aload_n 0, 1) := by decide +kernel
theorem dX7_cancel_16 : decode cX7_cancel 16 = .ok (.iload_n 1, 1) := by decide +kernel
theorem dX7_cancel_17 : decode cX7_cancel 17 = .ok (.iconst 4, 1) := by decide +kernel
theorem dX7_cancel_18 : decode cX7_cancel 18 = .ok (.invokevirtual 59, 3) := by decide +kernel
theorem dX7_cancel_21 : decode cX7_cancel 21 = .ok (.ifCond .eq 6, 3) := by decide +kernel
theorem dX7_cancel_24 : decode cX7_cancel 24 = .ok (.bipush (-5), 2) := by decide +kernel
theorem dX7_cancel_26 : decode cX7_cancel 26 = .ok (.ireturn, 1) := by decide +kernel
theorem dX7_cancel_27 : decode cX7_cancel 27 = .ok (.aload_n 0, 1) := by decide +kernel
theorem dX7_cancel_28 : decode cX7_cancel 28 = .ok (.invokevirtual 149, 3) := by decide +kernel
theorem dX7_cancel_31 : decode cX7_cancel 31 = .ok (.aload_n 0, 1) := by decide +kernel
theorem dX7_cancel_32 : decode cX7_cancel 32 = .ok (.iload_n 1, 1) := by decide +kernel
theorem dX7_cancel_33 : decode cX7_cancel 33 = .ok (.invokevirtual 161, 3) := by decide +kernel
theorem dX7_cancel_36 : decode cX7_cancel 36 = .ok (.aload_n 0, 1) := by decide +kernel
theorem dX7_cancel_37 : decode cX7_cancel 37 = .ok (.getfield 7, 3) := by decide +kernel
theorem dX7_cancel_40 : decode cX7_cancel 40 = .ok (.iconst 5, 1) := by decide +kernel
theorem dX7_cancel_41 : decode cX7_cancel 41 = .ok (.iaload, 1) := by decide +kernel
theorem dX7_cancel_42 : decode cX7_cancel 42 = .ok (.ireturn, 1) := by decide +kernel
set_option maxRecDepth 20000 in
theorem ggX7_cancel_X7_isRide : GoodIn wsX7_cancel wsX7_isRide := goodIn_r _ [7, 2, 8, 9, 6, 10, 48, 49, 50, 51, 52, 53, 54, 55, 56, 57, 58, 59, 60, 61, 62, 63, 64, 65, 66, 67, 68, 69, 70, 71, 72, 73] (by decide +kernel) (by decide +kernel)
set_option maxRecDepth 20000 in
theorem gX7_cancel_X7_isRide : GoodIn wsX7_cancel (wsV RX7 158 RX7 yX7_isRide wsX7_isRide) := goodIn_app (goodIn_of _ (by decide +kernel)) ggX7_cancel_X7_isRide
set_option maxRecDepth 20000 in
theorem ggX7_cancel_X7_of : GoodIn wsX7_cancel wsX7_of := goodIn_r _ [14, 2, 48, 49, 50, 51, 52, 53, 54, 55, 56, 57, 58, 59, 60, 61, 62, 63, 64, 65, 66, 67, 68, 69, 70, 71, 72, 73] (by decide +kernel) (by decide +kernel)
set_option maxRecDepth 20000 in
theorem gX7_cancel_X7_of : GoodIn wsX7_cancel (wsV RX7 59 RX7 yX7_of wsX7_of) := goodIn_app (goodIn_of _ (by decide +kernel)) ggX7_cancel_X7_of
set_option maxRecDepth 20000 in
theorem ggX7_cancel_X7_records : GoodIn wsX7_cancel wsX7_records := goodIn_r _ [18, 19, 20, 2, 48, 49, 50, 51, 52, 53, 54, 55, 56, 57, 58, 59, 60, 61, 62, 63, 64, 65, 66, 67, 68, 69, 70, 71, 72, 73] (by decide +kernel) (by decide +kernel)
set_option maxRecDepth 20000 in
theorem gX7_cancel_X7_records : GoodIn wsX7_cancel (wsV RX7 149 RX7 yX7_records wsX7_records) := goodIn_app (goodIn_of _ (by decide +kernel)) ggX7_cancel_X7_records
set_option maxRecDepth 20000 in
theorem ggX7_cancel_X7_cancels : GoodIn wsX7_cancel wsX7_cancels := goodIn_r _ [24, 25, 26, 27, 6, 28, 2, 29, 30, 31, 32, 33, 34, 35, 36, 11, 12, 13, 14, 37, 38, 39, 40, 41, 42, 43, 44, 45, 46, 47, 48, 49, 50, 51, 52, 53, 54, 55, 56, 57, 58, 59, 60, 61, 62, 63, 64, 65, 66, 67, 68, 69, 70, 71, 72, 73] (by decide +kernel) (by decide +kernel)
set_option maxRecDepth 20000 in
theorem gX7_cancel_X7_cancels : GoodIn wsX7_cancel (wsV RX7 161 RX7 yX7_cancels wsX7_cancels) := goodIn_app (goodIn_of _ (by decide +kernel)) ggX7_cancel_X7_cancels
theorem kX7_cancel_1 : Cond.fieldLink RX7 44 "BookedDetoursModel" "thrown" "I" ∈ wsX7_cancel := List.mem_of_getElem? (i := 1) (by decide +kernel)
theorem kX7_cancel_2 : Cond.fieldLink RX7 7 "BookedDetoursModel" "s" "[I" ∈ wsX7_cancel := List.mem_of_getElem? (i := 2) (by decide +kernel)
theorem hX7_cancel_X7 : ∀ w ∈ u_ws RX7 TX7 26, w ∈ wsX7_cancel := fun _ h => List.mem_cons_of_mem _ (List.mem_append_right _ h)
set_option maxHeartbeats 4000000 in
set_option maxRecDepth 100000 in
theorem t_X7_cancel (g : yG) (M : Nat → Nat) (m : MV) (ri : Int32) {post : Int32 → List va_W → Prop} {K : Int32 → MV → Prop} (hK : ∀ (r0 : Int32) (m : MV), K r0 m → post r0 ([modW g M m] : List va_W)) (hPO : PO_X7_cancel ri K m ) : yM g yX7_cancel wsX7_cancel ({ frames := 4, cells := 0, slots := 0, locals := 87 } : Room) [.ref (M 0), .int ri] ([modW g M m] : List va_W) post 0 0 := by
  refine y_entryI (cc := cX7_cancel) (maxL := 2) (by decide +kernel) rfl (Nat.le_of_ble_eq_true rfl) (fun Z C HR => ?_)
  have C : yC Z g cX7_cancel 2 wsX7_cancel RX7 := C
  have h := hPO
  unfold PO_X7_cancel wp_X7_cancel_0 at h
  show yJ Z _ 0 0 _ 0 [(0, .ref (M 0)), (1, .int ri)] []
  refine y_aload_n C dX7_cancel_0 0 rfl rfl ?_
  refine y_iconst (v := 0) C dX7_cancel_1 (by decide) ?_
  obtain ⟨m1, em1⟩ : ∃ z : MV, z = mI m 0 (0 : Int32) := ⟨_, rfl⟩
  have h := y_letP h em1
  refine y_put (Cn := RX7) (T := TX7) (N := 26) (v := .int (0 : Int32)) (ty0 := tyX7) (L1 := ([modW g M m1] : List va_W)) C dX7_cancel_2 hX7_cancel_X7 0 (sh_5000 g M m) rfl 0 (Nat.le_of_ble_eq_true rfl) kX7_cancel_1 tyX7_ok nmX7 rfl rfl rfl (Nat.le_of_ble_eq_true rfl) (sh_5029 g M m (0 : Int32) m1 em1) ?_
  refine y_aload_n C dX7_cancel_5 0 rfl rfl ?_
  refine y_iload_n C dX7_cancel_6 1 rfl rfl ?_
  refine y_callV (As := [.int ri]) (rest := []) C dX7_cancel_7 (u_X7_isRide g M m1 ri h) rfl rfl rfl rfl ⟨Nat.le_of_ble_eq_true rfl, Nat.le_of_ble_eq_true rfl⟩ gX7_cancel_X7_isRide (nA := 1) (by decide +kernel) rfl (sh_5010 g M m1) (Nat.le_of_ble_eq_true rfl) ⟨Nat.le_of_ble_eq_true rfl, Nat.le_of_ble_eq_true rfl⟩ [0] [] (nB := 1) rfl (by decide +kernel) (sh_5009 g M m1) (fun r2 w9 hw => ?_)
  obtain ⟨h, rfl⟩ := hw
  refine ⟨([modW g M m1] : List va_W), ⟨(sh_5009 g M m1), rfl, rfl⟩, ?_⟩
  refine y_if_ne (tgt := 15) C dX7_cancel_10 rfl h (fun c10 h => ?_) (fun c10 h => ?_)
  · refine y_aload_n C dX7_cancel_15 0 rfl rfl ?_
    refine y_iload_n C dX7_cancel_16 1 rfl rfl ?_
    refine y_iconst (v := 4) C dX7_cancel_17 (by decide) ?_
    refine y_callV (As := [.int ri, .int (4 : Int32)]) (rest := []) C dX7_cancel_18 (u_X7_of g M m1 ri (4 : Int32) h) rfl rfl rfl rfl ⟨Nat.le_of_ble_eq_true rfl, Nat.le_of_ble_eq_true rfl⟩ gX7_cancel_X7_of (nA := 2) (by decide +kernel) rfl (sh_5010 g M m1) (Nat.le_of_ble_eq_true rfl) ⟨Nat.le_of_ble_eq_true rfl, Nat.le_of_ble_eq_true rfl⟩ [0] [] (nB := 1) rfl (by decide +kernel) (sh_5009 g M m1) (fun r3 w9 hw => ?_)
    obtain ⟨h, rfl⟩ := hw
    refine ⟨([modW g M m1] : List va_W), ⟨(sh_5009 g M m1), rfl, rfl⟩, ?_⟩
    refine y_if_eq (tgt := 27) C dX7_cancel_21 rfl h (fun c21 h => ?_) (fun c21 h => ?_)
    · refine y_aload_n C dX7_cancel_27 0 rfl rfl ?_
      refine y_callVv (As := []) (rest := []) C dX7_cancel_28 (u_X7_records g M m1 h) rfl rfl rfl rfl ⟨Nat.le_of_ble_eq_true rfl, Nat.le_of_ble_eq_true rfl⟩ gX7_cancel_X7_records (nA := 0) (by decide +kernel) rfl (sh_5010 g M m1) (Nat.le_of_ble_eq_true rfl) ⟨Nat.le_of_ble_eq_true rfl, Nat.le_of_ble_eq_true rfl⟩ [0] [] (nB := 1) rfl (by decide +kernel) (sh_5009 g M m1) (fun w9 hw => ?_)
      obtain ⟨m4, h, rfl⟩ := hw
      refine ⟨([modW g M m4] : List va_W), (sh_5023 g M m1 m4), ?_⟩
      refine y_aload_n C dX7_cancel_31 0 rfl rfl ?_
      refine y_iload_n C dX7_cancel_32 1 rfl rfl ?_
      refine y_callVv (As := [.int ri]) (rest := []) C dX7_cancel_33 (u_X7_cancels g M m4 ri h) rfl rfl rfl rfl ⟨Nat.le_of_ble_eq_true rfl, Nat.le_of_ble_eq_true rfl⟩ gX7_cancel_X7_cancels (nA := 1) (by decide +kernel) rfl (sh_5010 g M m4) (Nat.le_of_ble_eq_true rfl) ⟨Nat.le_of_ble_eq_true rfl, Nat.le_of_ble_eq_true rfl⟩ [0] [] (nB := 1) rfl (by decide +kernel) (sh_5009 g M m4) (fun w9 hw => ?_)
      obtain ⟨m6, h, rfl⟩ := hw
      refine ⟨([modW g M m6] : List va_W), (sh_5023 g M m4 m6), ?_⟩
      refine y_aload_n C dX7_cancel_36 0 rfl rfl ?_
      refine y_get (Cn := RX7) (T := TX7) (N := 26) (v := .ref (M 1)) C dX7_cancel_37 hX7_cancel_X7 0 (sh_5000 g M m6) rfl 1 (Nat.le_of_ble_eq_true rfl) kX7_cancel_2 rfl ?_
      refine y_iconst (v := 5) C dX7_cancel_40 (by decide) ?_
      obtain ⟨hb8, h⟩ := h
      refine y_iald (N := 186) (f := (m6.2 1)) C dX7_cancel_41 1 (sh_5001 g M m6) hb8 ?_
      exact HR 42 dX7_cancel_42 ((m6.2 1) (5 : Int32).toNatClampNeg) _ _ _ _ (rfl) (Nat.le_of_ble_eq_true rfl) (Nat.le_of_ble_eq_true rfl) (hK _ _  h)
    · refine y_bipush (v := -5) C dX7_cancel_24 (by decide) ?_
      exact HR 26 dX7_cancel_26 (-5 : Int32) _ _ _ _ (rfl) (Nat.le_of_ble_eq_true rfl) (Nat.le_of_ble_eq_true rfl) (hK _ _  h)
  · refine y_iconst (v := -1) C dX7_cancel_13 (by decide) ?_
    exact HR 14 dX7_cancel_14 (-1 : Int32) _ _ _ _ (rfl) (Nat.le_of_ble_eq_true rfl) (Nat.le_of_ble_eq_true rfl) (hK _ _  h)
theorem u_X7_cancel (g : yG) (M : Nat → Nat) (m : MV) (ri : Int32) {K : Int32 → MV → Prop} (hPO : PO_X7_cancel ri K m ) : yM g yX7_cancel wsX7_cancel ({ frames := 4, cells := 0, slots := 0, locals := 87 } : Room) [.ref (M 0), .int ri] ([modW g M m] : List va_W) (fun r w => ∃ m' : MV, K r m' ∧ w = ([modW g M m'] : List va_W)) 0 0 :=
  t_X7_cancel g M m ri (fun r0 m hk => ⟨m, hk, rfl⟩) hPO
theorem dX7_miss_0 : decode cX7_miss 0 = .ok (.aload_n 0, 1) := by decide +kernel
theorem dX7_miss_1 : decode cX7_miss 1 = .ok (.iconst 0, 1) := by decide +kernel
theorem dX7_miss_2 : decode cX7_miss 2 = .ok (.putfield 44, 3) := by decide +kernel
theorem dX7_miss_5 : decode cX7_miss 5 = .ok (.aload_n 0, 1) := by decide +kernel
theorem dX7_miss_6 : decode cX7_miss 6 = .ok (.iload_n 1, 1) := by decide +kernel
theorem dX7_miss_7 : decode cX7_miss 7 = .ok (.invokevirtual 158, 3) := by decide +kernel
theorem dX7_miss_10 : decode cX7_miss 10 = .ok (.ifCond .ne 5, 3) := by decide +kernel
theorem dX7_miss_13 : decode cX7_miss 13 = .ok (.iconst (-1), 1) := by decide +kernel
theorem dX7_miss_14 : decode cX7_miss 14 = .ok (.ireturn, 1) := by decide +kernel
theorem dX7_miss_15 : decode cX7_miss 15 = .ok (.aload_n 0, 1) := by decide +kernel
theorem dX7_miss_16 : decode cX7_miss 16 = .ok (.iload_n 1, 1) := by decide +kernel
theorem dX7_miss_17 : decode cX7_miss 17 = .ok (.iconst 4, 1) := by decide +kernel
theorem dX7_miss_18 : decode cX7_miss 18 = .ok (.invokevirtual 59, 3) := by decide +kernel
theorem dX7_miss_21 : decode cX7_miss 21 = .ok (.iconst 1, 1) := by decide +kernel
theorem dX7_miss_22 : decode cX7_miss 22 = .ok (.if_icmp .eq 6, 3) := by decide +kernel
theorem dX7_miss_25 : decode cX7_miss 25 = .ok (.bipush (-5), 2) := by decide +kernel
theorem dX7_miss_27 : decode cX7_miss 27 = .ok (.ireturn, 1) := by decide +kernel
theorem dX7_miss_28 : decode cX7_miss 28 = .ok (.aload_n 0, 1) := by decide +kernel
theorem dX7_miss_29 : decode cX7_miss 29 = .ok (.invokevirtual 149, 3) := by decide +kernel
theorem dX7_miss_32 : decode cX7_miss 32 = .ok (.aload_n 0, 1) := by decide +kernel
theorem dX7_miss_33 : decode cX7_miss 33 = .ok (.iload_n 1, 1) := by decide +kernel
theorem dX7_miss_34 : decode cX7_miss 34 = .ok (.invokevirtual 155, 3) := by decide +kernel
theorem dX7_miss_37 : decode cX7_miss 37 = .ok (.aload_n 0, 1) := by decide +kernel
theorem dX7_miss_38 : decode cX7_miss 38 = .ok (.iload_n 1, 1) := by decide +kernel
theorem dX7_miss_39 : decode cX7_miss 39 = .ok (.iconst 4, 1) := by decide +kernel
theorem dX7_miss_40 : decode cX7_miss 40 = .ok (.iconst 4, 1) := by decide +kernel
theorem dX7_miss_41 : decode cX7_miss 41 = .ok (.invokevirtual 103, 3) := by decide +kernel
theorem dX7_miss_44 : decode cX7_miss 44 = .ok (.aload_n 0, 1) := by decide +kernel
theorem dX7_miss_45 : decode cX7_miss 45 = .ok (.getfield 7, 3) := by decide +kernel
theorem dX7_miss_48 : decode cX7_miss 48 = .ok (.iconst 5, 1) := by decide +kernel
theorem dX7_miss_49 : decode cX7_miss 49 = .ok (.iaload, 1) := by decide +kernel
theorem dX7_miss_50 : decode cX7_miss 50 = .ok (.ireturn, 1) := by decide +kernel
set_option maxRecDepth 20000 in
theorem ggX7_miss_X7_isRide : GoodIn wsX7_miss wsX7_isRide := goodIn_r _ [7, 2, 8, 9, 6, 10, 44, 45, 46, 47, 48, 49, 50, 51, 52, 53, 54, 55, 56, 57, 58, 59, 60, 61, 62, 63, 64, 65, 66, 67, 68, 69] (by decide +kernel) (by decide +kernel)
set_option maxRecDepth 20000 in
theorem gX7_miss_X7_isRide : GoodIn wsX7_miss (wsV RX7 158 RX7 yX7_isRide wsX7_isRide) := goodIn_app (goodIn_of _ (by decide +kernel)) ggX7_miss_X7_isRide
set_option maxRecDepth 20000 in
theorem ggX7_miss_X7_of : GoodIn wsX7_miss wsX7_of := goodIn_r _ [14, 2, 44, 45, 46, 47, 48, 49, 50, 51, 52, 53, 54, 55, 56, 57, 58, 59, 60, 61, 62, 63, 64, 65, 66, 67, 68, 69] (by decide +kernel) (by decide +kernel)
set_option maxRecDepth 20000 in
theorem gX7_miss_X7_of : GoodIn wsX7_miss (wsV RX7 59 RX7 yX7_of wsX7_of) := goodIn_app (goodIn_of _ (by decide +kernel)) ggX7_miss_X7_of
set_option maxRecDepth 20000 in
theorem ggX7_miss_X7_records : GoodIn wsX7_miss wsX7_records := goodIn_r _ [18, 19, 20, 2, 44, 45, 46, 47, 48, 49, 50, 51, 52, 53, 54, 55, 56, 57, 58, 59, 60, 61, 62, 63, 64, 65, 66, 67, 68, 69] (by decide +kernel) (by decide +kernel)
set_option maxRecDepth 20000 in
theorem gX7_miss_X7_records : GoodIn wsX7_miss (wsV RX7 149 RX7 yX7_records wsX7_records) := goodIn_app (goodIn_of _ (by decide +kernel)) ggX7_miss_X7_records
set_option maxRecDepth 20000 in
theorem ggX7_miss_X7_leaves : GoodIn wsX7_miss wsX7_leaves := goodIn_r _ [24, 2, 25, 26, 27, 6, 28, 29, 30, 31, 32, 11, 12, 13, 14, 33, 34, 35, 36, 37, 38, 39, 44, 45, 46, 47, 48, 49, 50, 51, 52, 53, 54, 55, 56, 57, 58, 59, 60, 61, 62, 63, 64, 65, 66, 67, 68, 69] (by decide +kernel) (by decide +kernel)
set_option maxRecDepth 20000 in
theorem gX7_miss_X7_leaves : GoodIn wsX7_miss (wsV RX7 155 RX7 yX7_leaves wsX7_leaves) := goodIn_app (goodIn_of _ (by decide +kernel)) ggX7_miss_X7_leaves
set_option maxRecDepth 20000 in
theorem ggX7_miss_X7_lay : GoodIn wsX7_miss wsX7_lay := goodIn_r _ [43, 2, 44, 45, 46, 47, 48, 49, 50, 51, 52, 53, 54, 55, 56, 57, 58, 59, 60, 61, 62, 63, 64, 65, 66, 67, 68, 69] (by decide +kernel) (by decide +kernel)
set_option maxRecDepth 20000 in
theorem gX7_miss_X7_lay : GoodIn wsX7_miss (wsV RX7 103 RX7 yX7_lay wsX7_lay) := goodIn_app (goodIn_of _ (by decide +kernel)) ggX7_miss_X7_lay
theorem kX7_miss_1 : Cond.fieldLink RX7 44 "BookedDetoursModel" "thrown" "I" ∈ wsX7_miss := List.mem_of_getElem? (i := 1) (by decide +kernel)
theorem kX7_miss_2 : Cond.fieldLink RX7 7 "BookedDetoursModel" "s" "[I" ∈ wsX7_miss := List.mem_of_getElem? (i := 2) (by decide +kernel)
theorem hX7_miss_X7 : ∀ w ∈ u_ws RX7 TX7 26, w ∈ wsX7_miss := fun _ h => List.mem_cons_of_mem _ (List.mem_append_right _ h)
set_option maxHeartbeats 4000000 in
set_option maxRecDepth 100000 in
theorem t_X7_miss (g : yG) (M : Nat → Nat) (m : MV) (ri : Int32) {post : Int32 → List va_W → Prop} {K : Int32 → MV → Prop} (hK : ∀ (r0 : Int32) (m : MV), K r0 m → post r0 ([modW g M m] : List va_W)) (hPO : PO_X7_miss ri K m ) : yM g yX7_miss wsX7_miss ({ frames := 3, cells := 0, slots := 0, locals := 66 } : Room) [.ref (M 0), .int ri] ([modW g M m] : List va_W) post 0 0 := by
  refine y_entryI (cc := cX7_miss) (maxL := 2) (by decide +kernel) rfl (Nat.le_of_ble_eq_true rfl) (fun Z C HR => ?_)
  have C : yC Z g cX7_miss 2 wsX7_miss RX7 := C
  have h := hPO
  unfold PO_X7_miss wp_X7_miss_0 at h
  show yJ Z _ 0 0 _ 0 [(0, .ref (M 0)), (1, .int ri)] []
  refine y_aload_n C dX7_miss_0 0 rfl rfl ?_
  refine y_iconst (v := 0) C dX7_miss_1 (by decide) ?_
  obtain ⟨m1, em1⟩ : ∃ z : MV, z = mI m 0 (0 : Int32) := ⟨_, rfl⟩
  have h := y_letP h em1
  refine y_put (Cn := RX7) (T := TX7) (N := 26) (v := .int (0 : Int32)) (ty0 := tyX7) (L1 := ([modW g M m1] : List va_W)) C dX7_miss_2 hX7_miss_X7 0 (sh_5000 g M m) rfl 0 (Nat.le_of_ble_eq_true rfl) kX7_miss_1 tyX7_ok nmX7 rfl rfl rfl (Nat.le_of_ble_eq_true rfl) (sh_5029 g M m (0 : Int32) m1 em1) ?_
  refine y_aload_n C dX7_miss_5 0 rfl rfl ?_
  refine y_iload_n C dX7_miss_6 1 rfl rfl ?_
  refine y_callV (As := [.int ri]) (rest := []) C dX7_miss_7 (u_X7_isRide g M m1 ri h) rfl rfl rfl rfl ⟨Nat.le_of_ble_eq_true rfl, Nat.le_of_ble_eq_true rfl⟩ gX7_miss_X7_isRide (nA := 1) (by decide +kernel) rfl (sh_5010 g M m1) (Nat.le_of_ble_eq_true rfl) ⟨Nat.le_of_ble_eq_true rfl, Nat.le_of_ble_eq_true rfl⟩ [0] [] (nB := 1) rfl (by decide +kernel) (sh_5009 g M m1) (fun r2 w9 hw => ?_)
  obtain ⟨h, rfl⟩ := hw
  refine ⟨([modW g M m1] : List va_W), ⟨(sh_5009 g M m1), rfl, rfl⟩, ?_⟩
  refine y_if_ne (tgt := 15) C dX7_miss_10 rfl h (fun c10 h => ?_) (fun c10 h => ?_)
  · refine y_aload_n C dX7_miss_15 0 rfl rfl ?_
    refine y_iload_n C dX7_miss_16 1 rfl rfl ?_
    refine y_iconst (v := 4) C dX7_miss_17 (by decide) ?_
    refine y_callV (As := [.int ri, .int (4 : Int32)]) (rest := []) C dX7_miss_18 (u_X7_of g M m1 ri (4 : Int32) h) rfl rfl rfl rfl ⟨Nat.le_of_ble_eq_true rfl, Nat.le_of_ble_eq_true rfl⟩ gX7_miss_X7_of (nA := 2) (by decide +kernel) rfl (sh_5010 g M m1) (Nat.le_of_ble_eq_true rfl) ⟨Nat.le_of_ble_eq_true rfl, Nat.le_of_ble_eq_true rfl⟩ [0] [] (nB := 1) rfl (by decide +kernel) (sh_5009 g M m1) (fun r3 w9 hw => ?_)
    obtain ⟨h, rfl⟩ := hw
    refine ⟨([modW g M m1] : List va_W), ⟨(sh_5009 g M m1), rfl, rfl⟩, ?_⟩
    refine y_iconst (v := 1) C dX7_miss_21 (by decide) ?_
    refine y_icmp_eq (tgt := 28) C dX7_miss_22 rfl h (fun c22 h => ?_) (fun c22 h => ?_)
    · refine y_aload_n C dX7_miss_28 0 rfl rfl ?_
      refine y_callVv (As := []) (rest := []) C dX7_miss_29 (u_X7_records g M m1 h) rfl rfl rfl rfl ⟨Nat.le_of_ble_eq_true rfl, Nat.le_of_ble_eq_true rfl⟩ gX7_miss_X7_records (nA := 0) (by decide +kernel) rfl (sh_5010 g M m1) (Nat.le_of_ble_eq_true rfl) ⟨Nat.le_of_ble_eq_true rfl, Nat.le_of_ble_eq_true rfl⟩ [0] [] (nB := 1) rfl (by decide +kernel) (sh_5009 g M m1) (fun w9 hw => ?_)
      obtain ⟨m4, h, rfl⟩ := hw
      refine ⟨([modW g M m4] : List va_W), (sh_5023 g M m1 m4), ?_⟩
      refine y_aload_n C dX7_miss_32 0 rfl rfl ?_
      refine y_iload_n C dX7_miss_33 1 rfl rfl ?_
      refine y_callVv (As := [.int ri]) (rest := []) C dX7_miss_34 (u_X7_leaves g M m4 ri h) rfl rfl rfl rfl ⟨Nat.le_of_ble_eq_true rfl, Nat.le_of_ble_eq_true rfl⟩ gX7_miss_X7_leaves (nA := 1) (by decide +kernel) rfl (sh_5010 g M m4) (Nat.le_of_ble_eq_true rfl) ⟨Nat.le_of_ble_eq_true rfl, Nat.le_of_ble_eq_true rfl⟩ [0] [] (nB := 1) rfl (by decide +kernel) (sh_5009 g M m4) (fun w9 hw => ?_)
      obtain ⟨m6, h, rfl⟩ := hw
      refine ⟨([modW g M m6] : List va_W), (sh_5023 g M m4 m6), ?_⟩
      refine y_aload_n C dX7_miss_37 0 rfl rfl ?_
      refine y_iload_n C dX7_miss_38 1 rfl rfl ?_
      refine y_iconst (v := 4) C dX7_miss_39 (by decide) ?_
      refine y_iconst (v := 4) C dX7_miss_40 (by decide) ?_
      refine y_callVv (As := [.int ri, .int (4 : Int32), .int (4 : Int32)]) (rest := []) C dX7_miss_41 (u_X7_lay g M m6 ri (4 : Int32) (4 : Int32) h) rfl rfl rfl rfl ⟨Nat.le_of_ble_eq_true rfl, Nat.le_of_ble_eq_true rfl⟩ gX7_miss_X7_lay (nA := 3) (by decide +kernel) rfl (sh_5010 g M m6) (Nat.le_of_ble_eq_true rfl) ⟨Nat.le_of_ble_eq_true rfl, Nat.le_of_ble_eq_true rfl⟩ [0] [] (nB := 1) rfl (by decide +kernel) (sh_5009 g M m6) (fun w9 hw => ?_)
      obtain ⟨m8, h, rfl⟩ := hw
      refine ⟨([modW g M m8] : List va_W), (sh_5023 g M m6 m8), ?_⟩
      refine y_aload_n C dX7_miss_44 0 rfl rfl ?_
      refine y_get (Cn := RX7) (T := TX7) (N := 26) (v := .ref (M 1)) C dX7_miss_45 hX7_miss_X7 0 (sh_5000 g M m8) rfl 1 (Nat.le_of_ble_eq_true rfl) kX7_miss_2 rfl ?_
      refine y_iconst (v := 5) C dX7_miss_48 (by decide) ?_
      obtain ⟨hb10, h⟩ := h
      refine y_iald (N := 186) (f := (m8.2 1)) C dX7_miss_49 1 (sh_5001 g M m8) hb10 ?_
      exact HR 50 dX7_miss_50 ((m8.2 1) (5 : Int32).toNatClampNeg) _ _ _ _ (rfl) (Nat.le_of_ble_eq_true rfl) (Nat.le_of_ble_eq_true rfl) (hK _ _  h)
    · refine y_bipush (v := -5) C dX7_miss_25 (by decide) ?_
      exact HR 27 dX7_miss_27 (-5 : Int32) _ _ _ _ (rfl) (Nat.le_of_ble_eq_true rfl) (Nat.le_of_ble_eq_true rfl) (hK _ _  h)
  · refine y_iconst (v := -1) C dX7_miss_13 (by decide) ?_
    exact HR 14 dX7_miss_14 (-1 : Int32) _ _ _ _ (rfl) (Nat.le_of_ble_eq_true rfl) (Nat.le_of_ble_eq_true rfl) (hK _ _  h)
theorem u_X7_miss (g : yG) (M : Nat → Nat) (m : MV) (ri : Int32) {K : Int32 → MV → Prop} (hPO : PO_X7_miss ri K m ) : yM g yX7_miss wsX7_miss ({ frames := 3, cells := 0, slots := 0, locals := 66 } : Room) [.ref (M 0), .int ri] ([modW g M m] : List va_W) (fun r w => ∃ m' : MV, K r m' ∧ w = ([modW g M m'] : List va_W)) 0 0 :=
  t_X7_miss g M m ri (fun r0 m hk => ⟨m, hk, rfl⟩) hPO
