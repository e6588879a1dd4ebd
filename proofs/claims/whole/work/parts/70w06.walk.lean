theorem dX7_laysRoute_0 : decode cX7_laysRoute 0 = .ok (.aload_n 0, 1) := by decide +kernel
theorem dX7_laysRoute_1 : decode cX7_laysRoute 1 = .ok (.aload_n 0, 1) := by decide +kernel
theorem dX7_laysRoute_2 : decode cX7_laysRoute 2 = .ok (.getfield 7, 3) := by decide +kernel
theorem dX7_laysRoute_5 : decode cX7_laysRoute 5 = .ok (.iconst 5, 1) := by decide +kernel
theorem dX7_laysRoute_6 : decode cX7_laysRoute 6 = .ok (.iaload, 1) := by decide +kernel
theorem dX7_laysRoute_7 : decode cX7_laysRoute 7 = .ok (.putfield 65, 3) := by decide +kernel
theorem dX7_laysRoute_10 : decode cX7_laysRoute 10 = .ok (.iconst 0, 1) := by decide +kernel
theorem dX7_laysRoute_11 : decode cX7_laysRoute 11 = .ok (.istore_n 1, 1) := by decide +kernel
theorem dX7_laysRoute_12 : decode cX7_laysRoute 12 = .ok (.iload_n 1, 1) := by decide +kernel
theorem dX7_laysRoute_13 : decode cX7_laysRoute 13 = .ok (.aload_n 0, 1) := by decide +kernel
theorem dX7_laysRoute_14 : decode cX7_laysRoute 14 = .ok (.getfield 65, 3) := by decide +kernel
theorem dX7_laysRoute_17 : decode cX7_laysRoute 17 = .ok (.if_icmp .ge 25, 3) := by decide +kernel
theorem dX7_laysRoute_20 : decode cX7_laysRoute 20 = .ok (.aload_n 0, 1) := by decide +kernel
theorem dX7_laysRoute_21 : decode cX7_laysRoute 21 = .ok (.getfield 29, 3) := by decide +kernel
theorem dX7_laysRoute_24 : decode cX7_laysRoute 24 = .ok (.iload_n 1, 1) := by decide +kernel
theorem dX7_laysRoute_25 : decode cX7_laysRoute 25 = .ok (.aload_n 0, 1) := by decide +kernel
theorem dX7_laysRoute_26 : decode cX7_laysRoute 26 = .ok (.getfield 7, 3) := by decide +kernel
theorem dX7_laysRoute_29 : decode cX7_laysRoute 29 = .ok (.sipush 152, 3) := by decide +kernel
theorem dX7_laysRoute_32 : decode cX7_laysRoute 32 = .ok (.iload_n 1, 1) := by decide +kernel
theorem dX7_laysRoute_33 : decode cX7_laysRoute 33 = .ok (.iadd, 1) := by decide +kernel
theorem dX7_laysRoute_34 : decode cX7_laysRoute 34 = .ok (.iaload, 1) := by decide +kernel
theorem dX7_laysRoute_35 : decode cX7_laysRoute 35 = .ok (.iastore, 1) := by decide +kernel
theorem dX7_laysRoute_36 : decode cX7_laysRoute 36 = .ok (.iinc 1 1, 3) := by decide +kernel
theorem dX7_laysRoute_39 : decode cX7_laysRoute 39 = .ok (.goto (-27), 3) := by decide +kernel
theorem dX7_laysRoute_42 : decode cX7_laysRoute 42 = .ok (.return_, 1) := by decide +kernel
theorem kX7_laysRoute_2 : Cond.fieldLink RX7 65 "BookedDetoursModel" "wayMany" "I" ∈ wsX7_laysRoute := List.mem_of_getElem? (i := 2) (by decide +kernel)
theorem kX7_laysRoute_3 : Cond.fieldLink RX7 29 "BookedDetoursModel" "way" "[I" ∈ wsX7_laysRoute := List.mem_of_getElem? (i := 3) (by decide +kernel)
theorem kX7_laysRoute_1 : Cond.fieldLink RX7 7 "BookedDetoursModel" "s" "[I" ∈ wsX7_laysRoute := List.mem_of_getElem? (i := 1) (by decide +kernel)
theorem hX7_laysRoute_X7 : ∀ w ∈ u_ws RX7 TX7 26, w ∈ wsX7_laysRoute := fun _ h => List.mem_cons_of_mem _ (List.mem_append_right _ h)
set_option maxHeartbeats 4000000 in
set_option maxRecDepth 100000 in
theorem w_X7_laysRoute_12 {Z : yZ} (g : yG) (M : Nat → Nat) (C : yC Z g cX7_laysRoute 2 wsX7_laysRoute RX7) {post : List va_W → Prop} (HR : yRv Z ({ frames := 0, cells := 0, slots := 0, locals := 0 } : Room) cX7_laysRoute post 0 0) {X12 : MV → Int32 → Prop} (hX12 : ∀ (m : MV) (x1 : Int32), X12 m x1 → yJ Z ({ frames := 0, cells := 0, slots := 0, locals := 0 } : Room) 0 0 ([modW g M m] : List va_W) 12 [(0, .ref (M 0)), (1, .int x1)] []) {K : MV → Prop} (hK : ∀ (m : MV), K m → post ([modW g M m] : List va_W)) (m : MV) (x1 : Int32) (h : wp_X7_laysRoute_12  X12 K m x1) : yJ Z ({ frames := 0, cells := 0, slots := 0, locals := 0 } : Room) 0 0 ([modW g M m] : List va_W) 12 [(0, .ref (M 0)), (1, .int x1)] [] := by
  unfold wp_X7_laysRoute_12 at h
  refine y_iload_n C dX7_laysRoute_12 1 rfl rfl ?_
  refine y_aload_n C dX7_laysRoute_13 0 rfl rfl ?_
  refine y_get (Cn := RX7) (T := TX7) (N := 26) (v := .int (m.1 10)) C dX7_laysRoute_14 hX7_laysRoute_X7 0 (sh_5000 g M m) rfl 10 (Nat.le_of_ble_eq_true rfl) kX7_laysRoute_2 rfl ?_
  refine y_icmp_ge (tgt := 42) C dX7_laysRoute_17 rfl h (fun c17 h => ?_) (fun c17 h => ?_)
  · exact HR 42 dX7_laysRoute_42 _ _ _ _ (Nat.le_of_ble_eq_true rfl) (Nat.le_of_ble_eq_true rfl) (hK _  h)
  · refine y_aload_n C dX7_laysRoute_20 0 rfl rfl ?_
    refine y_get (Cn := RX7) (T := TX7) (N := 26) (v := .ref (M 7)) C dX7_laysRoute_21 hX7_laysRoute_X7 0 (sh_5000 g M m) rfl 9 (Nat.le_of_ble_eq_true rfl) kX7_laysRoute_3 rfl ?_
    refine y_iload_n C dX7_laysRoute_24 1 rfl rfl ?_
    refine y_aload_n C dX7_laysRoute_25 0 rfl rfl ?_
    refine y_get (Cn := RX7) (T := TX7) (N := 26) (v := .ref (M 1)) C dX7_laysRoute_26 hX7_laysRoute_X7 0 (sh_5000 g M m) rfl 1 (Nat.le_of_ble_eq_true rfl) kX7_laysRoute_1 rfl ?_
    refine y_sipush (v := 152) C dX7_laysRoute_29 (by decide) ?_
    refine y_iload_n C dX7_laysRoute_32 1 rfl rfl ?_
    refine y_iadd C dX7_laysRoute_33 ?_
    obtain ⟨hb1, h⟩ := h
    refine y_iald (N := 186) (f := (m.2 1)) C dX7_laysRoute_34 1 (sh_5001 g M m) hb1 ?_
    obtain ⟨hb2, h⟩ := h
    obtain ⟨m3, em3⟩ : ∃ z : MV, z = mA m 9 x1.toNatClampNeg ((m.2 1) ((152 : Int32) + x1).toNatClampNeg) := ⟨_, rfl⟩
    have h := y_letP h em3
    refine y_iast (N := 36) (f := (m.2 9)) (L1 := ([modW g M m3] : List va_W)) C dX7_laysRoute_35 7 (sh_5011 g M m) hb2 (sh_5021 g M m x1.toNatClampNeg ((m.2 1) ((152 : Int32) + x1).toNatClampNeg) m3 em3) ?_
    refine y_iinc (v := (x1 + (1 : Int32))) (lv' := [(1, .int (x1 + (1 : Int32))), (0, .ref (M 0))]) C dX7_laysRoute_36 1 rfl rfl (Nat.le_of_ble_eq_true rfl) rfl ?_
    refine y_goto (tgt := 12) C dX7_laysRoute_39 rfl ?_
    refine y_sub (lv' := [(0, .ref (M 0)), (1, .int (x1 + (1 : Int32)))]) [1, 0] rfl ?_
    exact hX12 _ _ h
set_option maxHeartbeats 4000000 in
set_option maxRecDepth 100000 in
theorem l_X7_laysRoute {Z : yZ} (g : yG) (M : Nat → Nat) (C : yC Z g cX7_laysRoute 2 wsX7_laysRoute RX7) {post : List va_W → Prop} (HR : yRv Z ({ frames := 0, cells := 0, slots := 0, locals := 0 } : Room) cX7_laysRoute post 0 0) {K : MV → Prop} (hK : ∀ (m : MV), K m → post ([modW g M m] : List va_W)) {I12 : Nat → MV → Int32 → Prop} (o12 : ∀ (w0 : Nat) (m : MV) (x1 : Int32), I12 w0 m x1 → wp_X7_laysRoute_12  (fun (m9 : MV) (x19 : Int32) => ∃ w9, w9 < w0 ∧ I12 w9 m9 x19) K m x1) : ∀ w0 : Nat, (∀ (m : MV) (x1 : Int32), I12 w0 m x1 → yJ Z ({ frames := 0, cells := 0, slots := 0, locals := 0 } : Room) 0 0 ([modW g M m] : List va_W) 12 [(0, .ref (M 0)), (1, .int x1)] []) := by
  intro w0
  induction w0 using Nat.strongRecOn with
  | _ w0 ih =>
    exact fun m x1 hi => w_X7_laysRoute_12 g M C HR (fun m x1 hq => by obtain ⟨w9, hlt, hi⟩ := hq; exact (ih w9 hlt) m x1 hi) hK m x1 (o12 w0 m x1 hi)
set_option maxHeartbeats 4000000 in
set_option maxRecDepth 100000 in
theorem t_X7_laysRoute (g : yG) (M : Nat → Nat) (m : MV)  {post : List va_W → Prop} {K : MV → Prop} (hK : ∀ (m : MV), K m → post ([modW g M m] : List va_W)) (hPO : PO_X7_laysRoute  K m ) : yMv g yX7_laysRoute wsX7_laysRoute ({ frames := 0, cells := 0, slots := 0, locals := 0 } : Room) [.ref (M 0)] ([modW g M m] : List va_W) post 0 0 := by
  refine y_entryV (cc := cX7_laysRoute) (maxL := 2) (by decide +kernel) rfl (Nat.le_of_ble_eq_true rfl) (fun Z C _ HR => ?_)
  have C : yC Z g cX7_laysRoute 2 wsX7_laysRoute RX7 := C
  obtain ⟨I12, o12, h⟩ := hPO
  have hX12 : ∀ (m : MV) (x1 : Int32), (fun (m9 : MV) (x19 : Int32) => ∃ w9, I12 w9 m9 x19) m x1 → yJ Z ({ frames := 0, cells := 0, slots := 0, locals := 0 } : Room) 0 0 ([modW g M m] : List va_W) 12 [(0, .ref (M 0)), (1, .int x1)] [] := by
    intro m x1 hq
    obtain ⟨w9, hi⟩ := hq
    exact (l_X7_laysRoute g M C HR hK o12 w9) m x1 hi
  unfold wp_X7_laysRoute_0 at h
  show yJ Z _ 0 0 _ 0 [(0, .ref (M 0))] []
  refine y_aload_n C dX7_laysRoute_0 0 rfl rfl ?_
  refine y_aload_n C dX7_laysRoute_1 0 rfl rfl ?_
  refine y_get (Cn := RX7) (T := TX7) (N := 26) (v := .ref (M 1)) C dX7_laysRoute_2 hX7_laysRoute_X7 0 (sh_5000 g M m) rfl 1 (Nat.le_of_ble_eq_true rfl) kX7_laysRoute_1 rfl ?_
  refine y_iconst (v := 5) C dX7_laysRoute_5 (by decide) ?_
  obtain ⟨hb1, h⟩ := h
  refine y_iald (N := 186) (f := (m.2 1)) C dX7_laysRoute_6 1 (sh_5001 g M m) hb1 ?_
  obtain ⟨m2, em2⟩ : ∃ z : MV, z = mI m 10 ((m.2 1) (5 : Int32).toNatClampNeg) := ⟨_, rfl⟩
  have h := y_letP h em2
  refine y_put (Cn := RX7) (T := TX7) (N := 26) (v := .int ((m.2 1) (5 : Int32).toNatClampNeg)) (ty0 := tyX7) (L1 := ([modW g M m2] : List va_W)) C dX7_laysRoute_7 hX7_laysRoute_X7 0 (sh_5000 g M m) rfl 10 (Nat.le_of_ble_eq_true rfl) kX7_laysRoute_2 tyX7_ok nmX7 rfl rfl rfl (Nat.le_of_ble_eq_true rfl) (sh_5022 g M m ((m.2 1) (5 : Int32).toNatClampNeg) m2 em2) ?_
  refine y_iconst (v := 0) C dX7_laysRoute_10 (by decide) ?_
  refine y_istore_n (lv' := [(1, .int (0 : Int32)), (0, .ref (M 0))]) C dX7_laysRoute_11 rfl (Nat.le_of_ble_eq_true rfl) rfl ?_
  refine y_sub (lv' := [(0, .ref (M 0)), (1, .int (0 : Int32))]) [1, 0] rfl ?_
  exact hX12 _ _ h
theorem u_X7_laysRoute (g : yG) (M : Nat → Nat) (m : MV)  {K : MV → Prop} (hPO : PO_X7_laysRoute  K m ) : yMv g yX7_laysRoute wsX7_laysRoute ({ frames := 0, cells := 0, slots := 0, locals := 0 } : Room) [.ref (M 0)] ([modW g M m] : List va_W) (fun w => ∃ m' : MV, K m' ∧ w = ([modW g M m'] : List va_W)) 0 0 :=
  t_X7_laysRoute g M m  (fun m hk => ⟨m, hk, rfl⟩) hPO
theorem dX7_drivesRoute_0 : decode cX7_drivesRoute 0 = .ok (.aload_n 0, 1) := by decide +kernel
theorem dX7_drivesRoute_1 : decode cX7_drivesRoute 1 = .ok (.invokevirtual 96, 3) := by decide +kernel
theorem dX7_drivesRoute_4 : decode cX7_drivesRoute 4 = .ok (.aload_n 0, 1) := by decide +kernel
theorem dX7_drivesRoute_5 : decode cX7_drivesRoute 5 = .ok (.aload_n 0, 1) := by decide +kernel
theorem dX7_drivesRoute_6 : decode cX7_drivesRoute 6 = .ok (.getfield 7, 3) := by decide +kernel
theorem dX7_drivesRoute_9 : decode cX7_drivesRoute 9 = .ok (.bipush 8, 2) := by decide +kernel
theorem dX7_drivesRoute_11 : decode cX7_drivesRoute 11 = .ok (.iaload, 1) := by decide +kernel
theorem dX7_drivesRoute_12 : decode cX7_drivesRoute 12 = .ok (.invokevirtual 99, 3) := by decide +kernel
theorem dX7_drivesRoute_15 : decode cX7_drivesRoute 15 = .ok (.return_, 1) := by decide +kernel
set_option maxRecDepth 20000 in
theorem ggX7_drivesRoute_X7_laysRoute : GoodIn wsX7_drivesRoute wsX7_laysRoute := goodIn_r _ [6, 1, 7, 8, 50, 51, 52, 53, 54, 55, 56, 57, 58, 59, 60, 61, 62, 63, 64, 65, 66, 67, 68, 69, 70, 71, 72, 73, 74, 75] (by decide +kernel) (by decide +kernel)
set_option maxRecDepth 20000 in
theorem gX7_drivesRoute_X7_laysRoute : GoodIn wsX7_drivesRoute (wsV RX7 96 RX7 yX7_laysRoute wsX7_laysRoute) := goodIn_app (goodIn_of _ (by decide +kernel)) ggX7_drivesRoute_X7_laysRoute
set_option maxRecDepth 20000 in
theorem ggX7_drivesRoute_X7_drives : GoodIn wsX7_drivesRoute wsX7_drives := goodIn_r _ [12, 1, 13, 14, 7, 8, 15, 16, 17, 18, 19, 20, 21, 5, 22, 23, 24, 25, 26, 27, 28, 29, 30, 31, 32, 33, 34, 35, 36, 37, 38, 39, 40, 41, 42, 43, 44, 45, 46, 47, 48, 49, 50, 51, 52, 53, 54, 55, 56, 57, 58, 59, 60, 61, 62, 63, 64, 65, 66, 67, 68, 69, 70, 71, 72, 73, 74, 75] (by decide +kernel) (by decide +kernel)
set_option maxRecDepth 20000 in
theorem gX7_drivesRoute_X7_drives : GoodIn wsX7_drivesRoute (wsV RX7 99 RX7 yX7_drives wsX7_drives) := goodIn_app (goodIn_of _ (by decide +kernel)) ggX7_drivesRoute_X7_drives
theorem kX7_drivesRoute_1 : Cond.fieldLink RX7 7 "BookedDetoursModel" "s" "[I" ∈ wsX7_drivesRoute := List.mem_of_getElem? (i := 1) (by decide +kernel)
theorem hX7_drivesRoute_X7 : ∀ w ∈ u_ws RX7 TX7 26, w ∈ wsX7_drivesRoute := fun _ h => List.mem_cons_of_mem _ (List.mem_append_right _ h)
set_option maxHeartbeats 4000000 in
set_option maxRecDepth 100000 in
theorem t_X7_drivesRoute (g : yG) (M : Nat → Nat) (m : MV)  {post : List va_W → Prop} {K : MV → Prop} (hK : ∀ (m : MV), K m → post ([modW g M m] : List va_W)) (hPO : PO_X7_drivesRoute  K m ) : yMv g yX7_drivesRoute wsX7_drivesRoute ({ frames := 5, cells := 0, slots := 0, locals := 115 } : Room) [.ref (M 0)] ([modW g M m] : List va_W) post 0 0 := by
  refine y_entryV (cc := cX7_drivesRoute) (maxL := 1) (by decide +kernel) rfl (Nat.le_of_ble_eq_true rfl) (fun Z C _ HR => ?_)
  have C : yC Z g cX7_drivesRoute 1 wsX7_drivesRoute RX7 := C
  have h := hPO
  unfold PO_X7_drivesRoute wp_X7_drivesRoute_0 at h
  show yJ Z _ 0 0 _ 0 [(0, .ref (M 0))] []
  refine y_aload_n C dX7_drivesRoute_0 0 rfl rfl ?_
  refine y_callVv (As := []) (rest := []) C dX7_drivesRoute_1 (u_X7_laysRoute g M m h) rfl rfl rfl rfl ⟨Nat.le_of_ble_eq_true rfl, Nat.le_of_ble_eq_true rfl⟩ gX7_drivesRoute_X7_laysRoute (nA := 0) (by decide +kernel) rfl (sh_5010 g M m) (Nat.le_of_ble_eq_true rfl) ⟨Nat.le_of_ble_eq_true rfl, Nat.le_of_ble_eq_true rfl⟩ [0] [] (nB := 1) rfl (by decide +kernel) (sh_5009 g M m) (fun w9 hw => ?_)
  obtain ⟨m1, h, rfl⟩ := hw
  refine ⟨([modW g M m1] : List va_W), (sh_5023 g M m m1), ?_⟩
  refine y_aload_n C dX7_drivesRoute_4 0 rfl rfl ?_
  refine y_aload_n C dX7_drivesRoute_5 0 rfl rfl ?_
  refine y_get (Cn := RX7) (T := TX7) (N := 26) (v := .ref (M 1)) C dX7_drivesRoute_6 hX7_drivesRoute_X7 0 (sh_5000 g M m1) rfl 1 (Nat.le_of_ble_eq_true rfl) kX7_drivesRoute_1 rfl ?_
  refine y_bipush (v := 8) C dX7_drivesRoute_9 (by decide) ?_
  obtain ⟨hb3, h⟩ := h
  refine y_iald (N := 186) (f := (m1.2 1)) C dX7_drivesRoute_11 1 (sh_5001 g M m1) hb3 ?_
  refine y_callVv (As := [.int ((m1.2 1) (8 : Int32).toNatClampNeg)]) (rest := []) C dX7_drivesRoute_12 (u_X7_drives g M m1 ((m1.2 1) (8 : Int32).toNatClampNeg) h) rfl rfl rfl rfl ⟨Nat.le_of_ble_eq_true rfl, Nat.le_of_ble_eq_true rfl⟩ gX7_drivesRoute_X7_drives (nA := 1) (by decide +kernel) rfl (sh_5010 g M m1) (Nat.le_of_ble_eq_true rfl) ⟨Nat.le_of_ble_eq_true rfl, Nat.le_of_ble_eq_true rfl⟩ [0] [] (nB := 1) rfl (by decide +kernel) (sh_5009 g M m1) (fun w9 hw => ?_)
  obtain ⟨m4, h, rfl⟩ := hw
  refine ⟨([modW g M m4] : List va_W), (sh_5023 g M m1 m4), ?_⟩
  exact HR 15 dX7_drivesRoute_15 _ _ _ _ (Nat.le_of_ble_eq_true rfl) (Nat.le_of_ble_eq_true rfl) (hK _  h)
theorem u_X7_drivesRoute (g : yG) (M : Nat → Nat) (m : MV)  {K : MV → Prop} (hPO : PO_X7_drivesRoute  K m ) : yMv g yX7_drivesRoute wsX7_drivesRoute ({ frames := 5, cells := 0, slots := 0, locals := 115 } : Room) [.ref (M 0)] ([modW g M m] : List va_W) (fun w => ∃ m' : MV, K m' ∧ w = ([modW g M m'] : List va_W)) 0 0 :=
  t_X7_drivesRoute g M m  (fun m hk => ⟨m, hk, rfl⟩) hPO
theorem dX7_isOnWay_0 : decode cX7_isOnWay 0 = .ok (.aload_n 0, 1) := by decide +kernel
theorem dX7_isOnWay_1 : decode cX7_isOnWay 1 = .ok (.getfield 7, 3) := by decide +kernel
theorem dX7_isOnWay_4 : decode cX7_isOnWay 4 = .ok (.iconst 5, 1) := by decide +kernel
theorem dX7_isOnWay_5 : decode cX7_isOnWay 5 = .ok (.iaload, 1) := by decide +kernel
theorem dX7_isOnWay_6 : decode cX7_isOnWay 6 = .ok (.ifCond .le 24, 3) := by decide +kernel
theorem dX7_isOnWay_9 : decode cX7_isOnWay 9 = .ok (.aload_n 0, 1) := by decide +kernel
theorem dX7_isOnWay_10 : decode cX7_isOnWay 10 = .ok (.getfield 7, 3) := by decide +kernel
theorem dX7_isOnWay_13 : decode cX7_isOnWay 13 = .ok (.bipush 6, 2) := by decide +kernel
theorem dX7_isOnWay_15 : decode cX7_isOnWay 15 = .ok (.iaload, 1) := by decide +kernel
theorem dX7_isOnWay_16 : decode cX7_isOnWay 16 = .ok (.aload_n 0, 1) := by decide +kernel
theorem dX7_isOnWay_17 : decode cX7_isOnWay 17 = .ok (.getfield 7, 3) := by decide +kernel
theorem dX7_isOnWay_20 : decode cX7_isOnWay 20 = .ok (.bipush 8, 2) := by decide +kernel
theorem dX7_isOnWay_22 : decode cX7_isOnWay 22 = .ok (.iaload, 1) := by decide +kernel
theorem dX7_isOnWay_23 : decode cX7_isOnWay 23 = .ok (.if_icmp .le 7, 3) := by decide +kernel
theorem dX7_isOnWay_26 : decode cX7_isOnWay 26 = .ok (.iconst 1, 1) := by decide +kernel
theorem dX7_isOnWay_27 : decode cX7_isOnWay 27 = .ok (.goto 4, 3) := by decide +kernel
theorem dX7_isOnWay_30 : decode cX7_isOnWay 30 = .ok (.iconst 0, 1) := by decide +kernel
theorem dX7_isOnWay_31 : decode cX7_isOnWay 31 = .ok (.ireturn, 1) := by decide +kernel
theorem kX7_isOnWay_1 : Cond.fieldLink RX7 7 "BookedDetoursModel" "s" "[I" ∈ wsX7_isOnWay := List.mem_of_getElem? (i := 1) (by decide +kernel)
theorem hX7_isOnWay_X7 : ∀ w ∈ u_ws RX7 TX7 26, w ∈ wsX7_isOnWay := fun _ h => List.mem_cons_of_mem _ (List.mem_append_right _ h)
set_option maxHeartbeats 4000000 in
set_option maxRecDepth 100000 in
theorem t_X7_isOnWay (g : yG) (M : Nat → Nat) (m : MV)  {post : Int32 → List va_W → Prop} {K : Int32 → Prop} (hK : ∀ (r0 : Int32), K r0 → post r0 ([modW g M m] : List va_W)) (hPO : PO_X7_isOnWay m K  ) : yM g yX7_isOnWay wsX7_isOnWay ({ frames := 0, cells := 0, slots := 0, locals := 0 } : Room) [.ref (M 0)] ([modW g M m] : List va_W) post 0 0 := by
  refine y_entryI (cc := cX7_isOnWay) (maxL := 1) (by decide +kernel) rfl (Nat.le_of_ble_eq_true rfl) (fun Z C HR => ?_)
  have C : yC Z g cX7_isOnWay 1 wsX7_isOnWay RX7 := C
  have h := hPO
  unfold PO_X7_isOnWay wp_X7_isOnWay_0 at h
  show yJ Z _ 0 0 _ 0 [(0, .ref (M 0))] []
  refine y_aload_n C dX7_isOnWay_0 0 rfl rfl ?_
  refine y_get (Cn := RX7) (T := TX7) (N := 26) (v := .ref (M 1)) C dX7_isOnWay_1 hX7_isOnWay_X7 0 (sh_5000 g M m) rfl 1 (Nat.le_of_ble_eq_true rfl) kX7_isOnWay_1 rfl ?_
  refine y_iconst (v := 5) C dX7_isOnWay_4 (by decide) ?_
  obtain ⟨hb1, h⟩ := h
  refine y_iald (N := 186) (f := (m.2 1)) C dX7_isOnWay_5 1 (sh_5001 g M m) hb1 ?_
  refine y_if_le (tgt := 30) C dX7_isOnWay_6 rfl h (fun c6 h => ?_) (fun c6 h => ?_)
  · refine y_iconst (v := 0) C dX7_isOnWay_30 (by decide) ?_
    exact HR 31 dX7_isOnWay_31 (0 : Int32) _ _ _ _ (rfl) (Nat.le_of_ble_eq_true rfl) (Nat.le_of_ble_eq_true rfl) (hK _  h)
  · refine y_aload_n C dX7_isOnWay_9 0 rfl rfl ?_
    refine y_get (Cn := RX7) (T := TX7) (N := 26) (v := .ref (M 1)) C dX7_isOnWay_10 hX7_isOnWay_X7 0 (sh_5000 g M m) rfl 1 (Nat.le_of_ble_eq_true rfl) kX7_isOnWay_1 rfl ?_
    refine y_bipush (v := 6) C dX7_isOnWay_13 (by decide) ?_
    obtain ⟨hb2, h⟩ := h
    refine y_iald (N := 186) (f := (m.2 1)) C dX7_isOnWay_15 1 (sh_5001 g M m) hb2 ?_
    refine y_aload_n C dX7_isOnWay_16 0 rfl rfl ?_
    refine y_get (Cn := RX7) (T := TX7) (N := 26) (v := .ref (M 1)) C dX7_isOnWay_17 hX7_isOnWay_X7 0 (sh_5000 g M m) rfl 1 (Nat.le_of_ble_eq_true rfl) kX7_isOnWay_1 rfl ?_
    refine y_bipush (v := 8) C dX7_isOnWay_20 (by decide) ?_
    obtain ⟨hb3, h⟩ := h
    refine y_iald (N := 186) (f := (m.2 1)) C dX7_isOnWay_22 1 (sh_5001 g M m) hb3 ?_
    refine y_icmp_le (tgt := 30) C dX7_isOnWay_23 rfl h (fun c23 h => ?_) (fun c23 h => ?_)
    · refine y_iconst (v := 0) C dX7_isOnWay_30 (by decide) ?_
      exact HR 31 dX7_isOnWay_31 (0 : Int32) _ _ _ _ (rfl) (Nat.le_of_ble_eq_true rfl) (Nat.le_of_ble_eq_true rfl) (hK _  h)
    · refine y_iconst (v := 1) C dX7_isOnWay_26 (by decide) ?_
      refine y_goto (tgt := 31) C dX7_isOnWay_27 rfl ?_
      exact HR 31 dX7_isOnWay_31 (1 : Int32) _ _ _ _ (rfl) (Nat.le_of_ble_eq_true rfl) (Nat.le_of_ble_eq_true rfl) (hK _  h)
theorem u_X7_isOnWay (g : yG) (M : Nat → Nat) (m : MV)  {K : Int32 → Prop} (hPO : PO_X7_isOnWay m K  ) : yM g yX7_isOnWay wsX7_isOnWay ({ frames := 0, cells := 0, slots := 0, locals := 0 } : Room) [.ref (M 0)] ([modW g M m] : List va_W) (fun r w => K r ∧ w = ([modW g M m] : List va_W)) 0 0 :=
  t_X7_isOnWay g M m  (fun r0 hk => ⟨hk, rfl⟩) hPO
theorem dX7_leaving_0 : decode cX7_leaving 0 = .ok (.aload_n 0, 1) := by decide +kernel
theorem dX7_leaving_1 : decode cX7_leaving 1 = .ok (.getfield 7, 3) := by decide +kernel
theorem dX7_leaving_4 : decode cX7_leaving 4 = .ok (.iconst 5, 1) := by decide +kernel
theorem dX7_leaving_5 : decode cX7_leaving 5 = .ok (.iaload, 1) := by decide +kernel
theorem dX7_leaving_6 : decode cX7_leaving 6 = .ok (.ifCond .ne 30, 3) := by decide +kernel
theorem dX7_leaving_9 : decode cX7_leaving 9 = .ok (.aload_n 0, 1) := by decide +kernel
theorem dX7_leaving_10 : decode cX7_leaving 10 = .ok (.getfield 7, 3) := by decide +kernel
theorem dX7_leaving_13 : decode cX7_leaving 13 = .ok (.bipush 6, 2) := by decide +kernel
theorem dX7_leaving_15 : decode cX7_leaving 15 = .ok (.iaload, 1) := by decide +kernel
theorem dX7_leaving_16 : decode cX7_leaving 16 = .ok (.aload_n 0, 1) := by decide +kernel
theorem dX7_leaving_17 : decode cX7_leaving 17 = .ok (.getfield 7, 3) := by decide +kernel
theorem dX7_leaving_20 : decode cX7_leaving 20 = .ok (.bipush 8, 2) := by decide +kernel
theorem dX7_leaving_22 : decode cX7_leaving 22 = .ok (.iaload, 1) := by decide +kernel
theorem dX7_leaving_23 : decode cX7_leaving 23 = .ok (.if_icmp .le 13, 3) := by decide +kernel
theorem dX7_leaving_26 : decode cX7_leaving 26 = .ok (.aload_n 0, 1) := by decide +kernel
theorem dX7_leaving_27 : decode cX7_leaving 27 = .ok (.getfield 7, 3) := by decide +kernel
theorem dX7_leaving_30 : decode cX7_leaving 30 = .ok (.bipush 6, 2) := by decide +kernel
theorem dX7_leaving_32 : decode cX7_leaving 32 = .ok (.iaload, 1) := by decide +kernel
theorem dX7_leaving_33 : decode cX7_leaving 33 = .ok (.goto 10, 3) := by decide +kernel
theorem dX7_leaving_36 : decode cX7_leaving 36 = .ok (.aload_n 0, 1) := by decide +kernel
theorem dX7_leaving_37 : decode cX7_leaving 37 = .ok (.getfield 7, 3) := by decide +kernel
theorem dX7_leaving_40 : decode cX7_leaving 40 = .ok (.bipush 8, 2) := by decide +kernel
theorem dX7_leaving_42 : decode cX7_leaving 42 = .ok (.iaload, 1) := by decide +kernel
theorem dX7_leaving_43 : decode cX7_leaving 43 = .ok (.ireturn, 1) := by decide +kernel
theorem kX7_leaving_1 : Cond.fieldLink RX7 7 "BookedDetoursModel" "s" "[I" ∈ wsX7_leaving := List.mem_of_getElem? (i := 1) (by decide +kernel)
theorem hX7_leaving_X7 : ∀ w ∈ u_ws RX7 TX7 26, w ∈ wsX7_leaving := fun _ h => List.mem_cons_of_mem _ (List.mem_append_right _ h)
set_option maxHeartbeats 4000000 in
set_option maxRecDepth 100000 in
theorem t_X7_leaving (g : yG) (M : Nat → Nat) (m : MV)  {post : Int32 → List va_W → Prop} {K : Int32 → Prop} (hK : ∀ (r0 : Int32), K r0 → post r0 ([modW g M m] : List va_W)) (hPO : PO_X7_leaving m K  ) : yM g yX7_leaving wsX7_leaving ({ frames := 0, cells := 0, slots := 0, locals := 0 } : Room) [.ref (M 0)] ([modW g M m] : List va_W) post 0 0 := by
  refine y_entryI (cc := cX7_leaving) (maxL := 1) (by decide +kernel) rfl (Nat.le_of_ble_eq_true rfl) (fun Z C HR => ?_)
  have C : yC Z g cX7_leaving 1 wsX7_leaving RX7 := C
  have h := hPO
  unfold PO_X7_leaving wp_X7_leaving_0 at h
  show yJ Z _ 0 0 _ 0 [(0, .ref (M 0))] []
  refine y_aload_n C dX7_leaving_0 0 rfl rfl ?_
  refine y_get (Cn := RX7) (T := TX7) (N := 26) (v := .ref (M 1)) C dX7_leaving_1 hX7_leaving_X7 0 (sh_5000 g M m) rfl 1 (Nat.le_of_ble_eq_true rfl) kX7_leaving_1 rfl ?_
  refine y_iconst (v := 5) C dX7_leaving_4 (by decide) ?_
  obtain ⟨hb1, h⟩ := h
  refine y_iald (N := 186) (f := (m.2 1)) C dX7_leaving_5 1 (sh_5001 g M m) hb1 ?_
  refine y_if_ne (tgt := 36) C dX7_leaving_6 rfl h (fun c6 h => ?_) (fun c6 h => ?_)
  · refine y_aload_n C dX7_leaving_36 0 rfl rfl ?_
    refine y_get (Cn := RX7) (T := TX7) (N := 26) (v := .ref (M 1)) C dX7_leaving_37 hX7_leaving_X7 0 (sh_5000 g M m) rfl 1 (Nat.le_of_ble_eq_true rfl) kX7_leaving_1 rfl ?_
    refine y_bipush (v := 8) C dX7_leaving_40 (by decide) ?_
    obtain ⟨hb2, h⟩ := h
    refine y_iald (N := 186) (f := (m.2 1)) C dX7_leaving_42 1 (sh_5001 g M m) hb2 ?_
    exact HR 43 dX7_leaving_43 ((m.2 1) (8 : Int32).toNatClampNeg) _ _ _ _ (rfl) (Nat.le_of_ble_eq_true rfl) (Nat.le_of_ble_eq_true rfl) (hK _  h)
  · refine y_aload_n C dX7_leaving_9 0 rfl rfl ?_
    refine y_get (Cn := RX7) (T := TX7) (N := 26) (v := .ref (M 1)) C dX7_leaving_10 hX7_leaving_X7 0 (sh_5000 g M m) rfl 1 (Nat.le_of_ble_eq_true rfl) kX7_leaving_1 rfl ?_
    refine y_bipush (v := 6) C dX7_leaving_13 (by decide) ?_
    obtain ⟨hb3, h⟩ := h
    refine y_iald (N := 186) (f := (m.2 1)) C dX7_leaving_15 1 (sh_5001 g M m) hb3 ?_
    refine y_aload_n C dX7_leaving_16 0 rfl rfl ?_
    refine y_get (Cn := RX7) (T := TX7) (N := 26) (v := .ref (M 1)) C dX7_leaving_17 hX7_leaving_X7 0 (sh_5000 g M m) rfl 1 (Nat.le_of_ble_eq_true rfl) kX7_leaving_1 rfl ?_
    refine y_bipush (v := 8) C dX7_leaving_20 (by decide) ?_
    obtain ⟨hb4, h⟩ := h
    refine y_iald (N := 186) (f := (m.2 1)) C dX7_leaving_22 1 (sh_5001 g M m) hb4 ?_
    refine y_icmp_le (tgt := 36) C dX7_leaving_23 rfl h (fun c23 h => ?_) (fun c23 h => ?_)
    · refine y_aload_n C dX7_leaving_36 0 rfl rfl ?_
      refine y_get (Cn := RX7) (T := TX7) (N := 26) (v := .ref (M 1)) C dX7_leaving_37 hX7_leaving_X7 0 (sh_5000 g M m) rfl 1 (Nat.le_of_ble_eq_true rfl) kX7_leaving_1 rfl ?_
      refine y_bipush (v := 8) C dX7_leaving_40 (by decide) ?_
      obtain ⟨hb5, h⟩ := h
      refine y_iald (N := 186) (f := (m.2 1)) C dX7_leaving_42 1 (sh_5001 g M m) hb5 ?_
      exact HR 43 dX7_leaving_43 ((m.2 1) (8 : Int32).toNatClampNeg) _ _ _ _ (rfl) (Nat.le_of_ble_eq_true rfl) (Nat.le_of_ble_eq_true rfl) (hK _  h)
    · refine y_aload_n C dX7_leaving_26 0 rfl rfl ?_
      refine y_get (Cn := RX7) (T := TX7) (N := 26) (v := .ref (M 1)) C dX7_leaving_27 hX7_leaving_X7 0 (sh_5000 g M m) rfl 1 (Nat.le_of_ble_eq_true rfl) kX7_leaving_1 rfl ?_
      refine y_bipush (v := 6) C dX7_leaving_30 (by decide) ?_
      obtain ⟨hb6, h⟩ := h
      refine y_iald (N := 186) (f := (m.2 1)) C dX7_leaving_32 1 (sh_5001 g M m) hb6 ?_
      refine y_goto (tgt := 43) C dX7_leaving_33 rfl ?_
      exact HR 43 dX7_leaving_43 ((m.2 1) (6 : Int32).toNatClampNeg) _ _ _ _ (rfl) (Nat.le_of_ble_eq_true rfl) (Nat.le_of_ble_eq_true rfl) (hK _  h)
theorem u_X7_leaving (g : yG) (M : Nat → Nat) (m : MV)  {K : Int32 → Prop} (hPO : PO_X7_leaving m K  ) : yM g yX7_leaving wsX7_leaving ({ frames := 0, cells := 0, slots := 0, locals := 0 } : Room) [.ref (M 0)] ([modW g M m] : List va_W) (fun r w => K r ∧ w = ([modW g M m] : List va_W)) 0 0 :=
  t_X7_leaving g M m  (fun r0 hk => ⟨hk, rfl⟩) hPO
