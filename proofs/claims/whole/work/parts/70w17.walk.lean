theorem dX7_pass_0 : decode cX7_pass 0 = .ok (.aload_n 0, 1) := by decide +kernel
theorem dX7_pass_1 : decode cX7_pass 1 = .ok (.iconst 0, 1) := by decide +kernel
theorem dX7_pass_2 : decode cX7_pass 2 = .ok (.putfield 44, 3) := by decide +kernel
theorem dX7_pass_5 : decode cX7_pass 5 = .ok (.iload_n 1, 1) := by decide +kernel
theorem dX7_pass_6 : decode cX7_pass 6 = .ok (.aload_n 0, 1) := by decide +kernel
theorem dX7_pass_7 : decode cX7_pass 7 = .ok (.getfield 7, 3) := by decide +kernel
theorem dX7_pass_10 : decode cX7_pass 10 = .ok (.bipush 6, 2) := by decide +kernel
theorem dX7_pass_12 : decode cX7_pass 12 = .ok (.iaload, 1) := by decide +kernel
theorem dX7_pass_13 : decode cX7_pass 13 = .ok (.if_icmp .le 10, 3) := by decide +kernel
theorem dX7_pass_16 : decode cX7_pass 16 = .ok (.iload_n 1, 1) := by decide +kernel
theorem dX7_pass_17 : decode cX7_pass 17 = .ok (.sipush 2000, 3) := by decide +kernel
theorem dX7_pass_20 : decode cX7_pass 20 = .ok (.if_icmp .le 6, 3) := by decide +kernel
theorem dX7_pass_23 : decode cX7_pass 23 = .ok (.bipush (-2), 2) := by decide +kernel
theorem dX7_pass_25 : decode cX7_pass 25 = .ok (.ireturn, 1) := by decide +kernel
theorem dX7_pass_26 : decode cX7_pass 26 = .ok (.aload_n 0, 1) := by decide +kernel
theorem dX7_pass_27 : decode cX7_pass 27 = .ok (.invokevirtual 149, 3) := by decide +kernel
theorem dX7_pass_30 : decode cX7_pass 30 = .ok (.iconst 0, 1) := by decide +kernel
theorem dX7_pass_31 : decode cX7_pass 31 = .ok (.istore_n 2, 1) := by decide +kernel
theorem dX7_pass_32 : decode cX7_pass 32 = .ok (.aload_n 0, 1) := by decide +kernel
theorem dX7_pass_33 : decode cX7_pass 33 = .ok (.invokevirtual 164, 3) := by decide +kernel
theorem dX7_pass_36 : decode cX7_pass 36 = .ok (.aload_n 0, 1) := by decide +kernel
theorem dX7_pass_37 : decode cX7_pass 37 = .ok (.getfield 7, 3) := by decide +kernel
theorem dX7_pass_40 : decode cX7_pass 40 = .ok (.iconst 5, 1) := by decide +kernel
theorem dX7_pass_41 : decode cX7_pass 41 = .ok (.iaload, 1) := by decide +kernel
theorem dX7_pass_42 : decode cX7_pass 42 = .ok (.ifCond .le 27, 3) := by decide +kernel
theorem dX7_pass_45 : decode cX7_pass 45 = .ok (.aload_n 0, 1) := by decide +kernel
theorem dX7_pass_46 : decode cX7_pass 46 = .ok (.getfield 32, 3) := by decide +kernel
theorem dX7_pass_49 : decode cX7_pass 49 = .ok (.iconst 0, 1) := by decide +kernel
theorem dX7_pass_50 : decode cX7_pass 50 = .ok (.iaload, 1) := by decide +kernel
theorem dX7_pass_51 : decode cX7_pass 51 = .ok (.iload_n 1, 1) := by decide +kernel
theorem dX7_pass_52 : decode cX7_pass 52 = .ok (.if_icmp .ge 17, 3) := by decide +kernel
theorem dX7_pass_55 : decode cX7_pass 55 = .ok (.aload_n 0, 1) := by decide +kernel
theorem dX7_pass_56 : decode cX7_pass 56 = .ok (.invokevirtual 167, 3) := by decide +kernel
theorem dX7_pass_59 : decode cX7_pass 59 = .ok (.iinc 2 1, 3) := by decide +kernel
theorem dX7_pass_62 : decode cX7_pass 62 = .ok (.aload_n 0, 1) := by decide +kernel
theorem dX7_pass_63 : decode cX7_pass 63 = .ok (.invokevirtual 164, 3) := by decide +kernel
theorem dX7_pass_66 : decode cX7_pass 66 = .ok (.goto (-30), 3) := by decide +kernel
theorem dX7_pass_69 : decode cX7_pass 69 = .ok (.aload_n 0, 1) := by decide +kernel
theorem dX7_pass_70 : decode cX7_pass 70 = .ok (.getfield 7, 3) := by decide +kernel
theorem dX7_pass_73 : decode cX7_pass 73 = .ok (.bipush 6, 2) := by decide +kernel
theorem dX7_pass_75 : decode cX7_pass 75 = .ok (.iload_n 1, 1) := by decide +kernel
theorem dX7_pass_76 : decode cX7_pass 76 = .ok (.iastore, 1) := by decide +kernel
theorem dX7_pass_77 : decode cX7_pass 77 = .ok (.iload_n 2, 1) := by decide +kernel
theorem dX7_pass_78 : decode cX7_pass 78 = .ok (.ireturn, 1) := by decide +kernel
set_option maxRecDepth 20000 in
theorem ggX7_pass_X7_visits : GoodIn wsX7_pass wsX7_visits := goodIn_r _ [64, 2, 3, 65, 66, 67, 7, 68, 38, 39, 40, 41, 34, 35, 36, 37, 69, 70, 71, 72, 73, 74, 75, 76, 77, 78, 79, 80, 81, 82, 83, 84, 85, 86, 87, 88, 89, 90, 91, 92, 93, 94] (by decide +kernel) (by decide +kernel)
set_option maxRecDepth 20000 in
theorem gX7_pass_X7_visits : GoodIn wsX7_pass (wsV RX7 167 RX7 yX7_visits wsX7_visits) := goodIn_app (goodIn_of _ (by decide +kernel)) ggX7_pass_X7_visits
set_option maxRecDepth 20000 in
theorem ggX7_pass_X7_drivesRoute : GoodIn wsX7_pass wsX7_drivesRoute := goodIn_r _ [14, 2, 15, 16, 17, 7, 18, 19, 20, 21, 22, 23, 24, 25, 26, 27, 3, 28, 29, 30, 31, 32, 33, 34, 35, 36, 37, 38, 39, 40, 41, 42, 43, 44, 45, 46, 47, 48, 49, 50, 51, 52, 53, 54, 55, 56, 57, 58, 59, 60, 69, 70, 71, 72, 73, 74, 75, 76, 77, 78, 79, 80, 81, 82, 83, 84, 85, 86, 87, 88, 89, 90, 91, 92, 93, 94] (by decide +kernel) (by decide +kernel)
set_option maxRecDepth 20000 in
theorem gX7_pass_X7_drivesRoute : GoodIn wsX7_pass (wsV RX7 164 RX7 yX7_drivesRoute wsX7_drivesRoute) := goodIn_app (goodIn_of _ (by decide +kernel)) ggX7_pass_X7_drivesRoute
set_option maxRecDepth 20000 in
theorem ggX7_pass_X7_records : GoodIn wsX7_pass wsX7_records := goodIn_r _ [8, 9, 10, 2, 69, 70, 71, 72, 73, 74, 75, 76, 77, 78, 79, 80, 81, 82, 83, 84, 85, 86, 87, 88, 89, 90, 91, 92, 93, 94] (by decide +kernel) (by decide +kernel)
set_option maxRecDepth 20000 in
theorem gX7_pass_X7_records : GoodIn wsX7_pass (wsV RX7 149 RX7 yX7_records wsX7_records) := goodIn_app (goodIn_of _ (by decide +kernel)) ggX7_pass_X7_records
theorem kX7_pass_2 : Cond.fieldLink RX7 7 "BookedDetoursModel" "s" "[I" ∈ wsX7_pass := List.mem_of_getElem? (i := 2) (by decide +kernel)
theorem kX7_pass_3 : Cond.fieldLink RX7 32 "BookedDetoursModel" "times" "[I" ∈ wsX7_pass := List.mem_of_getElem? (i := 3) (by decide +kernel)
theorem kX7_pass_1 : Cond.fieldLink RX7 44 "BookedDetoursModel" "thrown" "I" ∈ wsX7_pass := List.mem_of_getElem? (i := 1) (by decide +kernel)
theorem hX7_pass_X7 : ∀ w ∈ u_ws RX7 TX7 26, w ∈ wsX7_pass := fun _ h => List.mem_cons_of_mem _ (List.mem_append_right _ h)
set_option maxHeartbeats 4000000 in
set_option maxRecDepth 100000 in
theorem w_X7_pass_36 {Z : yZ} (g : yG) (M : Nat → Nat) (nw : Int32) (C : yC Z g cX7_pass 3 wsX7_pass RX7) {post : Int32 → List va_W → Prop} (HR : yRi Z ({ frames := 6, cells := 0, slots := 0, locals := 135 } : Room) cX7_pass .int post 0 0) {X36 : MV → Int32 → Prop} (hX36 : ∀ (m : MV) (x2 : Int32), X36 m x2 → yJ Z ({ frames := 6, cells := 0, slots := 0, locals := 135 } : Room) 0 0 ([modW g M m] : List va_W) 36 [(0, .ref (M 0)), (1, .int nw), (2, .int x2)] []) {K : Int32 → MV → Prop} (hK : ∀ (r0 : Int32) (m : MV), K r0 m → post r0 ([modW g M m] : List va_W)) (m : MV) (x2 : Int32) (h : wp_X7_pass_36 nw X36 K m x2) : yJ Z ({ frames := 6, cells := 0, slots := 0, locals := 135 } : Room) 0 0 ([modW g M m] : List va_W) 36 [(0, .ref (M 0)), (1, .int nw), (2, .int x2)] [] := by
  unfold wp_X7_pass_36 at h
  refine y_aload_n C dX7_pass_36 0 rfl rfl ?_
  refine y_get (Cn := RX7) (T := TX7) (N := 26) (v := .ref (M 1)) C dX7_pass_37 hX7_pass_X7 0 (sh_5000 g M m) rfl 1 (Nat.le_of_ble_eq_true rfl) kX7_pass_2 rfl ?_
  refine y_iconst (v := 5) C dX7_pass_40 (by decide) ?_
  obtain ⟨hb1, h⟩ := h
  refine y_iald (N := 186) (f := (m.2 1)) C dX7_pass_41 1 (sh_5001 g M m) hb1 ?_
  refine y_if_le (tgt := 69) C dX7_pass_42 rfl h (fun c42 h => ?_) (fun c42 h => ?_)
  · refine y_aload_n C dX7_pass_69 0 rfl rfl ?_
    refine y_get (Cn := RX7) (T := TX7) (N := 26) (v := .ref (M 1)) C dX7_pass_70 hX7_pass_X7 0 (sh_5000 g M m) rfl 1 (Nat.le_of_ble_eq_true rfl) kX7_pass_2 rfl ?_
    refine y_bipush (v := 6) C dX7_pass_73 (by decide) ?_
    refine y_iload_n C dX7_pass_75 1 rfl rfl ?_
    obtain ⟨hb2, h⟩ := h
    obtain ⟨m3, em3⟩ : ∃ z : MV, z = mA m 1 (6 : Int32).toNatClampNeg nw := ⟨_, rfl⟩
    have h := y_letP h em3
    refine y_iast (N := 186) (f := (m.2 1)) (L1 := ([modW g M m3] : List va_W)) C dX7_pass_76 1 (sh_5001 g M m) hb2 (sh_5003 g M m (6 : Int32).toNatClampNeg nw m3 em3) ?_
    refine y_iload_n C dX7_pass_77 2 rfl rfl ?_
    exact HR 78 dX7_pass_78 x2 _ _ _ _ (rfl) (Nat.le_of_ble_eq_true rfl) (Nat.le_of_ble_eq_true rfl) (hK _ _  h)
  · refine y_aload_n C dX7_pass_45 0 rfl rfl ?_
    refine y_get (Cn := RX7) (T := TX7) (N := 26) (v := .ref (M 8)) C dX7_pass_46 hX7_pass_X7 0 (sh_5000 g M m) rfl 11 (Nat.le_of_ble_eq_true rfl) kX7_pass_3 rfl ?_
    refine y_iconst (v := 0) C dX7_pass_49 (by decide) ?_
    obtain ⟨hb4, h⟩ := h
    refine y_iald (N := 36) (f := (m.2 11)) C dX7_pass_50 8 (sh_5012 g M m) hb4 ?_
    refine y_iload_n C dX7_pass_51 1 rfl rfl ?_
    refine y_icmp_ge (tgt := 69) C dX7_pass_52 rfl h (fun c52 h => ?_) (fun c52 h => ?_)
    · refine y_aload_n C dX7_pass_69 0 rfl rfl ?_
      refine y_get (Cn := RX7) (T := TX7) (N := 26) (v := .ref (M 1)) C dX7_pass_70 hX7_pass_X7 0 (sh_5000 g M m) rfl 1 (Nat.le_of_ble_eq_true rfl) kX7_pass_2 rfl ?_
      refine y_bipush (v := 6) C dX7_pass_73 (by decide) ?_
      refine y_iload_n C dX7_pass_75 1 rfl rfl ?_
      obtain ⟨hb5, h⟩ := h
      obtain ⟨m6, em6⟩ : ∃ z : MV, z = mA m 1 (6 : Int32).toNatClampNeg nw := ⟨_, rfl⟩
      have h := y_letP h em6
      refine y_iast (N := 186) (f := (m.2 1)) (L1 := ([modW g M m6] : List va_W)) C dX7_pass_76 1 (sh_5001 g M m) hb5 (sh_5003 g M m (6 : Int32).toNatClampNeg nw m6 em6) ?_
      refine y_iload_n C dX7_pass_77 2 rfl rfl ?_
      exact HR 78 dX7_pass_78 x2 _ _ _ _ (rfl) (Nat.le_of_ble_eq_true rfl) (Nat.le_of_ble_eq_true rfl) (hK _ _  h)
    · refine y_aload_n C dX7_pass_55 0 rfl rfl ?_
      refine y_callVv (As := []) (rest := []) C dX7_pass_56 (u_X7_visits g M m h) rfl rfl rfl rfl ⟨Nat.le_of_ble_eq_true rfl, Nat.le_of_ble_eq_true rfl⟩ gX7_pass_X7_visits (nA := 0) (by decide +kernel) rfl (sh_5010 g M m) (Nat.le_of_ble_eq_true rfl) ⟨Nat.le_of_ble_eq_true rfl, Nat.le_of_ble_eq_true rfl⟩ [0] [] (nB := 1) rfl (by decide +kernel) (sh_5009 g M m) (fun w9 hw => ?_)
      obtain ⟨m7, h, rfl⟩ := hw
      refine ⟨([modW g M m7] : List va_W), (sh_5023 g M m m7), ?_⟩
      refine y_iinc (v := (x2 + (1 : Int32))) (lv' := [(2, .int (x2 + (1 : Int32))), (0, .ref (M 0)), (1, .int nw)]) C dX7_pass_59 2 rfl rfl (Nat.le_of_ble_eq_true rfl) rfl ?_
      refine y_aload_n C dX7_pass_62 1 rfl rfl ?_
      refine y_callVv (As := []) (rest := []) C dX7_pass_63 (u_X7_drivesRoute g M m7 h) rfl rfl rfl rfl ⟨Nat.le_of_ble_eq_true rfl, Nat.le_of_ble_eq_true rfl⟩ gX7_pass_X7_drivesRoute (nA := 0) (by decide +kernel) rfl (sh_5010 g M m7) (Nat.le_of_ble_eq_true rfl) ⟨Nat.le_of_ble_eq_true rfl, Nat.le_of_ble_eq_true rfl⟩ [0] [] (nB := 1) rfl (by decide +kernel) (sh_5009 g M m7) (fun w9 hw => ?_)
      obtain ⟨m9, h, rfl⟩ := hw
      refine ⟨([modW g M m9] : List va_W), (sh_5023 g M m7 m9), ?_⟩
      refine y_goto (tgt := 36) C dX7_pass_66 rfl ?_
      refine y_sub (lv' := [(0, .ref (M 0)), (1, .int nw), (2, .int (x2 + (1 : Int32)))]) [1, 2, 0] rfl ?_
      exact hX36 _ _ h
set_option maxHeartbeats 4000000 in
set_option maxRecDepth 100000 in
theorem l_X7_pass {Z : yZ} (g : yG) (M : Nat → Nat) (nw : Int32) (C : yC Z g cX7_pass 3 wsX7_pass RX7) {post : Int32 → List va_W → Prop} (HR : yRi Z ({ frames := 6, cells := 0, slots := 0, locals := 135 } : Room) cX7_pass .int post 0 0) {K : Int32 → MV → Prop} (hK : ∀ (r0 : Int32) (m : MV), K r0 m → post r0 ([modW g M m] : List va_W)) {I36 : Nat → MV → Int32 → Prop} (o36 : ∀ (w0 : Nat) (m : MV) (x2 : Int32), I36 w0 m x2 → wp_X7_pass_36 nw (fun (m9 : MV) (x29 : Int32) => ∃ w9, w9 < w0 ∧ I36 w9 m9 x29) K m x2) : ∀ w0 : Nat, (∀ (m : MV) (x2 : Int32), I36 w0 m x2 → yJ Z ({ frames := 6, cells := 0, slots := 0, locals := 135 } : Room) 0 0 ([modW g M m] : List va_W) 36 [(0, .ref (M 0)), (1, .int nw), (2, .int x2)] []) := by
  intro w0
  induction w0 using Nat.strongRecOn with
  | _ w0 ih =>
    exact fun m x2 hi => w_X7_pass_36 g M nw C HR (fun m x2 hq => by obtain ⟨w9, hlt, hi⟩ := hq; exact (ih w9 hlt) m x2 hi) hK m x2 (o36 w0 m x2 hi)
set_option maxHeartbeats 4000000 in
set_option maxRecDepth 100000 in
theorem t_X7_pass (g : yG) (M : Nat → Nat) (m : MV) (nw : Int32) {post : Int32 → List va_W → Prop} {K : Int32 → MV → Prop} (hK : ∀ (r0 : Int32) (m : MV), K r0 m → post r0 ([modW g M m] : List va_W)) (hPO : PO_X7_pass nw K m ) : yM g yX7_pass wsX7_pass ({ frames := 6, cells := 0, slots := 0, locals := 135 } : Room) [.ref (M 0), .int nw] ([modW g M m] : List va_W) post 0 0 := by
  refine y_entryI (cc := cX7_pass) (maxL := 3) (by decide +kernel) rfl (Nat.le_of_ble_eq_true rfl) (fun Z C HR => ?_)
  have C : yC Z g cX7_pass 3 wsX7_pass RX7 := C
  obtain ⟨I36, o36, h⟩ := hPO
  have hX36 : ∀ (m : MV) (x2 : Int32), (fun (m9 : MV) (x29 : Int32) => ∃ w9, I36 w9 m9 x29) m x2 → yJ Z ({ frames := 6, cells := 0, slots := 0, locals := 135 } : Room) 0 0 ([modW g M m] : List va_W) 36 [(0, .ref (M 0)), (1, .int nw), (2, .int x2)] [] := by
    intro m x2 hq
    obtain ⟨w9, hi⟩ := hq
    exact (l_X7_pass g M nw C HR hK o36 w9) m x2 hi
  unfold wp_X7_pass_0 at h
  show yJ Z _ 0 0 _ 0 [(0, .ref (M 0)), (1, .int nw)] []
  refine y_aload_n C dX7_pass_0 0 rfl rfl ?_
  refine y_iconst (v := 0) C dX7_pass_1 (by decide) ?_
  obtain ⟨m1, em1⟩ : ∃ z : MV, z = mI m 0 (0 : Int32) := ⟨_, rfl⟩
  have h := y_letP h em1
  refine y_put (Cn := RX7) (T := TX7) (N := 26) (v := .int (0 : Int32)) (ty0 := tyX7) (L1 := ([modW g M m1] : List va_W)) C dX7_pass_2 hX7_pass_X7 0 (sh_5000 g M m) rfl 0 (Nat.le_of_ble_eq_true rfl) kX7_pass_1 tyX7_ok nmX7 rfl rfl rfl (Nat.le_of_ble_eq_true rfl) (sh_5029 g M m (0 : Int32) m1 em1) ?_
  refine y_iload_n C dX7_pass_5 1 rfl rfl ?_
  refine y_aload_n C dX7_pass_6 0 rfl rfl ?_
  refine y_get (Cn := RX7) (T := TX7) (N := 26) (v := .ref (M 1)) C dX7_pass_7 hX7_pass_X7 0 (sh_5000 g M m1) rfl 1 (Nat.le_of_ble_eq_true rfl) kX7_pass_2 rfl ?_
  refine y_bipush (v := 6) C dX7_pass_10 (by decide) ?_
  obtain ⟨hb2, h⟩ := h
  refine y_iald (N := 186) (f := (m1.2 1)) C dX7_pass_12 1 (sh_5001 g M m1) hb2 ?_
  refine y_icmp_le (tgt := 23) C dX7_pass_13 rfl h (fun c13 h => ?_) (fun c13 h => ?_)
  · refine y_bipush (v := -2) C dX7_pass_23 (by decide) ?_
    exact HR 25 dX7_pass_25 (-2 : Int32) _ _ _ _ (rfl) (Nat.le_of_ble_eq_true rfl) (Nat.le_of_ble_eq_true rfl) (hK _ _  h)
  · refine y_iload_n C dX7_pass_16 1 rfl rfl ?_
    refine y_sipush (v := 2000) C dX7_pass_17 (by decide) ?_
    refine y_icmp_le (tgt := 26) C dX7_pass_20 rfl h (fun c20 h => ?_) (fun c20 h => ?_)
    · refine y_aload_n C dX7_pass_26 0 rfl rfl ?_
      refine y_callVv (As := []) (rest := []) C dX7_pass_27 (u_X7_records g M m1 h) rfl rfl rfl rfl ⟨Nat.le_of_ble_eq_true rfl, Nat.le_of_ble_eq_true rfl⟩ gX7_pass_X7_records (nA := 0) (by decide +kernel) rfl (sh_5010 g M m1) (Nat.le_of_ble_eq_true rfl) ⟨Nat.le_of_ble_eq_true rfl, Nat.le_of_ble_eq_true rfl⟩ [0] [] (nB := 1) rfl (by decide +kernel) (sh_5009 g M m1) (fun w9 hw => ?_)
      obtain ⟨m3, h, rfl⟩ := hw
      refine ⟨([modW g M m3] : List va_W), (sh_5023 g M m1 m3), ?_⟩
      refine y_iconst (v := 0) C dX7_pass_30 (by decide) ?_
      refine y_istore_n (lv' := [(2, .int (0 : Int32)), (0, .ref (M 0)), (1, .int nw)]) C dX7_pass_31 rfl (Nat.le_of_ble_eq_true rfl) rfl ?_
      refine y_aload_n C dX7_pass_32 1 rfl rfl ?_
      refine y_callVv (As := []) (rest := []) C dX7_pass_33 (u_X7_drivesRoute g M m3 h) rfl rfl rfl rfl ⟨Nat.le_of_ble_eq_true rfl, Nat.le_of_ble_eq_true rfl⟩ gX7_pass_X7_drivesRoute (nA := 0) (by decide +kernel) rfl (sh_5010 g M m3) (Nat.le_of_ble_eq_true rfl) ⟨Nat.le_of_ble_eq_true rfl, Nat.le_of_ble_eq_true rfl⟩ [0] [] (nB := 1) rfl (by decide +kernel) (sh_5009 g M m3) (fun w9 hw => ?_)
      obtain ⟨m5, h, rfl⟩ := hw
      refine ⟨([modW g M m5] : List va_W), (sh_5023 g M m3 m5), ?_⟩
      refine y_sub (lv' := [(0, .ref (M 0)), (1, .int nw), (2, .int (0 : Int32))]) [1, 2, 0] rfl ?_
      exact hX36 _ _ h
    · refine y_bipush (v := -2) C dX7_pass_23 (by decide) ?_
      exact HR 25 dX7_pass_25 (-2 : Int32) _ _ _ _ (rfl) (Nat.le_of_ble_eq_true rfl) (Nat.le_of_ble_eq_true rfl) (hK _ _  h)
theorem u_X7_pass (g : yG) (M : Nat → Nat) (m : MV) (nw : Int32) {K : Int32 → MV → Prop} (hPO : PO_X7_pass nw K m ) : yM g yX7_pass wsX7_pass ({ frames := 6, cells := 0, slots := 0, locals := 135 } : Room) [.ref (M 0), .int nw] ([modW g M m] : List va_W) (fun r w => ∃ m' : MV, K r m' ∧ w = ([modW g M m'] : List va_W)) 0 0 :=
  t_X7_pass g M m nw (fun r0 m hk => ⟨m, hk, rfl⟩) hPO
