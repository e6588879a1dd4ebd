theorem dX7_dearest_0 : decode cX7_dearest 0 = .ok (.aload_n 0, 1) := by decide +kernel
theorem dX7_dearest_1 : decode cX7_dearest 1 = .ok (.iconst 0, 1) := by decide +kernel
theorem dX7_dearest_2 : decode cX7_dearest 2 = .ok (.putfield 44, 3) := by decide +kernel
theorem dX7_dearest_5 : decode cX7_dearest 5 = .ok (.iload_n 1, 1) := by decide +kernel
theorem dX7_dearest_6 : decode cX7_dearest 6 = .ok (.iconst 0, 1) := by decide +kernel
theorem dX7_dearest_7 : decode cX7_dearest 7 = .ok (.iconst 1, 1) := by decide +kernel
theorem dX7_dearest_8 : decode cX7_dearest 8 = .ok (.invokestatic 48, 3) := by decide +kernel
theorem dX7_dearest_11 : decode cX7_dearest 11 = .ok (.ifCond .ne 6, 3) := by decide +kernel
theorem dX7_dearest_14 : decode cX7_dearest 14 = .ok (.bipush (-2), 2) := by decide +kernel
theorem dX7_dearest_16 : decode cX7_dearest 16 = .ok (.ireturn, 1) := by decide +kernel
theorem dX7_dearest_17 : decode cX7_dearest 17 = .ok (.aload_n 0, 1) := by decide +kernel
theorem dX7_dearest_18 : decode cX7_dearest 18 = .ok (.invokevirtual 164, 3) := by decide +kernel
theorem dX7_dearest_21 : decode cX7_dearest 21 = .ok (.aload_n 0, 1) := by decide +kernel
theorem dX7_dearest_22 : decode cX7_dearest 22 = .ok (.getfield 87, 3) := by decide +kernel
theorem dX7_dearest_25 : decode cX7_dearest 25 = .ok (.istore_n 2, 1) := by decide +kernel
theorem dX7_dearest_26 : decode cX7_dearest 26 = .ok (.bipush (-6), 2) := by decide +kernel
theorem dX7_dearest_28 : decode cX7_dearest 28 = .ok (.istore_n 3, 1) := by decide +kernel
theorem dX7_dearest_29 : decode cX7_dearest 29 = .ok (.iconst 0, 1) := by decide +kernel
theorem dX7_dearest_30 : decode cX7_dearest 30 = .ok (.istore 4, 2) := by decide +kernel
theorem dX7_dearest_32 : decode cX7_dearest 32 = .ok (.aload_n 0, 1) := by decide +kernel
theorem dX7_dearest_33 : decode cX7_dearest 33 = .ok (.invokevirtual 209, 3) := by decide +kernel
theorem dX7_dearest_36 : decode cX7_dearest 36 = .ok (.iconst 0, 1) := by decide +kernel
theorem dX7_dearest_37 : decode cX7_dearest 37 = .ok (.istore 5, 2) := by decide +kernel
theorem dX7_dearest_39 : decode cX7_dearest 39 = .ok (.iload 5, 2) := by decide +kernel
theorem dX7_dearest_41 : decode cX7_dearest 41 = .ok (.aload_n 0, 1) := by decide +kernel
theorem dX7_dearest_42 : decode cX7_dearest 42 = .ok (.getfield 7, 3) := by decide +kernel
theorem dX7_dearest_45 : decode cX7_dearest 45 = .ok (.iconst 4, 1) := by decide +kernel
theorem dX7_dearest_46 : decode cX7_dearest 46 = .ok (.iaload, 1) := by decide +kernel
theorem dX7_dearest_47 : decode cX7_dearest 47 = .ok (.if_icmp .ge 61, 3) := by decide +kernel
theorem dX7_dearest_50 : decode cX7_dearest 50 = .ok (.aload_n 0, 1) := by decide +kernel
theorem dX7_dearest_51 : decode cX7_dearest 51 = .ok (.iload 5, 2) := by decide +kernel
theorem dX7_dearest_53 : decode cX7_dearest 53 = .ok (.iconst 4, 1) := by decide +kernel
theorem dX7_dearest_54 : decode cX7_dearest 54 = .ok (.invokevirtual 59, 3) := by decide +kernel
theorem dX7_dearest_57 : decode cX7_dearest 57 = .ok (.ifCond .ne 45, 3) := by decide +kernel
theorem dX7_dearest_60 : decode cX7_dearest 60 = .ok (.aload_n 0, 1) := by decide +kernel
theorem dX7_dearest_61 : decode cX7_dearest 61 = .ok (.iload 5, 2) := by decide +kernel
theorem dX7_dearest_63 : decode cX7_dearest 63 = .ok (.invokevirtual 161, 3) := by decide +kernel
theorem dX7_dearest_66 : decode cX7_dearest 66 = .ok (.aload_n 0, 1) := by decide +kernel
theorem dX7_dearest_67 : decode cX7_dearest 67 = .ok (.invokevirtual 164, 3) := by decide +kernel
theorem dX7_dearest_70 : decode cX7_dearest 70 = .ok (.iload_n 2, 1) := by decide +kernel
theorem dX7_dearest_71 : decode cX7_dearest 71 = .ok (.aload_n 0, 1) := by decide +kernel
theorem dX7_dearest_72 : decode cX7_dearest 72 = .ok (.getfield 87, 3) := by decide +kernel
theorem dX7_dearest_75 : decode cX7_dearest 75 = .ok (.isub, 1) := by decide +kernel
theorem dX7_dearest_76 : decode cX7_dearest 76 = .ok (.istore 6, 2) := by decide +kernel
theorem dX7_dearest_78 : decode cX7_dearest 78 = .ok (.aload_n 0, 1) := by decide +kernel
theorem dX7_dearest_79 : decode cX7_dearest 79 = .ok (.invokevirtual 212, 3) := by decide +kernel
theorem dX7_dearest_82 : decode cX7_dearest 82 = .ok (.iload_n 3, 1) := by decide +kernel
theorem dX7_dearest_83 : decode cX7_dearest 83 = .ok (.bipush (-6), 2) := by decide +kernel
theorem dX7_dearest_85 : decode cX7_dearest 85 = .ok (.if_icmp .eq 10, 3) := by decide +kernel
theorem dX7_dearest_88 : decode cX7_dearest 88 = .ok (.iload 6, 2) := by decide +kernel
theorem dX7_dearest_90 : decode cX7_dearest 90 = .ok (.iload 4, 2) := by decide +kernel
theorem dX7_dearest_92 : decode cX7_dearest 92 = .ok (.if_icmp .le 10, 3) := by decide +kernel
theorem dX7_dearest_95 : decode cX7_dearest 95 = .ok (.iload 5, 2) := by decide +kernel
theorem dX7_dearest_97 : decode cX7_dearest 97 = .ok (.istore_n 3, 1) := by decide +kernel
theorem dX7_dearest_98 : decode cX7_dearest 98 = .ok (.iload 6, 2) := by decide +kernel
theorem dX7_dearest_100 : decode cX7_dearest 100 = .ok (.istore 4, 2) := by decide +kernel
theorem dX7_dearest_102 : decode cX7_dearest 102 = .ok (.iinc 5 1, 3) := by decide +kernel
theorem dX7_dearest_105 : decode cX7_dearest 105 = .ok (.goto (-66), 3) := by decide +kernel
theorem dX7_dearest_108 : decode cX7_dearest 108 = .ok (.iload_n 3, 1) := by decide +kernel
theorem dX7_dearest_109 : decode cX7_dearest 109 = .ok (.bipush (-6), 2) := by decide +kernel
theorem dX7_dearest_111 : decode cX7_dearest 111 = .ok (.if_icmp .ne 8, 3) := by decide +kernel
theorem dX7_dearest_114 : decode cX7_dearest 114 = .ok (.bipush (-6), 2) := by decide +kernel
theorem dX7_dearest_116 : decode cX7_dearest 116 = .ok (.goto 13, 3) := by decide +kernel
theorem dX7_dearest_119 : decode cX7_dearest 119 = .ok (.iload_n 1, 1) := by decide +kernel
theorem dX7_dearest_120 : decode cX7_dearest 120 = .ok (.ifCond .ne 7, 3) := by decide +kernel
theorem dX7_dearest_123 : decode cX7_dearest 123 = .ok (.iload_n 3, 1) := by decide +kernel
theorem dX7_dearest_124 : decode cX7_dearest 124 = .ok (.goto 5, 3) := by decide +kernel
theorem dX7_dearest_127 : decode cX7_dearest 127 = .ok (.iload 4, 2) := by decide +kernel
theorem dX7_dearest_129 : decode cX7_dearest 129 = .ok (.ireturn, 1) := by decide +kernel
set_option maxRecDepth 20000 in
theorem ggX7_dearest_X7_of : GoodIn wsX7_dearest wsX7_of := goodIn_r _ [34, 3, 83, 84, 85, 86, 87, 88, 89, 90, 91, 92, 93, 94, 95, 96, 97, 98, 99, 100, 101, 102, 103, 104, 105, 106, 107, 108] (by decide +kernel) (by decide +kernel)
set_option maxRecDepth 20000 in
theorem gX7_dearest_X7_of : GoodIn wsX7_dearest (wsV RX7 59 RX7 yX7_of wsX7_of) := goodIn_app (goodIn_of _ (by decide +kernel)) ggX7_dearest_X7_of
set_option maxRecDepth 20000 in
theorem ggX7_dearest_X7_cancels : GoodIn wsX7_dearest wsX7_cancels := goodIn_r _ [66, 67, 68, 69, 6, 70, 3, 71, 72, 73, 74, 35, 36, 37, 38, 31, 32, 33, 34, 39, 40, 41, 42, 43, 44, 45, 75, 76, 77, 78, 83, 84, 85, 86, 87, 88, 89, 90, 91, 92, 93, 94, 95, 96, 97, 98, 99, 100, 101, 102, 103, 104, 105, 106, 107, 108] (by decide +kernel) (by decide +kernel)
set_option maxRecDepth 20000 in
theorem gX7_dearest_X7_cancels : GoodIn wsX7_dearest (wsV RX7 161 RX7 yX7_cancels wsX7_cancels) := goodIn_app (goodIn_of _ (by decide +kernel)) ggX7_dearest_X7_cancels
set_option maxRecDepth 20000 in
theorem ggX7_dearest_X7_drivesRoute : GoodIn wsX7_dearest wsX7_drivesRoute := goodIn_r _ [11, 3, 12, 13, 14, 6, 15, 16, 17, 18, 19, 20, 21, 22, 23, 24, 25, 26, 2, 27, 28, 29, 30, 31, 32, 33, 34, 35, 36, 37, 38, 39, 40, 41, 42, 43, 44, 45, 46, 47, 48, 49, 50, 51, 52, 53, 54, 55, 56, 57, 83, 84, 85, 86, 87, 88, 89, 90, 91, 92, 93, 94, 95, 96, 97, 98, 99, 100, 101, 102, 103, 104, 105, 106, 107, 108] (by decide +kernel) (by decide +kernel)
set_option maxRecDepth 20000 in
theorem gX7_dearest_X7_drivesRoute : GoodIn wsX7_dearest (wsV RX7 164 RX7 yX7_drivesRoute wsX7_drivesRoute) := goodIn_app (goodIn_of _ (by decide +kernel)) ggX7_dearest_X7_drivesRoute
set_option maxRecDepth 20000 in
theorem ggX7_dearest_X7_takeBack : GoodIn wsX7_dearest wsX7_takeBack := goodIn_r _ [82, 3, 62, 83, 84, 85, 86, 87, 88, 89, 90, 91, 92, 93, 94, 95, 96, 97, 98, 99, 100, 101, 102, 103, 104, 105, 106, 107, 108] (by decide +kernel) (by decide +kernel)
set_option maxRecDepth 20000 in
theorem gX7_dearest_X7_takeBack : GoodIn wsX7_dearest (wsV RX7 212 RX7 yX7_takeBack wsX7_takeBack) := goodIn_app (goodIn_of _ (by decide +kernel)) ggX7_dearest_X7_takeBack
set_option maxRecDepth 20000 in
theorem ggX7_dearest_X7_in : GoodIn wsX7_dearest wsX7_in := goodIn_r _ [7] (by decide +kernel) (by decide +kernel)
set_option maxRecDepth 20000 in
theorem gX7_dearest_X7_in : GoodIn wsX7_dearest (va_wsS RX7 48 yX7_in wsX7_in) := goodIn_app (goodIn_of _ (by decide +kernel)) ggX7_dearest_X7_in
set_option maxRecDepth 20000 in
theorem ggX7_dearest_X7_putAside : GoodIn wsX7_dearest wsX7_putAside := goodIn_r _ [61, 62, 3, 83, 84, 85, 86, 87, 88, 89, 90, 91, 92, 93, 94, 95, 96, 97, 98, 99, 100, 101, 102, 103, 104, 105, 106, 107, 108] (by decide +kernel) (by decide +kernel)
set_option maxRecDepth 20000 in
theorem gX7_dearest_X7_putAside : GoodIn wsX7_dearest (wsV RX7 209 RX7 yX7_putAside wsX7_putAside) := goodIn_app (goodIn_of _ (by decide +kernel)) ggX7_dearest_X7_putAside
theorem kX7_dearest_3 : Cond.fieldLink RX7 7 "BookedDetoursModel" "s" "[I" ∈ wsX7_dearest := List.mem_of_getElem? (i := 3) (by decide +kernel)
theorem kX7_dearest_2 : Cond.fieldLink RX7 87 "BookedDetoursModel" "over" "I" ∈ wsX7_dearest := List.mem_of_getElem? (i := 2) (by decide +kernel)
theorem kX7_dearest_1 : Cond.fieldLink RX7 44 "BookedDetoursModel" "thrown" "I" ∈ wsX7_dearest := List.mem_of_getElem? (i := 1) (by decide +kernel)
theorem hX7_dearest_X7 : ∀ w ∈ u_ws RX7 TX7 26, w ∈ wsX7_dearest := fun _ h => List.mem_cons_of_mem _ (List.mem_append_right _ h)
set_option maxHeartbeats 4000000 in
set_option maxRecDepth 100000 in
theorem w_X7_dearest_102 {Z : yZ} (g : yG) (M : Nat → Nat) (wh : Int32) (C : yC Z g cX7_dearest 7 wsX7_dearest RX7) {post : Int32 → List va_W → Prop} (HR : yRi Z ({ frames := 6, cells := 0, slots := 0, locals := 135 } : Room) cX7_dearest .int post 0 0) {X39 : MV → Int32 → Int32 → Int32 → Int32 → Prop} (hX39 : ∀ (m : MV) (x2 : Int32) (x3 : Int32) (x4 : Int32) (x5 : Int32), X39 m x2 x3 x4 x5 → yJ Z ({ frames := 6, cells := 0, slots := 0, locals := 135 } : Room) 0 0 ([modW g M m] : List va_W) 39 [(0, .ref (M 0)), (1, .int wh), (2, .int x2), (3, .int x3), (4, .int x4), (5, .int x5)] []) {K : Int32 → MV → Prop} (hK : ∀ (r0 : Int32) (m : MV), K r0 m → post r0 ([modW g M m] : List va_W)) (m : MV) (x2 : Int32) (x3 : Int32) (x4 : Int32) (x5 : Int32) (h : wp_X7_dearest_102 wh X39 K m x2 x3 x4 x5) : yJ Z ({ frames := 6, cells := 0, slots := 0, locals := 135 } : Room) 0 0 ([modW g M m] : List va_W) 102 [(0, .ref (M 0)), (1, .int wh), (2, .int x2), (3, .int x3), (4, .int x4), (5, .int x5)] [] := by
  unfold wp_X7_dearest_102 at h
  refine y_iinc (v := (x5 + (1 : Int32))) (lv' := [(5, .int (x5 + (1 : Int32))), (0, .ref (M 0)), (1, .int wh), (2, .int x2), (3, .int x3), (4, .int x4)]) C dX7_dearest_102 5 rfl rfl (Nat.le_of_ble_eq_true rfl) rfl ?_
  refine y_goto (tgt := 39) C dX7_dearest_105 rfl ?_
  refine y_sub (lv' := [(0, .ref (M 0)), (1, .int wh), (2, .int x2), (3, .int x3), (4, .int x4), (5, .int (x5 + (1 : Int32)))]) [1, 2, 3, 4, 5, 0] rfl ?_
  exact hX39 _ _ _ _ _ h
set_option maxHeartbeats 4000000 in
set_option maxRecDepth 100000 in
theorem w_X7_dearest_95 {Z : yZ} (g : yG) (M : Nat → Nat) (wh : Int32) (C : yC Z g cX7_dearest 7 wsX7_dearest RX7) {post : Int32 → List va_W → Prop} (HR : yRi Z ({ frames := 6, cells := 0, slots := 0, locals := 135 } : Room) cX7_dearest .int post 0 0) {X39 : MV → Int32 → Int32 → Int32 → Int32 → Prop} (hX39 : ∀ (m : MV) (x2 : Int32) (x3 : Int32) (x4 : Int32) (x5 : Int32), X39 m x2 x3 x4 x5 → yJ Z ({ frames := 6, cells := 0, slots := 0, locals := 135 } : Room) 0 0 ([modW g M m] : List va_W) 39 [(0, .ref (M 0)), (1, .int wh), (2, .int x2), (3, .int x3), (4, .int x4), (5, .int x5)] []) {K : Int32 → MV → Prop} (hK : ∀ (r0 : Int32) (m : MV), K r0 m → post r0 ([modW g M m] : List va_W)) (m : MV) (x2 : Int32) (x5 : Int32) (x6 : Int32) (h : wp_X7_dearest_95 wh X39 K m x2 x5 x6) : yJ Z ({ frames := 6, cells := 0, slots := 0, locals := 135 } : Room) 0 0 ([modW g M m] : List va_W) 95 [(0, .ref (M 0)), (1, .int wh), (2, .int x2), (5, .int x5), (6, .int x6)] [] := by
  unfold wp_X7_dearest_95 at h
  refine y_iload C dX7_dearest_95 3 rfl ?_
  refine y_istore_n (lv' := [(3, .int x5), (0, .ref (M 0)), (1, .int wh), (2, .int x2), (5, .int x5), (6, .int x6)]) C dX7_dearest_97 rfl (Nat.le_of_ble_eq_true rfl) rfl ?_
  refine y_iload C dX7_dearest_98 5 rfl ?_
  refine y_istore (lv' := [(4, .int x6), (3, .int x5), (0, .ref (M 0)), (1, .int wh), (2, .int x2), (5, .int x5), (6, .int x6)]) C dX7_dearest_100 (Nat.le_of_ble_eq_true rfl) rfl ?_
  refine y_sub (lv' := [(0, .ref (M 0)), (1, .int wh), (2, .int x2), (3, .int x5), (4, .int x6), (5, .int x5)]) [2, 3, 4, 1, 0, 5] rfl ?_
  exact w_X7_dearest_102 g M wh C HR hX39 hK _ _ _ _ _ h
set_option maxHeartbeats 4000000 in
set_option maxRecDepth 100000 in
theorem w_X7_dearest_39 {Z : yZ} (g : yG) (M : Nat → Nat) (wh : Int32) (C : yC Z g cX7_dearest 7 wsX7_dearest RX7) {post : Int32 → List va_W → Prop} (HR : yRi Z ({ frames := 6, cells := 0, slots := 0, locals := 135 } : Room) cX7_dearest .int post 0 0) {X39 : MV → Int32 → Int32 → Int32 → Int32 → Prop} (hX39 : ∀ (m : MV) (x2 : Int32) (x3 : Int32) (x4 : Int32) (x5 : Int32), X39 m x2 x3 x4 x5 → yJ Z ({ frames := 6, cells := 0, slots := 0, locals := 135 } : Room) 0 0 ([modW g M m] : List va_W) 39 [(0, .ref (M 0)), (1, .int wh), (2, .int x2), (3, .int x3), (4, .int x4), (5, .int x5)] []) {K : Int32 → MV → Prop} (hK : ∀ (r0 : Int32) (m : MV), K r0 m → post r0 ([modW g M m] : List va_W)) (m : MV) (x2 : Int32) (x3 : Int32) (x4 : Int32) (x5 : Int32) (h : wp_X7_dearest_39 wh X39 K m x2 x3 x4 x5) : yJ Z ({ frames := 6, cells := 0, slots := 0, locals := 135 } : Room) 0 0 ([modW g M m] : List va_W) 39 [(0, .ref (M 0)), (1, .int wh), (2, .int x2), (3, .int x3), (4, .int x4), (5, .int x5)] [] := by
  unfold wp_X7_dearest_39 at h
  refine y_iload C dX7_dearest_39 5 rfl ?_
  refine y_aload_n C dX7_dearest_41 0 rfl rfl ?_
  refine y_get (Cn := RX7) (T := TX7) (N := 26) (v := .ref (M 1)) C dX7_dearest_42 hX7_dearest_X7 0 (sh_5000 g M m) rfl 1 (Nat.le_of_ble_eq_true rfl) kX7_dearest_3 rfl ?_
  refine y_iconst (v := 4) C dX7_dearest_45 (by decide) ?_
  obtain ⟨hb1, h⟩ := h
  refine y_iald (N := 186) (f := (m.2 1)) C dX7_dearest_46 1 (sh_5001 g M m) hb1 ?_
  refine y_icmp_ge (tgt := 108) C dX7_dearest_47 rfl h (fun c47 h => ?_) (fun c47 h => ?_)
  · refine y_iload_n C dX7_dearest_108 3 rfl rfl ?_
    refine y_bipush (v := -6) C dX7_dearest_109 (by decide) ?_
    refine y_icmp_ne (tgt := 119) C dX7_dearest_111 rfl h (fun c111 h => ?_) (fun c111 h => ?_)
    · refine y_iload_n C dX7_dearest_119 1 rfl rfl ?_
      refine y_if_ne (tgt := 127) C dX7_dearest_120 rfl h (fun c120 h => ?_) (fun c120 h => ?_)
      · refine y_iload C dX7_dearest_127 4 rfl ?_
        exact HR 129 dX7_dearest_129 x4 _ _ _ _ (rfl) (Nat.le_of_ble_eq_true rfl) (Nat.le_of_ble_eq_true rfl) (hK _ _  h)
      · refine y_iload_n C dX7_dearest_123 3 rfl rfl ?_
        refine y_goto (tgt := 129) C dX7_dearest_124 rfl ?_
        exact HR 129 dX7_dearest_129 x3 _ _ _ _ (rfl) (Nat.le_of_ble_eq_true rfl) (Nat.le_of_ble_eq_true rfl) (hK _ _  h)
    · refine y_bipush (v := -6) C dX7_dearest_114 (by decide) ?_
      refine y_goto (tgt := 129) C dX7_dearest_116 rfl ?_
      exact HR 129 dX7_dearest_129 (-6 : Int32) _ _ _ _ (rfl) (Nat.le_of_ble_eq_true rfl) (Nat.le_of_ble_eq_true rfl) (hK _ _  h)
  · refine y_aload_n C dX7_dearest_50 0 rfl rfl ?_
    refine y_iload C dX7_dearest_51 5 rfl ?_
    refine y_iconst (v := 4) C dX7_dearest_53 (by decide) ?_
    refine y_callV (As := [.int x5, .int (4 : Int32)]) (rest := []) C dX7_dearest_54 (u_X7_of g M m x5 (4 : Int32) h) rfl rfl rfl rfl ⟨Nat.le_of_ble_eq_true rfl, Nat.le_of_ble_eq_true rfl⟩ gX7_dearest_X7_of (nA := 2) (by decide +kernel) rfl (sh_5010 g M m) (Nat.le_of_ble_eq_true rfl) ⟨Nat.le_of_ble_eq_true rfl, Nat.le_of_ble_eq_true rfl⟩ [0] [] (nB := 1) rfl (by decide +kernel) (sh_5009 g M m) (fun r2 w9 hw => ?_)
    obtain ⟨h, rfl⟩ := hw
    refine ⟨([modW g M m] : List va_W), ⟨(sh_5009 g M m), rfl, rfl⟩, ?_⟩
    refine y_if_ne (tgt := 102) C dX7_dearest_57 rfl h (fun c57 h => ?_) (fun c57 h => ?_)
    · refine y_sub (lv' := [(0, .ref (M 0)), (1, .int wh), (2, .int x2), (3, .int x3), (4, .int x4), (5, .int x5)]) [0, 1, 2, 3, 4, 5] rfl ?_
      exact w_X7_dearest_102 g M wh C HR hX39 hK _ _ _ _ _ h
    · refine y_aload_n C dX7_dearest_60 0 rfl rfl ?_
      refine y_iload C dX7_dearest_61 5 rfl ?_
      refine y_callVv (As := [.int x5]) (rest := []) C dX7_dearest_63 (u_X7_cancels g M m x5 h) rfl rfl rfl rfl ⟨Nat.le_of_ble_eq_true rfl, Nat.le_of_ble_eq_true rfl⟩ gX7_dearest_X7_cancels (nA := 1) (by decide +kernel) rfl (sh_5010 g M m) (Nat.le_of_ble_eq_true rfl) ⟨Nat.le_of_ble_eq_true rfl, Nat.le_of_ble_eq_true rfl⟩ [0] [] (nB := 1) rfl (by decide +kernel) (sh_5009 g M m) (fun w9 hw => ?_)
      obtain ⟨m3, h, rfl⟩ := hw
      refine ⟨([modW g M m3] : List va_W), (sh_5023 g M m m3), ?_⟩
      refine y_aload_n C dX7_dearest_66 0 rfl rfl ?_
      refine y_callVv (As := []) (rest := []) C dX7_dearest_67 (u_X7_drivesRoute g M m3 h) rfl rfl rfl rfl ⟨Nat.le_of_ble_eq_true rfl, Nat.le_of_ble_eq_true rfl⟩ gX7_dearest_X7_drivesRoute (nA := 0) (by decide +kernel) rfl (sh_5010 g M m3) (Nat.le_of_ble_eq_true rfl) ⟨Nat.le_of_ble_eq_true rfl, Nat.le_of_ble_eq_true rfl⟩ [0] [] (nB := 1) rfl (by decide +kernel) (sh_5009 g M m3) (fun w9 hw => ?_)
      obtain ⟨m5, h, rfl⟩ := hw
      refine ⟨([modW g M m5] : List va_W), (sh_5023 g M m3 m5), ?_⟩
      refine y_iload_n C dX7_dearest_70 2 rfl rfl ?_
      refine y_aload_n C dX7_dearest_71 0 rfl rfl ?_
      refine y_get (Cn := RX7) (T := TX7) (N := 26) (v := .int (m5.1 15)) C dX7_dearest_72 hX7_dearest_X7 0 (sh_5000 g M m5) rfl 15 (Nat.le_of_ble_eq_true rfl) kX7_dearest_2 rfl ?_
      refine y_isub C dX7_dearest_75 ?_
      refine y_istore (lv' := [(6, .int (x2 - (m5.1 15))), (0, .ref (M 0)), (1, .int wh), (2, .int x2), (3, .int x3), (4, .int x4), (5, .int x5)]) C dX7_dearest_76 (Nat.le_of_ble_eq_true rfl) rfl ?_
      refine y_aload_n C dX7_dearest_78 1 rfl rfl ?_
      refine y_callVv (As := []) (rest := []) C dX7_dearest_79 (u_X7_takeBack g M m5 h) rfl rfl rfl rfl ⟨Nat.le_of_ble_eq_true rfl, Nat.le_of_ble_eq_true rfl⟩ gX7_dearest_X7_takeBack (nA := 0) (by decide +kernel) rfl (sh_5010 g M m5) (Nat.le_of_ble_eq_true rfl) ⟨Nat.le_of_ble_eq_true rfl, Nat.le_of_ble_eq_true rfl⟩ [0] [] (nB := 1) rfl (by decide +kernel) (sh_5009 g M m5) (fun w9 hw => ?_)
      obtain ⟨m7, h, rfl⟩ := hw
      refine ⟨([modW g M m7] : List va_W), (sh_5023 g M m5 m7), ?_⟩
      refine y_iload_n C dX7_dearest_82 4 rfl rfl ?_
      refine y_bipush (v := -6) C dX7_dearest_83 (by decide) ?_
      refine y_icmp_eq (tgt := 95) C dX7_dearest_85 rfl h (fun c85 h => ?_) (fun c85 h => ?_)
      · refine y_sub (lv' := [(0, .ref (M 0)), (1, .int wh), (2, .int x2), (5, .int x5), (6, .int (x2 - (m5.1 15)))]) [1, 2, 3, 6, 0] rfl ?_
        exact w_X7_dearest_95 g M wh C HR hX39 hK _ _ _ _ h
      · refine y_iload C dX7_dearest_88 0 rfl ?_
        refine y_iload C dX7_dearest_90 5 rfl ?_
        refine y_icmp_le (tgt := 102) C dX7_dearest_92 rfl h (fun c92 h => ?_) (fun c92 h => ?_)
        · refine y_sub (lv' := [(0, .ref (M 0)), (1, .int wh), (2, .int x2), (3, .int x3), (4, .int x4), (5, .int x5)]) [1, 2, 3, 4, 5, 6] rfl ?_
          exact w_X7_dearest_102 g M wh C HR hX39 hK _ _ _ _ _ h
        · refine y_sub (lv' := [(0, .ref (M 0)), (1, .int wh), (2, .int x2), (5, .int x5), (6, .int (x2 - (m5.1 15)))]) [1, 2, 3, 6, 0] rfl ?_
          exact w_X7_dearest_95 g M wh C HR hX39 hK _ _ _ _ h
set_option maxHeartbeats 4000000 in
set_option maxRecDepth 100000 in
theorem l_X7_dearest {Z : yZ} (g : yG) (M : Nat → Nat) (wh : Int32) (C : yC Z g cX7_dearest 7 wsX7_dearest RX7) {post : Int32 → List va_W → Prop} (HR : yRi Z ({ frames := 6, cells := 0, slots := 0, locals := 135 } : Room) cX7_dearest .int post 0 0) {K : Int32 → MV → Prop} (hK : ∀ (r0 : Int32) (m : MV), K r0 m → post r0 ([modW g M m] : List va_W)) {I39 : Nat → MV → Int32 → Int32 → Int32 → Int32 → Prop} (o39 : ∀ (w0 : Nat) (m : MV) (x2 : Int32) (x3 : Int32) (x4 : Int32) (x5 : Int32), I39 w0 m x2 x3 x4 x5 → wp_X7_dearest_39 wh (fun (m9 : MV) (x29 : Int32) (x39 : Int32) (x49 : Int32) (x59 : Int32) => ∃ w9, w9 < w0 ∧ I39 w9 m9 x29 x39 x49 x59) K m x2 x3 x4 x5) : ∀ w0 : Nat, (∀ (m : MV) (x2 : Int32) (x3 : Int32) (x4 : Int32) (x5 : Int32), I39 w0 m x2 x3 x4 x5 → yJ Z ({ frames := 6, cells := 0, slots := 0, locals := 135 } : Room) 0 0 ([modW g M m] : List va_W) 39 [(0, .ref (M 0)), (1, .int wh), (2, .int x2), (3, .int x3), (4, .int x4), (5, .int x5)] []) := by
  intro w0
  induction w0 using Nat.strongRecOn with
  | _ w0 ih =>
    exact fun m x2 x3 x4 x5 hi => w_X7_dearest_39 g M wh C HR (fun m x2 x3 x4 x5 hq => by obtain ⟨w9, hlt, hi⟩ := hq; exact (ih w9 hlt) m x2 x3 x4 x5 hi) hK m x2 x3 x4 x5 (o39 w0 m x2 x3 x4 x5 hi)
set_option maxHeartbeats 4000000 in
set_option maxRecDepth 100000 in
theorem t_X7_dearest (g : yG) (M : Nat → Nat) (m : MV) (wh : Int32) {post : Int32 → List va_W → Prop} {K : Int32 → MV → Prop} (hK : ∀ (r0 : Int32) (m : MV), K r0 m → post r0 ([modW g M m] : List va_W)) (hPO : PO_X7_dearest wh K m ) : yM g yX7_dearest wsX7_dearest ({ frames := 6, cells := 0, slots := 0, locals := 135 } : Room) [.ref (M 0), .int wh] ([modW g M m] : List va_W) post 0 0 := by
  refine y_entryI (cc := cX7_dearest) (maxL := 7) (by decide +kernel) rfl (Nat.le_of_ble_eq_true rfl) (fun Z C HR => ?_)
  have C : yC Z g cX7_dearest 7 wsX7_dearest RX7 := C
  obtain ⟨I39, o39, h⟩ := hPO
  have hX39 : ∀ (m : MV) (x2 : Int32) (x3 : Int32) (x4 : Int32) (x5 : Int32), (fun (m9 : MV) (x29 : Int32) (x39 : Int32) (x49 : Int32) (x59 : Int32) => ∃ w9, I39 w9 m9 x29 x39 x49 x59) m x2 x3 x4 x5 → yJ Z ({ frames := 6, cells := 0, slots := 0, locals := 135 } : Room) 0 0 ([modW g M m] : List va_W) 39 [(0, .ref (M 0)), (1, .int wh), (2, .int x2), (3, .int x3), (4, .int x4), (5, .int x5)] [] := by
    intro m x2 x3 x4 x5 hq
    obtain ⟨w9, hi⟩ := hq
    exact (l_X7_dearest g M wh C HR hK o39 w9) m x2 x3 x4 x5 hi
  unfold wp_X7_dearest_0 at h
  show yJ Z _ 0 0 _ 0 [(0, .ref (M 0)), (1, .int wh)] []
  refine y_aload_n C dX7_dearest_0 0 rfl rfl ?_
  refine y_iconst (v := 0) C dX7_dearest_1 (by decide) ?_
  obtain ⟨m1, em1⟩ : ∃ z : MV, z = mI m 0 (0 : Int32) := ⟨_, rfl⟩
  have h := y_letP h em1
  refine y_put (Cn := RX7) (T := TX7) (N := 26) (v := .int (0 : Int32)) (ty0 := tyX7) (L1 := ([modW g M m1] : List va_W)) C dX7_dearest_2 hX7_dearest_X7 0 (sh_5000 g M m) rfl 0 (Nat.le_of_ble_eq_true rfl) kX7_dearest_1 tyX7_ok nmX7 rfl rfl rfl (Nat.le_of_ble_eq_true rfl) (sh_5029 g M m (0 : Int32) m1 em1) ?_
  refine y_iload_n C dX7_dearest_5 1 rfl rfl ?_
  refine y_iconst (v := 0) C dX7_dearest_6 (by decide) ?_
  refine y_iconst (v := 1) C dX7_dearest_7 (by decide) ?_
  refine y_callS (As := [.int wh, .int (0 : Int32), .int (1 : Int32)]) (rest := []) C dX7_dearest_8 (c_X7_in g wh (0 : Int32) (1 : Int32)) rfl rfl rfl rfl ⟨Nat.le_of_ble_eq_true rfl, Nat.le_of_ble_eq_true rfl⟩ gX7_dearest_X7_in (nA := 3) (by decide +kernel) rfl (Nat.le_of_ble_eq_true rfl) ⟨Nat.le_of_ble_eq_true rfl, Nat.le_of_ble_eq_true rfl⟩ [] [0] (nB := 1) rfl (by decide +kernel) (sh_5002 g M m1) (fun r2 w9 hw => ?_)
  obtain ⟨er2, rfl⟩ := hw
  have h := y_letP h er2
  refine ⟨([modW g M m1] : List va_W), ⟨(sh_5002 g M m1), rfl, rfl⟩, ?_⟩
  refine y_if_ne (tgt := 17) C dX7_dearest_11 rfl h (fun c11 h => ?_) (fun c11 h => ?_)
  · refine y_aload_n C dX7_dearest_17 0 rfl rfl ?_
    refine y_callVv (As := []) (rest := []) C dX7_dearest_18 (u_X7_drivesRoute g M m1 h) rfl rfl rfl rfl ⟨Nat.le_of_ble_eq_true rfl, Nat.le_of_ble_eq_true rfl⟩ gX7_dearest_X7_drivesRoute (nA := 0) (by decide +kernel) rfl (sh_5010 g M m1) (Nat.le_of_ble_eq_true rfl) ⟨Nat.le_of_ble_eq_true rfl, Nat.le_of_ble_eq_true rfl⟩ [0] [] (nB := 1) rfl (by decide +kernel) (sh_5009 g M m1) (fun w9 hw => ?_)
    obtain ⟨m3, h, rfl⟩ := hw
    refine ⟨([modW g M m3] : List va_W), (sh_5023 g M m1 m3), ?_⟩
    refine y_aload_n C dX7_dearest_21 0 rfl rfl ?_
    refine y_get (Cn := RX7) (T := TX7) (N := 26) (v := .int (m3.1 15)) C dX7_dearest_22 hX7_dearest_X7 0 (sh_5000 g M m3) rfl 15 (Nat.le_of_ble_eq_true rfl) kX7_dearest_2 rfl ?_
    refine y_istore_n (lv' := [(2, .int (m3.1 15)), (0, .ref (M 0)), (1, .int wh)]) C dX7_dearest_25 rfl (Nat.le_of_ble_eq_true rfl) rfl ?_
    refine y_bipush (v := -6) C dX7_dearest_26 (by decide) ?_
    refine y_istore_n (lv' := [(3, .int (-6 : Int32)), (2, .int (m3.1 15)), (0, .ref (M 0)), (1, .int wh)]) C dX7_dearest_28 rfl (Nat.le_of_ble_eq_true rfl) rfl ?_
    refine y_iconst (v := 0) C dX7_dearest_29 (by decide) ?_
    refine y_istore (lv' := [(4, .int (0 : Int32)), (3, .int (-6 : Int32)), (2, .int (m3.1 15)), (0, .ref (M 0)), (1, .int wh)]) C dX7_dearest_30 (Nat.le_of_ble_eq_true rfl) rfl ?_
    refine y_aload_n C dX7_dearest_32 3 rfl rfl ?_
    refine y_callVv (As := []) (rest := []) C dX7_dearest_33 (u_X7_putAside g M m3 h) rfl rfl rfl rfl ⟨Nat.le_of_ble_eq_true rfl, Nat.le_of_ble_eq_true rfl⟩ gX7_dearest_X7_putAside (nA := 0) (by decide +kernel) rfl (sh_5010 g M m3) (Nat.le_of_ble_eq_true rfl) ⟨Nat.le_of_ble_eq_true rfl, Nat.le_of_ble_eq_true rfl⟩ [0] [] (nB := 1) rfl (by decide +kernel) (sh_5009 g M m3) (fun w9 hw => ?_)
    obtain ⟨m5, h, rfl⟩ := hw
    refine ⟨([modW g M m5] : List va_W), (sh_5023 g M m3 m5), ?_⟩
    refine y_iconst (v := 0) C dX7_dearest_36 (by decide) ?_
    refine y_istore (lv' := [(5, .int (0 : Int32)), (4, .int (0 : Int32)), (3, .int (-6 : Int32)), (2, .int (m3.1 15)), (0, .ref (M 0)), (1, .int wh)]) C dX7_dearest_37 (Nat.le_of_ble_eq_true rfl) rfl ?_
    refine y_sub (lv' := [(0, .ref (M 0)), (1, .int wh), (2, .int (m3.1 15)), (3, .int (-6 : Int32)), (4, .int (0 : Int32)), (5, .int (0 : Int32))]) [4, 5, 3, 2, 1, 0] rfl ?_
    exact hX39 _ _ _ _ _ h
  · refine y_bipush (v := -2) C dX7_dearest_14 (by decide) ?_
    exact HR 16 dX7_dearest_16 (-2 : Int32) _ _ _ _ (rfl) (Nat.le_of_ble_eq_true rfl) (Nat.le_of_ble_eq_true rfl) (hK _ _  h)
theorem u_X7_dearest (g : yG) (M : Nat → Nat) (m : MV) (wh : Int32) {K : Int32 → MV → Prop} (hPO : PO_X7_dearest wh K m ) : yM g yX7_dearest wsX7_dearest ({ frames := 6, cells := 0, slots := 0, locals := 135 } : Room) [.ref (M 0), .int wh] ([modW g M m] : List va_W) (fun r w => ∃ m' : MV, K r m' ∧ w = ([modW g M m'] : List va_W)) 0 0 :=
  t_X7_dearest g M m wh (fun r0 m hk => ⟨m, hk, rfl⟩) hPO
