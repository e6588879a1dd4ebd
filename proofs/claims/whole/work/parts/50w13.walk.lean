theorem dX6_dearest_0 : decode cX6_dearest 0 = .ok (.iload_n 1, 1) := by decide +kernel
theorem dX6_dearest_1 : decode cX6_dearest 1 = .ok (.ifCond .eq 11, 3) := by decide +kernel
theorem dX6_dearest_4 : decode cX6_dearest 4 = .ok (.iload_n 1, 1) := by decide +kernel
theorem dX6_dearest_5 : decode cX6_dearest 5 = .ok (.iconst 1, 1) := by decide +kernel
theorem dX6_dearest_6 : decode cX6_dearest 6 = .ok (.if_icmp .eq 6, 3) := by decide +kernel
theorem dX6_dearest_9 : decode cX6_dearest 9 = .ok (.bipush (-2), 2) := by decide +kernel
theorem dX6_dearest_11 : decode cX6_dearest 11 = .ok (.ireturn, 1) := by decide +kernel
theorem dX6_dearest_12 : decode cX6_dearest 12 = .ok (.aload_n 0, 1) := by decide +kernel
theorem dX6_dearest_13 : decode cX6_dearest 13 = .ok (.aload_n 0, 1) := by decide +kernel
theorem dX6_dearest_14 : decode cX6_dearest 14 = .ok (.getfield 12, 3) := by decide +kernel
theorem dX6_dearest_17 : decode cX6_dearest 17 = .ok (.invokevirtual 171, 3) := by decide +kernel
theorem dX6_dearest_20 : decode cX6_dearest 20 = .ok (.istore_n 2, 1) := by decide +kernel
theorem dX6_dearest_21 : decode cX6_dearest 21 = .ok (.bipush (-6), 2) := by decide +kernel
theorem dX6_dearest_23 : decode cX6_dearest 23 = .ok (.istore_n 3, 1) := by decide +kernel
theorem dX6_dearest_24 : decode cX6_dearest 24 = .ok (.iconst 0, 1) := by decide +kernel
theorem dX6_dearest_25 : decode cX6_dearest 25 = .ok (.istore 4, 2) := by decide +kernel
theorem dX6_dearest_27 : decode cX6_dearest 27 = .ok (.iconst 0, 1) := by decide +kernel
theorem dX6_dearest_28 : decode cX6_dearest 28 = .ok (.istore 5, 2) := by decide +kernel
theorem dX6_dearest_30 : decode cX6_dearest 30 = .ok (.iload 5, 2) := by decide +kernel
theorem dX6_dearest_32 : decode cX6_dearest 32 = .ok (.aload_n 0, 1) := by decide +kernel
theorem dX6_dearest_33 : decode cX6_dearest 33 = .ok (.getfield 12, 3) := by decide +kernel
theorem dX6_dearest_36 : decode cX6_dearest 36 = .ok (.getfield 100, 3) := by decide +kernel
theorem dX6_dearest_39 : decode cX6_dearest 39 = .ok (.invokevirtual 59, 3) := by decide +kernel
theorem dX6_dearest_42 : decode cX6_dearest 42 = .ok (.if_icmp .ge 89, 3) := by decide +kernel
theorem dX6_dearest_45 : decode cX6_dearest 45 = .ok (.aload_n 0, 1) := by decide +kernel
theorem dX6_dearest_46 : decode cX6_dearest 46 = .ok (.getfield 12, 3) := by decide +kernel
theorem dX6_dearest_49 : decode cX6_dearest 49 = .ok (.getfield 100, 3) := by decide +kernel
theorem dX6_dearest_52 : decode cX6_dearest 52 = .ok (.iload 5, 2) := by decide +kernel
theorem dX6_dearest_54 : decode cX6_dearest 54 = .ok (.invokevirtual 72, 3) := by decide +kernel
theorem dX6_dearest_57 : decode cX6_dearest 57 = .ok (.ifCond .eq 6, 3) := by decide +kernel
theorem dX6_dearest_60 : decode cX6_dearest 60 = .ok (.goto 65, 3) := by decide +kernel
theorem dX6_dearest_63 : decode cX6_dearest 63 = .ok (.aload_n 0, 1) := by decide +kernel
theorem dX6_dearest_64 : decode cX6_dearest 64 = .ok (.getfield 26, 3) := by decide +kernel
theorem dX6_dearest_67 : decode cX6_dearest 67 = .ok (.getfield 92, 3) := by decide +kernel
theorem dX6_dearest_70 : decode cX6_dearest 70 = .ok (.aload_n 0, 1) := by decide +kernel
theorem dX6_dearest_71 : decode cX6_dearest 71 = .ok (.getfield 12, 3) := by decide +kernel
theorem dX6_dearest_74 : decode cX6_dearest 74 = .ok (.invokevirtual 93, 3) := by decide +kernel
theorem dX6_dearest_77 : decode cX6_dearest 77 = .ok (.aload_n 0, 1) := by decide +kernel
theorem dX6_dearest_78 : decode cX6_dearest 78 = .ok (.getfield 26, 3) := by decide +kernel
theorem dX6_dearest_81 : decode cX6_dearest 81 = .ok (.getfield 92, 3) := by decide +kernel
theorem dX6_dearest_84 : decode cX6_dearest 84 = .ok (.iload 5, 2) := by decide +kernel
theorem dX6_dearest_86 : decode cX6_dearest 86 = .ok (.iconst 3, 1) := by decide +kernel
theorem dX6_dearest_87 : decode cX6_dearest 87 = .ok (.invokevirtual 103, 3) := by decide +kernel
theorem dX6_dearest_90 : decode cX6_dearest 90 = .ok (.iload_n 2, 1) := by decide +kernel
theorem dX6_dearest_91 : decode cX6_dearest 91 = .ok (.aload_n 0, 1) := by decide +kernel
theorem dX6_dearest_92 : decode cX6_dearest 92 = .ok (.aload_n 0, 1) := by decide +kernel
theorem dX6_dearest_93 : decode cX6_dearest 93 = .ok (.getfield 26, 3) := by decide +kernel
theorem dX6_dearest_96 : decode cX6_dearest 96 = .ok (.getfield 92, 3) := by decide +kernel
theorem dX6_dearest_99 : decode cX6_dearest 99 = .ok (.invokevirtual 171, 3) := by decide +kernel
theorem dX6_dearest_102 : decode cX6_dearest 102 = .ok (.isub, 1) := by decide +kernel
theorem dX6_dearest_103 : decode cX6_dearest 103 = .ok (.istore 6, 2) := by decide +kernel
theorem dX6_dearest_105 : decode cX6_dearest 105 = .ok (.iload_n 3, 1) := by decide +kernel
theorem dX6_dearest_106 : decode cX6_dearest 106 = .ok (.bipush (-6), 2) := by decide +kernel
theorem dX6_dearest_108 : decode cX6_dearest 108 = .ok (.if_icmp .eq 10, 3) := by decide +kernel
theorem dX6_dearest_111 : decode cX6_dearest 111 = .ok (.iload 6, 2) := by decide +kernel
theorem dX6_dearest_113 : decode cX6_dearest 113 = .ok (.iload 4, 2) := by decide +kernel
theorem dX6_dearest_115 : decode cX6_dearest 115 = .ok (.if_icmp .le 10, 3) := by decide +kernel
theorem dX6_dearest_118 : decode cX6_dearest 118 = .ok (.iload 5, 2) := by decide +kernel
theorem dX6_dearest_120 : decode cX6_dearest 120 = .ok (.istore_n 3, 1) := by decide +kernel
theorem dX6_dearest_121 : decode cX6_dearest 121 = .ok (.iload 6, 2) := by decide +kernel
theorem dX6_dearest_123 : decode cX6_dearest 123 = .ok (.istore 4, 2) := by decide +kernel
theorem dX6_dearest_125 : decode cX6_dearest 125 = .ok (.iinc 5 1, 3) := by decide +kernel
theorem dX6_dearest_128 : decode cX6_dearest 128 = .ok (.goto (-98), 3) := by decide +kernel
theorem dX6_dearest_131 : decode cX6_dearest 131 = .ok (.iload_n 3, 1) := by decide +kernel
theorem dX6_dearest_132 : decode cX6_dearest 132 = .ok (.bipush (-6), 2) := by decide +kernel
theorem dX6_dearest_134 : decode cX6_dearest 134 = .ok (.if_icmp .ne 6, 3) := by decide +kernel
theorem dX6_dearest_137 : decode cX6_dearest 137 = .ok (.bipush (-6), 2) := by decide +kernel
theorem dX6_dearest_139 : decode cX6_dearest 139 = .ok (.ireturn, 1) := by decide +kernel
theorem dX6_dearest_140 : decode cX6_dearest 140 = .ok (.iload_n 1, 1) := by decide +kernel
theorem dX6_dearest_141 : decode cX6_dearest 141 = .ok (.ifCond .ne 7, 3) := by decide +kernel
theorem dX6_dearest_144 : decode cX6_dearest 144 = .ok (.iload_n 3, 1) := by decide +kernel
theorem dX6_dearest_145 : decode cX6_dearest 145 = .ok (.goto 5, 3) := by decide +kernel
theorem dX6_dearest_148 : decode cX6_dearest 148 = .ok (.iload 4, 2) := by decide +kernel
theorem dX6_dearest_150 : decode cX6_dearest 150 = .ok (.ireturn, 1) := by decide +kernel
set_option maxRecDepth 20000 in
theorem ggX6_dearest_X3_length : GoodIn wsX6_dearest wsX3_length := goodIn_r _ [60, 41, 190, 191] (by decide +kernel) (by decide +kernel)
set_option maxRecDepth 20000 in
theorem gX6_dearest_X3_length : GoodIn wsX6_dearest (wsV RX6 59 RX3 yX3_length wsX3_length) := goodIn_app (goodIn_of _ (by decide +kernel)) ggX6_dearest_X3_length
set_option maxRecDepth 20000 in
theorem ggX6_dearest_X3_at : GoodIn wsX6_dearest wsX3_at := goodIn_r _ [64, 41, 46, 190, 191] (by decide +kernel) (by decide +kernel)
set_option maxRecDepth 20000 in
theorem gX6_dearest_X3_at : GoodIn wsX6_dearest (wsV RX6 72 RX3 yX3_at wsX3_at) := goodIn_app (goodIn_of _ (by decide +kernel)) ggX6_dearest_X3_at
set_option maxRecDepth 20000 in
theorem ggX6_dearest_X0_copy : GoodIn wsX6_dearest wsX0_copy := goodIn_r _ [118, 119, 91, 95, 86, 85, 120, 121, 122, 56, 123, 124, 125, 126, 127, 128, 129, 43, 44, 39, 45, 41, 46, 47, 48, 49, 50, 156, 157, 158, 159, 160, 161, 162, 163, 164, 165, 166, 167, 168, 169, 170, 190, 191] (by decide +kernel) (by decide +kernel)
set_option maxRecDepth 20000 in
theorem gX6_dearest_X0_copy : GoodIn wsX6_dearest (wsV RX6 93 RX0 yX0_copy wsX0_copy) := goodIn_app (goodIn_of _ (by decide +kernel)) ggX6_dearest_X0_copy
set_option maxRecDepth 20000 in
theorem ggX6_dearest_X0_leaveOut : GoodIn wsX6_dearest wsX0_leaveOut := goodIn_r _ [133, 125, 56, 134, 135, 136, 54, 137, 126, 128, 57, 58, 59, 39, 60, 41, 61, 62, 63, 64, 46, 77, 8, 78, 138, 139, 140, 141, 127, 142, 73, 49, 74, 143, 82, 83, 84, 85, 86, 79, 80, 144, 88, 89, 90, 91, 92, 93, 94, 95, 145, 146, 147, 148, 149, 105, 106, 107, 156, 157, 158, 159, 160, 161, 162, 163, 164, 165, 166, 167, 168, 169, 170, 190, 191] (by decide +kernel) (by decide +kernel)
set_option maxRecDepth 20000 in
theorem gX6_dearest_X0_leaveOut : GoodIn wsX6_dearest (wsV RX6 103 RX0 yX0_leaveOut wsX0_leaveOut) := goodIn_app (goodIn_of _ (by decide +kernel)) ggX6_dearest_X0_leaveOut
set_option maxRecDepth 20000 in
theorem ggX6_dearest_X6_overOf : GoodIn wsX6_dearest wsX6_overOf := goodIn_r _ [9, 10, 11, 12, 13, 14, 15, 16, 17, 18, 19, 20, 21, 22, 23, 24, 25, 26, 27, 28, 29, 30, 31, 32, 33, 34, 35, 36, 37, 38, 39, 40, 41, 42, 43, 44, 45, 46, 47, 48, 49, 50, 51, 52, 53, 54, 55, 56, 57, 58, 59, 60, 61, 62, 63, 64, 65, 66, 67, 68, 69, 70, 71, 72, 73, 74, 75, 76, 77, 8, 78, 79, 80, 81, 82, 83, 84, 85, 86, 87, 88, 89, 90, 91, 92, 93, 94, 95, 96, 97, 98, 99, 100, 101, 102, 103, 104, 105, 106, 107, 108, 109, 110, 111, 112, 150, 151, 152, 153, 154, 155, 180, 181, 182, 183, 184, 185, 186, 187, 188, 189, 156, 157, 158, 159, 160, 161, 162, 163, 164, 165, 166, 167, 168, 169, 170, 190, 191] (by decide +kernel) (by decide +kernel)
set_option maxRecDepth 20000 in
theorem gX6_dearest_X6_overOf : GoodIn wsX6_dearest (wsV RX6 171 RX6 yX6_overOf wsX6_overOf) := goodIn_app (goodIn_of _ (by decide +kernel)) ggX6_dearest_X6_overOf
theorem kX6_dearest_1 : Cond.fieldLink RX6 12 "BookedDetours" "day" "LBookedDetours$Day;" ∈ wsX6_dearest := List.mem_of_getElem? (i := 1) (by decide +kernel)
theorem kX6_dearest_2 : Cond.fieldLink RX6 100 "BookedDetours$Day" "stands" "LBookedDetours$Row;" ∈ wsX6_dearest := List.mem_of_getElem? (i := 2) (by decide +kernel)
theorem kX6_dearest_3 : Cond.fieldLink RX6 26 "BookedDetours" "search" "LBookedDetours$Search;" ∈ wsX6_dearest := List.mem_of_getElem? (i := 3) (by decide +kernel)
theorem kX6_dearest_4 : Cond.fieldLink RX6 92 "BookedDetours$Search" "day" "LBookedDetours$Day;" ∈ wsX6_dearest := List.mem_of_getElem? (i := 4) (by decide +kernel)
theorem hX6_dearest_X6 : ∀ w ∈ u_ws RX6 TX6 6, w ∈ wsX6_dearest := fun _ h => List.mem_cons_of_mem _ (List.mem_append_left _ (List.mem_append_left _ (List.mem_append_left _ (List.mem_append_left _ (List.mem_append_right _ h)))))
theorem hX6_dearest_X0 : ∀ w ∈ u_ws RX0 TX0 15, w ∈ wsX6_dearest := fun _ h => List.mem_cons_of_mem _ (List.mem_append_left _ (List.mem_append_left _ (List.mem_append_left _ (List.mem_append_right _ h))))
theorem hX6_dearest_X4 : ∀ w ∈ u_ws RX4 TX4 9, w ∈ wsX6_dearest := fun _ h => List.mem_cons_of_mem _ (List.mem_append_left _ (List.mem_append_left _ (List.mem_append_right _ h)))
set_option maxHeartbeats 4000000 in
set_option maxRecDepth 100000 in
theorem w_X6_dearest_30 {Z : yZ} (g : yG) (x rp rh rl : Nat) (A : Nat → Nat) (d : RV) (G : Nat → Nat → Int32) (T : Nat → Nat) (S tq : Nat) (sv : RV) (SA : Nat → Nat) (wh : Int32) (C : yC Z g cX6_dearest 7 wsX6_dearest RX6) {post : Int32 → List va_W → Prop} (HR : yRi Z ({ frames := 5, cells := 0, slots := 0, locals := 115 } : Room) cX6_dearest .int post 0 0) {X30 : RV → RV → Int32 → Int32 → Int32 → Int32 → Prop} (hX30 : ∀ (t : RV) (sd : RV) (x2 : Int32) (x3 : Int32) (x4 : Int32) (x5 : Int32) (GT : Nat → Nat → Int32) (SG : Nat → Nat → Int32), X30 t sd x2 x3 x4 x5 → yJ Z ({ frames := 5, cells := 0, slots := 0, locals := 115 } : Room) 0 0 ([mnC x (A 0) (T 0) S rp rh rl, dayC A d, tabC T t, seaC S (SA 0) tq sv, dayC SA sd] ++ (dayR g A d G ++ (tabR g T t GT ++ dayR g SA sd SG)) : List va_W) 30 [(0, .ref x), (1, .int wh), (2, .int x2), (3, .int x3), (4, .int x4), (5, .int x5)] []) {K : Int32 → RV → RV → Prop} (hK : ∀ (r0 : Int32) (t : RV) (sd : RV) (GT : Nat → Nat → Int32) (SG : Nat → Nat → Int32), K r0 t sd → post r0 ([mnC x (A 0) (T 0) S rp rh rl, dayC A d, tabC T t, seaC S (SA 0) tq sv, dayC SA sd] ++ (dayR g A d G ++ (tabR g T t GT ++ dayR g SA sd SG)) : List va_W)) (t : RV) (sd : RV) (x2 : Int32) (x3 : Int32) (x4 : Int32) (x5 : Int32) (GT : Nat → Nat → Int32) (SG : Nat → Nat → Int32) (h : wp_X6_dearest_30 d sv wh X30 K t sd x2 x3 x4 x5) : yJ Z ({ frames := 5, cells := 0, slots := 0, locals := 115 } : Room) 0 0 ([mnC x (A 0) (T 0) S rp rh rl, dayC A d, tabC T t, seaC S (SA 0) tq sv, dayC SA sd] ++ (dayR g A d G ++ (tabR g T t GT ++ dayR g SA sd SG)) : List va_W) 30 [(0, .ref x), (1, .int wh), (2, .int x2), (3, .int x3), (4, .int x4), (5, .int x5)] [] := by
  unfold wp_X6_dearest_30 at h
  refine y_iload C dX6_dearest_30 5 rfl ?_
  refine y_aload_n C dX6_dearest_32 0 rfl rfl ?_
  refine y_get (Cn := RX6) (T := TX6) (N := 6) (v := .ref (A 0)) C dX6_dearest_33 hX6_dearest_X6 0 (sh_256 g x (A 0) (T 0) S rp rh rl A d G T t GT S (SA 0) tq sv SA sd SG) rfl 0 (Nat.le_of_ble_eq_true rfl) kX6_dearest_1 rfl ?_
  refine y_get (Cn := RX0) (T := TX0) (N := 15) (v := .ref (A 17)) C dX6_dearest_36 hX6_dearest_X0 1 (sh_257 g x (A 0) (T 0) S rp rh rl A d G T t GT S (SA 0) tq sv SA sd SG) rfl 8 (Nat.le_of_ble_eq_true rfl) kX6_dearest_2 rfl ?_
  refine y_callV (As := []) (rest := [.int x5]) C dX6_dearest_39 (c_X3_length g (A 17) (A 18) 17 (d.1 8) (G 8) (by decide)) rfl rfl rfl rfl ⟨Nat.le_of_ble_eq_true rfl, Nat.le_of_ble_eq_true rfl⟩ gX6_dearest_X3_length (nA := 0) (by decide +kernel) rfl (rowW_recv ⟨_, rfl⟩) (Nat.le_of_ble_eq_true rfl) ⟨Nat.le_of_ble_eq_true rfl, Nat.le_of_ble_eq_true rfl⟩ [13] [0, 1, 2, 3, 4, 5, 6, 7, 8, 9, 10, 11, 12, 14, 15, 16, 17, 18, 19, 20, 21, 22, 23, 24, 25, 26, 27, 28, 29, 30, 31, 32, 33] (nB := 34) rfl (by decide +kernel) (sh_258 g x (A 0) (T 0) S rp rh rl A d G T t GT S (SA 0) tq sv SA sd SG) (fun r1 w9 hw => ?_)
  obtain ⟨er1, rfl⟩ := hw
  have h := y_letP h er1
  refine ⟨([mnC x (A 0) (T 0) S rp rh rl, dayC A d, tabC T t, seaC S (SA 0) tq sv, dayC SA sd] ++ (dayR g A d G ++ (tabR g T t GT ++ dayR g SA sd SG)) : List va_W), ⟨(sh_258 g x (A 0) (T 0) S rp rh rl A d G T t GT S (SA 0) tq sv SA sd SG), rfl, rfl⟩, ?_⟩
  refine y_icmp_ge (tgt := 131) C dX6_dearest_42 rfl h (fun c42 h => ?_) (fun c42 h => ?_)
  · refine y_iload_n C dX6_dearest_131 3 rfl rfl ?_
    refine y_bipush (v := -6) C dX6_dearest_132 (by decide) ?_
    refine y_icmp_ne (tgt := 140) C dX6_dearest_134 rfl h (fun c134 h => ?_) (fun c134 h => ?_)
    · refine y_iload_n C dX6_dearest_140 1 rfl rfl ?_
      refine y_if_ne (tgt := 148) C dX6_dearest_141 rfl h (fun c141 h => ?_) (fun c141 h => ?_)
      · refine y_iload C dX6_dearest_148 4 rfl ?_
        exact HR 150 dX6_dearest_150 x4 _ _ _ _ (rfl) (Nat.le_of_ble_eq_true rfl) (Nat.le_of_ble_eq_true rfl) (hK _ _ _ _ _ h)
      · refine y_iload_n C dX6_dearest_144 3 rfl rfl ?_
        refine y_goto (tgt := 150) C dX6_dearest_145 rfl ?_
        exact HR 150 dX6_dearest_150 x3 _ _ _ _ (rfl) (Nat.le_of_ble_eq_true rfl) (Nat.le_of_ble_eq_true rfl) (hK _ _ _ _ _ h)
    · refine y_bipush (v := -6) C dX6_dearest_137 (by decide) ?_
      exact HR 139 dX6_dearest_139 (-6 : Int32) _ _ _ _ (rfl) (Nat.le_of_ble_eq_true rfl) (Nat.le_of_ble_eq_true rfl) (hK _ _ _ _ _ h)
  · refine y_aload_n C dX6_dearest_45 0 rfl rfl ?_
    refine y_get (Cn := RX6) (T := TX6) (N := 6) (v := .ref (A 0)) C dX6_dearest_46 hX6_dearest_X6 0 (sh_256 g x (A 0) (T 0) S rp rh rl A d G T t GT S (SA 0) tq sv SA sd SG) rfl 0 (Nat.le_of_ble_eq_true rfl) kX6_dearest_1 rfl ?_
    refine y_get (Cn := RX0) (T := TX0) (N := 15) (v := .ref (A 17)) C dX6_dearest_49 hX6_dearest_X0 1 (sh_257 g x (A 0) (T 0) S rp rh rl A d G T t GT S (SA 0) tq sv SA sd SG) rfl 8 (Nat.le_of_ble_eq_true rfl) kX6_dearest_2 rfl ?_
    refine y_iload C dX6_dearest_52 5 rfl ?_
    refine y_callV (As := [.int x5]) (rest := []) C dX6_dearest_54 (c_X3_at g (A 17) (A 18) 17 (d.1 8) (G 8) x5 (by decide)) rfl rfl rfl rfl ⟨Nat.le_of_ble_eq_true rfl, Nat.le_of_ble_eq_true rfl⟩ gX6_dearest_X3_at (nA := 1) (by decide +kernel) rfl (rowW_recv ⟨_, rfl⟩) (Nat.le_of_ble_eq_true rfl) ⟨Nat.le_of_ble_eq_true rfl, Nat.le_of_ble_eq_true rfl⟩ [13] [0, 1, 2, 3, 4, 5, 6, 7, 8, 9, 10, 11, 12, 14, 15, 16, 17, 18, 19, 20, 21, 22, 23, 24, 25, 26, 27, 28, 29, 30, 31, 32, 33] (nB := 34) rfl (by decide +kernel) (sh_258 g x (A 0) (T 0) S rp rh rl A d G T t GT S (SA 0) tq sv SA sd SG) (fun r2 w9 hw => ?_)
    obtain ⟨er2, rfl⟩ := hw
    have h := y_letP h er2
    refine ⟨([mnC x (A 0) (T 0) S rp rh rl, dayC A d, tabC T t, seaC S (SA 0) tq sv, dayC SA sd] ++ (dayR g A d G ++ (tabR g T t GT ++ dayR g SA sd SG)) : List va_W), ⟨(sh_258 g x (A 0) (T 0) S rp rh rl A d G T t GT S (SA 0) tq sv SA sd SG), rfl, rfl⟩, ?_⟩
    refine y_if_eq (tgt := 63) C dX6_dearest_57 rfl h (fun c57 h => ?_) (fun c57 h => ?_)
    · refine y_aload_n C dX6_dearest_63 0 rfl rfl ?_
      refine y_get (Cn := RX6) (T := TX6) (N := 6) (v := .ref S) C dX6_dearest_64 hX6_dearest_X6 0 (sh_256 g x (A 0) (T 0) S rp rh rl A d G T t GT S (SA 0) tq sv SA sd SG) rfl 2 (Nat.le_of_ble_eq_true rfl) kX6_dearest_3 rfl ?_
      refine y_get (Cn := RX4) (T := TX4) (N := 9) (v := .ref (SA 0)) C dX6_dearest_67 hX6_dearest_X4 3 (sh_259 g x (A 0) (T 0) S rp rh rl A d G T t GT S (SA 0) tq sv SA sd SG) rfl 0 (Nat.le_of_ble_eq_true rfl) kX6_dearest_4 rfl ?_
      refine y_aload_n C dX6_dearest_70 0 rfl rfl ?_
      refine y_get (Cn := RX6) (T := TX6) (N := 6) (v := .ref (A 0)) C dX6_dearest_71 hX6_dearest_X6 0 (sh_256 g x (A 0) (T 0) S rp rh rl A d G T t GT S (SA 0) tq sv SA sd SG) rfl 0 (Nat.le_of_ble_eq_true rfl) kX6_dearest_1 rfl ?_
      refine y_callVv (As := [.ref (A 0)]) (rest := []) C dX6_dearest_74 (k_X0_copy g SA sd SG A d G) rfl rfl rfl rfl ⟨Nat.le_of_ble_eq_true rfl, Nat.le_of_ble_eq_true rfl⟩ gX6_dearest_X0_copy (nA := 1) (by decide +kernel) rfl (sh_127 g SA sd SG A d G) (Nat.le_of_ble_eq_true rfl) ⟨Nat.le_of_ble_eq_true rfl, Nat.le_of_ble_eq_true rfl⟩ [4, 1, 22, 23, 24, 25, 26, 27, 28, 29, 30, 31, 32, 33, 5, 6, 7, 8, 9, 10, 11, 12, 13, 14, 15, 16] [0, 2, 3, 17, 18, 19, 20, 21] (nB := 34) rfl (by decide +kernel) (sh_260 g x (A 0) (T 0) S rp rh rl A d G T t GT S (SA 0) tq sv SA sd SG) (fun w9 hw => ?_)
      obtain ⟨sd3, G4, e5, rfl⟩ := hw
      have h := y_letP h e5
      refine ⟨([mnC x (A 0) (T 0) S rp rh rl, dayC A d, tabC T t, seaC S (SA 0) tq sv, dayC SA sd3] ++ (dayR g A d G ++ (tabR g T t GT ++ dayR g SA sd3 G4)) : List va_W), (sh_261 g x (A 0) (T 0) S rp rh rl A d G T t GT S (SA 0) tq sv SA sd SG sd3 G4), ?_⟩
      refine y_aload_n C dX6_dearest_77 0 rfl rfl ?_
      refine y_get (Cn := RX6) (T := TX6) (N := 6) (v := .ref S) C dX6_dearest_78 hX6_dearest_X6 0 (sh_256 g x (A 0) (T 0) S rp rh rl A d G T t GT S (SA 0) tq sv SA sd3 G4) rfl 2 (Nat.le_of_ble_eq_true rfl) kX6_dearest_3 rfl ?_
      refine y_get (Cn := RX4) (T := TX4) (N := 9) (v := .ref (SA 0)) C dX6_dearest_81 hX6_dearest_X4 3 (sh_259 g x (A 0) (T 0) S rp rh rl A d G T t GT S (SA 0) tq sv SA sd3 G4) rfl 0 (Nat.le_of_ble_eq_true rfl) kX6_dearest_4 rfl ?_
      refine y_iload C dX6_dearest_84 5 rfl ?_
      refine y_iconst (v := 3) C dX6_dearest_86 (by decide) ?_
      refine y_callVv (As := [.int x5, .int (3 : Int32)]) (rest := []) C dX6_dearest_87 (c_X0_leaveOut g SA sd3 G4 x5 (3 : Int32)) rfl rfl rfl rfl ⟨Nat.le_of_ble_eq_true rfl, Nat.le_of_ble_eq_true rfl⟩ gX6_dearest_X0_leaveOut (nA := 2) (by decide +kernel) rfl (sh_18 g SA sd3 G4) (Nat.le_of_ble_eq_true rfl) ⟨Nat.le_of_ble_eq_true rfl, Nat.le_of_ble_eq_true rfl⟩ [4, 22, 23, 24, 25, 26, 27, 28, 29, 30, 31, 32, 33] [0, 1, 2, 3, 5, 6, 7, 8, 9, 10, 11, 12, 13, 14, 15, 16, 17, 18, 19, 20, 21] (nB := 34) rfl (by decide +kernel) (sh_262 g x (A 0) (T 0) S rp rh rl A d G T t GT S (SA 0) tq sv SA sd3 G4) (fun w9 hw => ?_)
      obtain ⟨sd6, G7, e8, rfl⟩ := hw
      have h := y_letP h e8
      refine ⟨([mnC x (A 0) (T 0) S rp rh rl, dayC A d, tabC T t, seaC S (SA 0) tq sv, dayC SA sd6] ++ (dayR g A d G ++ (tabR g T t GT ++ dayR g SA sd6 G7)) : List va_W), (sh_263 g x (A 0) (T 0) S rp rh rl A d G T t GT S (SA 0) tq sv SA sd3 G4 sd6 G7), ?_⟩
      refine y_iload_n C dX6_dearest_90 2 rfl rfl ?_
      refine y_aload_n C dX6_dearest_91 0 rfl rfl ?_
      refine y_aload_n C dX6_dearest_92 0 rfl rfl ?_
      refine y_get (Cn := RX6) (T := TX6) (N := 6) (v := .ref S) C dX6_dearest_93 hX6_dearest_X6 0 (sh_256 g x (A 0) (T 0) S rp rh rl A d G T t GT S (SA 0) tq sv SA sd6 G7) rfl 2 (Nat.le_of_ble_eq_true rfl) kX6_dearest_3 rfl ?_
      refine y_get (Cn := RX4) (T := TX4) (N := 9) (v := .ref (SA 0)) C dX6_dearest_96 hX6_dearest_X4 3 (sh_259 g x (A 0) (T 0) S rp rh rl A d G T t GT S (SA 0) tq sv SA sd6 G7) rfl 0 (Nat.le_of_ble_eq_true rfl) kX6_dearest_4 rfl ?_
      refine y_callV (As := [.ref (SA 0)]) (rest := [.int x2]) C dX6_dearest_99 (c_X6_overOf g x (A 0) S rp rh rl T t GT SA sd6 G7) rfl rfl rfl rfl ⟨Nat.le_of_ble_eq_true rfl, Nat.le_of_ble_eq_true rfl⟩ gX6_dearest_X6_overOf (nA := 1) (by decide +kernel) rfl (sh_216 g x (A 0) (T 0) S rp rh rl T t GT SA sd6 G7) (Nat.le_of_ble_eq_true rfl) ⟨Nat.le_of_ble_eq_true rfl, Nat.le_of_ble_eq_true rfl⟩ [0, 2, 4, 17, 18, 19, 20, 21, 22, 23, 24, 25, 26, 27, 28, 29, 30, 31, 32, 33] [1, 3, 5, 6, 7, 8, 9, 10, 11, 12, 13, 14, 15, 16] (nB := 34) rfl (by decide +kernel) (sh_264 g x (A 0) (T 0) S rp rh rl A d G T t GT S (SA 0) tq sv SA sd6 G7) (fun r12 w9 hw => ?_)
      obtain ⟨er12, t9, G10, e11, rfl⟩ := hw
      have h := y_letP h er12
      have h := y_letP h e11
      refine ⟨([mnC x (A 0) (T 0) S rp rh rl, dayC A d, tabC T t9, seaC S (SA 0) tq sv, dayC SA sd6] ++ (dayR g A d G ++ (tabR g T t9 G10 ++ dayR g SA sd6 G7)) : List va_W), (sh_265 g x (A 0) (T 0) S rp rh rl A d G T t GT S (SA 0) tq sv SA sd6 G7 t9 G10), ?_⟩
      refine y_isub C dX6_dearest_102 ?_
      refine y_istore (lv' := [(6, .int (x2 - r12)), (0, .ref x), (1, .int wh), (2, .int x2), (3, .int x3), (4, .int x4), (5, .int x5)]) C dX6_dearest_103 (Nat.le_of_ble_eq_true rfl) rfl ?_
      refine y_iload_n C dX6_dearest_105 4 rfl rfl ?_
      refine y_bipush (v := -6) C dX6_dearest_106 (by decide) ?_
      refine y_icmp_eq (tgt := 118) C dX6_dearest_108 rfl h (fun c108 h => ?_) (fun c108 h => ?_)
      · refine y_iload C dX6_dearest_118 6 rfl ?_
        refine y_istore_n (lv' := [(3, .int x5), (6, .int (x2 - r12)), (0, .ref x), (1, .int wh), (2, .int x2), (4, .int x4), (5, .int x5)]) C dX6_dearest_120 rfl (Nat.le_of_ble_eq_true rfl) rfl ?_
        refine y_iload C dX6_dearest_121 1 rfl ?_
        refine y_istore (lv' := [(4, .int (x2 - r12)), (3, .int x5), (6, .int (x2 - r12)), (0, .ref x), (1, .int wh), (2, .int x2), (5, .int x5)]) C dX6_dearest_123 (Nat.le_of_ble_eq_true rfl) rfl ?_
        refine y_iinc (v := (x5 + (1 : Int32))) (lv' := [(5, .int (x5 + (1 : Int32))), (4, .int (x2 - r12)), (3, .int x5), (6, .int (x2 - r12)), (0, .ref x), (1, .int wh), (2, .int x2)]) C dX6_dearest_125 6 rfl rfl (Nat.le_of_ble_eq_true rfl) rfl ?_
        refine y_goto (tgt := 30) C dX6_dearest_128 rfl ?_
        refine y_sub (lv' := [(0, .ref x), (1, .int wh), (2, .int x2), (3, .int x5), (4, .int (x2 - r12)), (5, .int (x5 + (1 : Int32)))]) [4, 5, 6, 2, 1, 0] rfl ?_
        exact hX30 _ _ _ _ _ _ _ _ h
      · refine y_iload C dX6_dearest_111 0 rfl ?_
        refine y_iload C dX6_dearest_113 5 rfl ?_
        refine y_icmp_le (tgt := 125) C dX6_dearest_115 rfl h (fun c115 h => ?_) (fun c115 h => ?_)
        · refine y_iinc (v := (x5 + (1 : Int32))) (lv' := [(5, .int (x5 + (1 : Int32))), (6, .int (x2 - r12)), (0, .ref x), (1, .int wh), (2, .int x2), (3, .int x3), (4, .int x4)]) C dX6_dearest_125 6 rfl rfl (Nat.le_of_ble_eq_true rfl) rfl ?_
          refine y_goto (tgt := 30) C dX6_dearest_128 rfl ?_
          refine y_sub (lv' := [(0, .ref x), (1, .int wh), (2, .int x2), (3, .int x3), (4, .int x4), (5, .int (x5 + (1 : Int32)))]) [2, 3, 4, 5, 6, 0] rfl ?_
          exact hX30 _ _ _ _ _ _ _ _ h
        · refine y_iload C dX6_dearest_118 6 rfl ?_
          refine y_istore_n (lv' := [(3, .int x5), (6, .int (x2 - r12)), (0, .ref x), (1, .int wh), (2, .int x2), (4, .int x4), (5, .int x5)]) C dX6_dearest_120 rfl (Nat.le_of_ble_eq_true rfl) rfl ?_
          refine y_iload C dX6_dearest_121 1 rfl ?_
          refine y_istore (lv' := [(4, .int (x2 - r12)), (3, .int x5), (6, .int (x2 - r12)), (0, .ref x), (1, .int wh), (2, .int x2), (5, .int x5)]) C dX6_dearest_123 (Nat.le_of_ble_eq_true rfl) rfl ?_
          refine y_iinc (v := (x5 + (1 : Int32))) (lv' := [(5, .int (x5 + (1 : Int32))), (4, .int (x2 - r12)), (3, .int x5), (6, .int (x2 - r12)), (0, .ref x), (1, .int wh), (2, .int x2)]) C dX6_dearest_125 6 rfl rfl (Nat.le_of_ble_eq_true rfl) rfl ?_
          refine y_goto (tgt := 30) C dX6_dearest_128 rfl ?_
          refine y_sub (lv' := [(0, .ref x), (1, .int wh), (2, .int x2), (3, .int x5), (4, .int (x2 - r12)), (5, .int (x5 + (1 : Int32)))]) [4, 5, 6, 2, 1, 0] rfl ?_
          exact hX30 _ _ _ _ _ _ _ _ h
    · refine y_goto (tgt := 125) C dX6_dearest_60 rfl ?_
      refine y_iinc (v := (x5 + (1 : Int32))) (lv' := [(5, .int (x5 + (1 : Int32))), (0, .ref x), (1, .int wh), (2, .int x2), (3, .int x3), (4, .int x4)]) C dX6_dearest_125 5 rfl rfl (Nat.le_of_ble_eq_true rfl) rfl ?_
      refine y_goto (tgt := 30) C dX6_dearest_128 rfl ?_
      refine y_sub (lv' := [(0, .ref x), (1, .int wh), (2, .int x2), (3, .int x3), (4, .int x4), (5, .int (x5 + (1 : Int32)))]) [1, 2, 3, 4, 5, 0] rfl ?_
      exact hX30 _ _ _ _ _ _ _ _ h
set_option maxHeartbeats 4000000 in
set_option maxRecDepth 100000 in
theorem l_X6_dearest {Z : yZ} (g : yG) (x rp rh rl : Nat) (A : Nat → Nat) (d : RV) (G : Nat → Nat → Int32) (T : Nat → Nat) (S tq : Nat) (sv : RV) (SA : Nat → Nat) (wh : Int32) (C : yC Z g cX6_dearest 7 wsX6_dearest RX6) {post : Int32 → List va_W → Prop} (HR : yRi Z ({ frames := 5, cells := 0, slots := 0, locals := 115 } : Room) cX6_dearest .int post 0 0) {K : Int32 → RV → RV → Prop} (hK : ∀ (r0 : Int32) (t : RV) (sd : RV) (GT : Nat → Nat → Int32) (SG : Nat → Nat → Int32), K r0 t sd → post r0 ([mnC x (A 0) (T 0) S rp rh rl, dayC A d, tabC T t, seaC S (SA 0) tq sv, dayC SA sd] ++ (dayR g A d G ++ (tabR g T t GT ++ dayR g SA sd SG)) : List va_W)) {I30 : Nat → RV → RV → Int32 → Int32 → Int32 → Int32 → Prop} (o30 : ∀ (w0 : Nat) (t : RV) (sd : RV) (x2 : Int32) (x3 : Int32) (x4 : Int32) (x5 : Int32), I30 w0 t sd x2 x3 x4 x5 → wp_X6_dearest_30 d sv wh (fun (t9 : RV) (sd9 : RV) (x29 : Int32) (x39 : Int32) (x49 : Int32) (x59 : Int32) => ∃ w9, w9 < w0 ∧ I30 w9 t9 sd9 x29 x39 x49 x59) K t sd x2 x3 x4 x5) : ∀ w0 : Nat, (∀ (t : RV) (sd : RV) (x2 : Int32) (x3 : Int32) (x4 : Int32) (x5 : Int32) (GT : Nat → Nat → Int32) (SG : Nat → Nat → Int32), I30 w0 t sd x2 x3 x4 x5 → yJ Z ({ frames := 5, cells := 0, slots := 0, locals := 115 } : Room) 0 0 ([mnC x (A 0) (T 0) S rp rh rl, dayC A d, tabC T t, seaC S (SA 0) tq sv, dayC SA sd] ++ (dayR g A d G ++ (tabR g T t GT ++ dayR g SA sd SG)) : List va_W) 30 [(0, .ref x), (1, .int wh), (2, .int x2), (3, .int x3), (4, .int x4), (5, .int x5)] []) := by
  intro w0
  induction w0 using Nat.strongRecOn with
  | _ w0 ih =>
    exact fun t sd x2 x3 x4 x5 GT SG hi => w_X6_dearest_30 g x rp rh rl A d G T S tq sv SA wh C HR (fun t sd x2 x3 x4 x5 GT SG hq => by obtain ⟨w9, hlt, hi⟩ := hq; exact (ih w9 hlt) t sd x2 x3 x4 x5 GT SG hi) hK t sd x2 x3 x4 x5 GT SG (o30 w0 t sd x2 x3 x4 x5 hi)
set_option maxHeartbeats 4000000 in
set_option maxRecDepth 100000 in
theorem t_X6_dearest (g : yG) (x rp rh rl : Nat) (A : Nat → Nat) (d : RV) (G : Nat → Nat → Int32) (T : Nat → Nat) (t : RV) (GT : Nat → Nat → Int32) (S tq : Nat) (sv : RV) (SA : Nat → Nat) (sd : RV) (SG : Nat → Nat → Int32) (wh : Int32) {post : Int32 → List va_W → Prop} {K : Int32 → RV → RV → Prop} (hK : ∀ (r0 : Int32) (t : RV) (sd : RV) (GT : Nat → Nat → Int32) (SG : Nat → Nat → Int32), K r0 t sd → post r0 ([mnC x (A 0) (T 0) S rp rh rl, dayC A d, tabC T t, seaC S (SA 0) tq sv, dayC SA sd] ++ (dayR g A d G ++ (tabR g T t GT ++ dayR g SA sd SG)) : List va_W)) (hPO : PO_X6_dearest d sv wh K t sd ) : yM g yX6_dearest wsX6_dearest ({ frames := 5, cells := 0, slots := 0, locals := 115 } : Room) [.ref x, .int wh] ([mnC x (A 0) (T 0) S rp rh rl, dayC A d, tabC T t, seaC S (SA 0) tq sv, dayC SA sd] ++ (dayR g A d G ++ (tabR g T t GT ++ dayR g SA sd SG)) : List va_W) post 0 0 := by
  refine y_entryI (cc := cX6_dearest) (maxL := 7) (by decide +kernel) rfl (Nat.le_of_ble_eq_true rfl) (fun Z C HR => ?_)
  have C : yC Z g cX6_dearest 7 wsX6_dearest RX6 := C
  obtain ⟨I30, o30, h⟩ := hPO
  have hX30 : ∀ (t : RV) (sd : RV) (x2 : Int32) (x3 : Int32) (x4 : Int32) (x5 : Int32) (GT : Nat → Nat → Int32) (SG : Nat → Nat → Int32), (fun (t9 : RV) (sd9 : RV) (x29 : Int32) (x39 : Int32) (x49 : Int32) (x59 : Int32) => ∃ w9, I30 w9 t9 sd9 x29 x39 x49 x59) t sd x2 x3 x4 x5 → yJ Z ({ frames := 5, cells := 0, slots := 0, locals := 115 } : Room) 0 0 ([mnC x (A 0) (T 0) S rp rh rl, dayC A d, tabC T t, seaC S (SA 0) tq sv, dayC SA sd] ++ (dayR g A d G ++ (tabR g T t GT ++ dayR g SA sd SG)) : List va_W) 30 [(0, .ref x), (1, .int wh), (2, .int x2), (3, .int x3), (4, .int x4), (5, .int x5)] [] := by
    intro t sd x2 x3 x4 x5 GT SG hq
    obtain ⟨w9, hi⟩ := hq
    exact (l_X6_dearest g x rp rh rl A d G T S tq sv SA wh C HR hK o30 w9) t sd x2 x3 x4 x5 GT SG hi
  unfold wp_X6_dearest_0 at h
  show yJ Z _ 0 0 _ 0 [(0, .ref x), (1, .int wh)] []
  refine y_iload_n C dX6_dearest_0 1 rfl rfl ?_
  refine y_if_eq (tgt := 12) C dX6_dearest_1 rfl h (fun c1 h => ?_) (fun c1 h => ?_)
  · refine y_aload_n C dX6_dearest_12 0 rfl rfl ?_
    refine y_aload_n C dX6_dearest_13 0 rfl rfl ?_
    refine y_get (Cn := RX6) (T := TX6) (N := 6) (v := .ref (A 0)) C dX6_dearest_14 hX6_dearest_X6 0 (sh_256 g x (A 0) (T 0) S rp rh rl A d G T t GT S (SA 0) tq sv SA sd SG) rfl 0 (Nat.le_of_ble_eq_true rfl) kX6_dearest_1 rfl ?_
    refine y_callV (As := [.ref (A 0)]) (rest := []) C dX6_dearest_17 (c_X6_overOf g x (A 0) S rp rh rl T t GT A d G) rfl rfl rfl rfl ⟨Nat.le_of_ble_eq_true rfl, Nat.le_of_ble_eq_true rfl⟩ gX6_dearest_X6_overOf (nA := 1) (by decide +kernel) rfl (sh_216 g x (A 0) (T 0) S rp rh rl T t GT A d G) (Nat.le_of_ble_eq_true rfl) ⟨Nat.le_of_ble_eq_true rfl, Nat.le_of_ble_eq_true rfl⟩ [0, 2, 1, 17, 18, 19, 20, 21, 5, 6, 7, 8, 9, 10, 11, 12, 13, 14, 15, 16] [3, 4, 22, 23, 24, 25, 26, 27, 28, 29, 30, 31, 32, 33] (nB := 34) rfl (by decide +kernel) (sh_266 g x (A 0) (T 0) S rp rh rl A d G T t GT S (SA 0) tq sv SA sd SG) (fun r4 w9 hw => ?_)
    obtain ⟨er4, t1, G2, e3, rfl⟩ := hw
    have h := y_letP h er4
    have h := y_letP h e3
    refine ⟨([mnC x (A 0) (T 0) S rp rh rl, dayC A d, tabC T t1, seaC S (SA 0) tq sv, dayC SA sd] ++ (dayR g A d G ++ (tabR g T t1 G2 ++ dayR g SA sd SG)) : List va_W), (sh_267 g x (A 0) (T 0) S rp rh rl A d G T t GT S (SA 0) tq sv SA sd SG t1 G2), ?_⟩
    refine y_istore_n (lv' := [(2, .int r4), (0, .ref x), (1, .int wh)]) C dX6_dearest_20 rfl (Nat.le_of_ble_eq_true rfl) rfl ?_
    refine y_bipush (v := -6) C dX6_dearest_21 (by decide) ?_
    refine y_istore_n (lv' := [(3, .int (-6 : Int32)), (2, .int r4), (0, .ref x), (1, .int wh)]) C dX6_dearest_23 rfl (Nat.le_of_ble_eq_true rfl) rfl ?_
    refine y_iconst (v := 0) C dX6_dearest_24 (by decide) ?_
    refine y_istore (lv' := [(4, .int (0 : Int32)), (3, .int (-6 : Int32)), (2, .int r4), (0, .ref x), (1, .int wh)]) C dX6_dearest_25 (Nat.le_of_ble_eq_true rfl) rfl ?_
    refine y_iconst (v := 0) C dX6_dearest_27 (by decide) ?_
    refine y_istore (lv' := [(5, .int (0 : Int32)), (4, .int (0 : Int32)), (3, .int (-6 : Int32)), (2, .int r4), (0, .ref x), (1, .int wh)]) C dX6_dearest_28 (Nat.le_of_ble_eq_true rfl) rfl ?_
    refine y_sub (lv' := [(0, .ref x), (1, .int wh), (2, .int r4), (3, .int (-6 : Int32)), (4, .int (0 : Int32)), (5, .int (0 : Int32))]) [4, 5, 3, 2, 1, 0] rfl ?_
    exact hX30 _ _ _ _ _ _ _ _ h
  · refine y_iload_n C dX6_dearest_4 1 rfl rfl ?_
    refine y_iconst (v := 1) C dX6_dearest_5 (by decide) ?_
    refine y_icmp_eq (tgt := 12) C dX6_dearest_6 rfl h (fun c6 h => ?_) (fun c6 h => ?_)
    · refine y_aload_n C dX6_dearest_12 0 rfl rfl ?_
      refine y_aload_n C dX6_dearest_13 0 rfl rfl ?_
      refine y_get (Cn := RX6) (T := TX6) (N := 6) (v := .ref (A 0)) C dX6_dearest_14 hX6_dearest_X6 0 (sh_256 g x (A 0) (T 0) S rp rh rl A d G T t GT S (SA 0) tq sv SA sd SG) rfl 0 (Nat.le_of_ble_eq_true rfl) kX6_dearest_1 rfl ?_
      refine y_callV (As := [.ref (A 0)]) (rest := []) C dX6_dearest_17 (c_X6_overOf g x (A 0) S rp rh rl T t GT A d G) rfl rfl rfl rfl ⟨Nat.le_of_ble_eq_true rfl, Nat.le_of_ble_eq_true rfl⟩ gX6_dearest_X6_overOf (nA := 1) (by decide +kernel) rfl (sh_216 g x (A 0) (T 0) S rp rh rl T t GT A d G) (Nat.le_of_ble_eq_true rfl) ⟨Nat.le_of_ble_eq_true rfl, Nat.le_of_ble_eq_true rfl⟩ [0, 2, 1, 17, 18, 19, 20, 21, 5, 6, 7, 8, 9, 10, 11, 12, 13, 14, 15, 16] [3, 4, 22, 23, 24, 25, 26, 27, 28, 29, 30, 31, 32, 33] (nB := 34) rfl (by decide +kernel) (sh_266 g x (A 0) (T 0) S rp rh rl A d G T t GT S (SA 0) tq sv SA sd SG) (fun r8 w9 hw => ?_)
      obtain ⟨er8, t5, G6, e7, rfl⟩ := hw
      have h := y_letP h er8
      have h := y_letP h e7
      refine ⟨([mnC x (A 0) (T 0) S rp rh rl, dayC A d, tabC T t5, seaC S (SA 0) tq sv, dayC SA sd] ++ (dayR g A d G ++ (tabR g T t5 G6 ++ dayR g SA sd SG)) : List va_W), (sh_267 g x (A 0) (T 0) S rp rh rl A d G T t GT S (SA 0) tq sv SA sd SG t5 G6), ?_⟩
      refine y_istore_n (lv' := [(2, .int r8), (0, .ref x), (1, .int wh)]) C dX6_dearest_20 rfl (Nat.le_of_ble_eq_true rfl) rfl ?_
      refine y_bipush (v := -6) C dX6_dearest_21 (by decide) ?_
      refine y_istore_n (lv' := [(3, .int (-6 : Int32)), (2, .int r8), (0, .ref x), (1, .int wh)]) C dX6_dearest_23 rfl (Nat.le_of_ble_eq_true rfl) rfl ?_
      refine y_iconst (v := 0) C dX6_dearest_24 (by decide) ?_
      refine y_istore (lv' := [(4, .int (0 : Int32)), (3, .int (-6 : Int32)), (2, .int r8), (0, .ref x), (1, .int wh)]) C dX6_dearest_25 (Nat.le_of_ble_eq_true rfl) rfl ?_
      refine y_iconst (v := 0) C dX6_dearest_27 (by decide) ?_
      refine y_istore (lv' := [(5, .int (0 : Int32)), (4, .int (0 : Int32)), (3, .int (-6 : Int32)), (2, .int r8), (0, .ref x), (1, .int wh)]) C dX6_dearest_28 (Nat.le_of_ble_eq_true rfl) rfl ?_
      refine y_sub (lv' := [(0, .ref x), (1, .int wh), (2, .int r8), (3, .int (-6 : Int32)), (4, .int (0 : Int32)), (5, .int (0 : Int32))]) [4, 5, 3, 2, 1, 0] rfl ?_
      exact hX30 _ _ _ _ _ _ _ _ h
    · refine y_bipush (v := -2) C dX6_dearest_9 (by decide) ?_
      exact HR 11 dX6_dearest_11 (-2 : Int32) _ _ _ _ (rfl) (Nat.le_of_ble_eq_true rfl) (Nat.le_of_ble_eq_true rfl) (hK _ _ _ _ _ h)
set_option maxHeartbeats 4000000 in
set_option maxRecDepth 100000 in
theorem c_X6_dearest (g : yG) (x rp rh rl : Nat) (A : Nat → Nat) (d : RV) (G : Nat → Nat → Int32) (T : Nat → Nat) (t : RV) (GT : Nat → Nat → Int32) (S tq : Nat) (sv : RV) (SA : Nat → Nat) (sd : RV) (SG : Nat → Nat → Int32) (wh : Int32)  : yM g yX6_dearest wsX6_dearest ({ frames := 5, cells := 0, slots := 0, locals := 115 } : Room) [.ref x, .int wh] ([mnC x (A 0) (T 0) S rp rh rl, dayC A d, tabC T t, seaC S (SA 0) tq sv, dayC SA sd] ++ (dayR g A d G ++ (tabR g T t GT ++ dayR g SA sd SG)) : List va_W) (fun r w => r = (fDearest d t sd wh).1 ∧ ∃ t' : RV, ∃ sd' : RV, ∃ GT' : Nat → Nat → Int32, ∃ SG' : Nat → Nat → Int32, t' = (fDearest d t sd wh).2.1 ∧ sd' = (fDearest d t sd wh).2.2 ∧ w = ([mnC x (A 0) (T 0) S rp rh rl, dayC A d, tabC T t', seaC S (SA 0) tq sv, dayC SA sd'] ++ (dayR g A d G ++ (tabR g T t' GT' ++ dayR g SA sd' SG')) : List va_W)) 0 0 :=
  yM_fact (F := dayLen d) (fun A9 hD => dayLen_of (g := g) (A := A) (G := G) (fun x hx => by simp only [List.mem_append, hx, true_or, or_true]) hD) (fun hF => t_X6_dearest g x rp rh rl A d G T t GT S tq sv SA sd SG wh (K := (fun (r1 : Int32) (t1 : RV) (sd1 : RV) => r1 = (fDearest d t sd wh).1 ∧ t1 = (fDearest d t sd wh).2.1 ∧ sd1 = (fDearest d t sd wh).2.2)) (fun r1 t1 sd1 GT1 SG1 hh => by obtain ⟨e0, e1, e2⟩ := hh; exact ⟨e0, t1, sd1, GT1, SG1, e1, e2, rfl⟩) (p_X6_dearest (by have := hF.2.2.2.2.2.2.2.2.1; omega)))
