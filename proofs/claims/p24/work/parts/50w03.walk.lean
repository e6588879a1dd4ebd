theorem dX6_cancel_0 : decode cX6_cancel 0 = .ok (.aload_n 0, 1) := by decide +kernel
theorem dX6_cancel_1 : decode cX6_cancel 1 = .ok (.getfield 12, 3) := by decide +kernel
theorem dX6_cancel_4 : decode cX6_cancel 4 = .ok (.iload_n 1, 1) := by decide +kernel
theorem dX6_cancel_5 : decode cX6_cancel 5 = .ok (.invokevirtual 96, 3) := by decide +kernel
theorem dX6_cancel_8 : decode cX6_cancel 8 = .ok (.ifCond .ne 5, 3) := by decide +kernel
theorem dX6_cancel_11 : decode cX6_cancel 11 = .ok (.iconst (-1), 1) := by decide +kernel
theorem dX6_cancel_12 : decode cX6_cancel 12 = .ok (.ireturn, 1) := by decide +kernel
theorem dX6_cancel_13 : decode cX6_cancel 13 = .ok (.aload_n 0, 1) := by decide +kernel
theorem dX6_cancel_14 : decode cX6_cancel 14 = .ok (.getfield 12, 3) := by decide +kernel
theorem dX6_cancel_17 : decode cX6_cancel 17 = .ok (.getfield 100, 3) := by decide +kernel
theorem dX6_cancel_20 : decode cX6_cancel 20 = .ok (.iload_n 1, 1) := by decide +kernel
theorem dX6_cancel_21 : decode cX6_cancel 21 = .ok (.invokevirtual 72, 3) := by decide +kernel
theorem dX6_cancel_24 : decode cX6_cancel 24 = .ok (.ifCond .eq 6, 3) := by decide +kernel
theorem dX6_cancel_27 : decode cX6_cancel 27 = .ok (.bipush (-5), 2) := by decide +kernel
theorem dX6_cancel_29 : decode cX6_cancel 29 = .ok (.ireturn, 1) := by decide +kernel
theorem dX6_cancel_30 : decode cX6_cancel 30 = .ok (.aload_n 0, 1) := by decide +kernel
theorem dX6_cancel_31 : decode cX6_cancel 31 = .ok (.getfield 40, 3) := by decide +kernel
theorem dX6_cancel_34 : decode cX6_cancel 34 = .ok (.aload_n 0, 1) := by decide +kernel
theorem dX6_cancel_35 : decode cX6_cancel 35 = .ok (.getfield 12, 3) := by decide +kernel
theorem dX6_cancel_38 : decode cX6_cancel 38 = .ok (.invokevirtual 65, 3) := by decide +kernel
theorem dX6_cancel_41 : decode cX6_cancel 41 = .ok (.aload_n 0, 1) := by decide +kernel
theorem dX6_cancel_42 : decode cX6_cancel 42 = .ok (.getfield 12, 3) := by decide +kernel
theorem dX6_cancel_45 : decode cX6_cancel 45 = .ok (.iload_n 1, 1) := by decide +kernel
theorem dX6_cancel_46 : decode cX6_cancel 46 = .ok (.iconst 3, 1) := by decide +kernel
theorem dX6_cancel_47 : decode cX6_cancel 47 = .ok (.invokevirtual 103, 3) := by decide +kernel
theorem dX6_cancel_50 : decode cX6_cancel 50 = .ok (.aload_n 0, 1) := by decide +kernel
theorem dX6_cancel_51 : decode cX6_cancel 51 = .ok (.getfield 12, 3) := by decide +kernel
theorem dX6_cancel_54 : decode cX6_cancel 54 = .ok (.getfield 55, 3) := by decide +kernel
theorem dX6_cancel_57 : decode cX6_cancel 57 = .ok (.invokevirtual 59, 3) := by decide +kernel
theorem dX6_cancel_60 : decode cX6_cancel 60 = .ok (.ireturn, 1) := by decide +kernel
set_option maxRecDepth 20000 in
theorem ggX6_cancel_X0_hasRide : GoodIn wsX6_cancel wsX0_hasRide := goodIn_r _ [9, 10, 11, 12, 13, 14, 15, 16, 130, 131, 132, 133, 134, 135, 136, 137, 138, 139, 140, 141, 142, 143, 144, 145, 146] (by decide +kernel) (by decide +kernel)
set_option maxRecDepth 20000 in
theorem gX6_cancel_X0_hasRide : GoodIn wsX6_cancel (wsV RX6 96 RX0 yX0_hasRide wsX0_hasRide) := goodIn_app (goodIn_of _ (by decide +kernel)) ggX6_cancel_X0_hasRide
set_option maxRecDepth 20000 in
theorem ggX6_cancel_X3_at : GoodIn wsX6_cancel wsX3_at := goodIn_r _ [20, 16, 21, 145, 146] (by decide +kernel) (by decide +kernel)
set_option maxRecDepth 20000 in
theorem gX6_cancel_X3_at : GoodIn wsX6_cancel (wsV RX6 72 RX3 yX3_at wsX3_at) := goodIn_app (goodIn_of _ (by decide +kernel)) ggX6_cancel_X3_at
set_option maxRecDepth 20000 in
theorem ggX6_cancel_X1_add : GoodIn wsX6_cancel wsX1_add := goodIn_r _ [26, 27, 28, 29, 30, 8, 31, 32, 33, 25, 34, 35, 36, 37, 38, 39, 40, 41, 42, 14, 43, 44, 45, 46, 47, 48, 49, 50, 10, 51, 52, 53, 54, 55, 56, 57, 58, 59, 60, 61, 62, 21, 63, 64, 65, 66, 16, 67, 68, 69, 70, 71, 72, 73, 74, 75, 76, 77, 78, 79, 80, 81, 82, 83, 84, 147, 148, 130, 131, 132, 133, 134, 135, 136, 137, 138, 139, 140, 141, 142, 143, 144, 145, 146] (by decide +kernel) (by decide +kernel)
set_option maxRecDepth 20000 in
theorem gX6_cancel_X1_add : GoodIn wsX6_cancel (wsV RX6 65 RX1 yX1_add wsX1_add) := goodIn_app (goodIn_of _ (by decide +kernel)) ggX6_cancel_X1_add
set_option maxRecDepth 20000 in
theorem ggX6_cancel_X0_leaveOut : GoodIn wsX6_cancel wsX0_leaveOut := goodIn_r _ [88, 53, 10, 89, 90, 91, 8, 92, 75, 77, 11, 12, 13, 14, 15, 16, 93, 18, 19, 20, 21, 94, 95, 96, 97, 98, 99, 100, 76, 101, 59, 60, 61, 102, 103, 104, 105, 47, 46, 106, 107, 108, 109, 110, 111, 44, 112, 113, 114, 45, 115, 116, 117, 118, 119, 120, 121, 122, 130, 131, 132, 133, 134, 135, 136, 137, 138, 139, 140, 141, 142, 143, 144, 145, 146] (by decide +kernel) (by decide +kernel)
set_option maxRecDepth 20000 in
theorem gX6_cancel_X0_leaveOut : GoodIn wsX6_cancel (wsV RX6 103 RX0 yX0_leaveOut wsX0_leaveOut) := goodIn_app (goodIn_of _ (by decide +kernel)) ggX6_cancel_X0_leaveOut
set_option maxRecDepth 20000 in
theorem ggX6_cancel_X3_length : GoodIn wsX6_cancel wsX3_length := goodIn_r _ [15, 16, 145, 146] (by decide +kernel) (by decide +kernel)
set_option maxRecDepth 20000 in
theorem gX6_cancel_X3_length : GoodIn wsX6_cancel (wsV RX6 59 RX3 yX3_length wsX3_length) := goodIn_app (goodIn_of _ (by decide +kernel)) ggX6_cancel_X3_length
theorem kX6_cancel_1 : Cond.fieldLink RX6 12 "BookedDetours" "day" "LBookedDetours$Day;" ∈ wsX6_cancel := List.mem_of_getElem? (i := 1) (by decide +kernel)
theorem kX6_cancel_2 : Cond.fieldLink RX6 100 "BookedDetours$Day" "stands" "LBookedDetours$Row;" ∈ wsX6_cancel := List.mem_of_getElem? (i := 2) (by decide +kernel)
theorem kX6_cancel_3 : Cond.fieldLink RX6 40 "BookedDetours" "history" "LBookedDetours$History;" ∈ wsX6_cancel := List.mem_of_getElem? (i := 3) (by decide +kernel)
theorem kX6_cancel_4 : Cond.fieldLink RX6 55 "BookedDetours$Day" "route" "LBookedDetours$Row;" ∈ wsX6_cancel := List.mem_of_getElem? (i := 4) (by decide +kernel)
theorem hX6_cancel_X6 : ∀ w ∈ u_ws RX6 TX6 6, w ∈ wsX6_cancel := fun _ h => List.mem_cons_of_mem _ (List.mem_append_left _ (List.mem_append_left _ (List.mem_append_left _ (List.mem_append_right _ h))))
theorem hX6_cancel_X0 : ∀ w ∈ u_ws RX0 TX0 15, w ∈ wsX6_cancel := fun _ h => List.mem_cons_of_mem _ (List.mem_append_left _ (List.mem_append_left _ (List.mem_append_right _ h)))
set_option maxHeartbeats 4000000 in
set_option maxRecDepth 100000 in
theorem c_X6_cancel (g : yG) (x rt rs rp rl : Nat) (A : Nat → Nat) (d : RV) (G : Nat → Nat → Int32) (hst arr : Nat) (xs : List RV) (R : List ((Nat → Nat) × RV × (Nat → Nat → Int32))) (ri : Int32) : yM g yX6_cancel wsX6_cancel ({ frames := 4, cells := 25, slots := 236, locals := 142 } : Room) [.ref x, .int ri] ([mnC x (A 0) rt rs rp hst rl, dayC A d] ++ (dayR g A d G ++ [histW g hst arr xs R]) : List va_W) (fun r w => r = (f_X6_cancel d xs ri).1 ∧ ∃ d' : RV, ∃ xs' : List RV, ∃ G' : Nat → Nat → Int32, ∃ R' : List ((Nat → Nat) × RV × (Nat → Nat → Int32)), d' = (f_X6_cancel d xs ri).2.1 ∧ xs' = (f_X6_cancel d xs ri).2.2 ∧ w = ([mnC x (A 0) rt rs rp hst rl, dayC A d'] ++ (dayR g A d' G' ++ [histW g hst arr xs' R']) : List va_W)) 25 236 := by
  refine y_entryI (cc := cX6_cancel) (maxL := 2) (by decide +kernel) rfl (Nat.le_of_ble_eq_true rfl) (fun Z C HR => ?_)
  have C : yC Z g cX6_cancel 2 wsX6_cancel RX6 := C
  have h := f_X6_cancel.eq_1 d xs ri
  show yJ Z _ 0 0 _ 0 [(0, .ref x), (1, .int ri)] []
  refine y_aload_n C dX6_cancel_0 0 rfl rfl ?_
  refine y_get (Cn := RX6) (T := TX6) (N := 6) (v := .ref (A 0)) C dX6_cancel_1 hX6_cancel_X6 0 (sh_155 g x (A 0) rt rs rp hst rl A d G hst arr xs R) rfl 0 (Nat.le_of_ble_eq_true rfl) kX6_cancel_1 rfl ?_
  refine y_iload_n C dX6_cancel_4 1 rfl rfl ?_
  refine y_callV (As := [.int ri]) (rest := []) C dX6_cancel_5 (c_X0_hasRide g A d G ri) rfl rfl rfl rfl ⟨Nat.le_of_ble_eq_true rfl, Nat.le_of_ble_eq_true rfl⟩ gX6_cancel_X0_hasRide (nA := 1) (by decide +kernel) rfl (sh_18 g A d G) (Nat.le_of_ble_eq_true rfl) ⟨Nat.le_of_ble_eq_true rfl, Nat.le_of_ble_eq_true rfl⟩ [1, 2, 3, 4, 5, 6, 7, 8, 9, 10, 11, 12, 13] [0, 14] (nB := 15) rfl (by decide +kernel) (sh_175 g x (A 0) rt rs rp hst rl A d G hst arr xs R) (fun r1 w9 hw => ?_)
  obtain ⟨er1, rfl⟩ := hw
  have h := y_letF h er1
  refine ⟨([mnC x (A 0) rt rs rp hst rl, dayC A d] ++ (dayR g A d G ++ [histW g hst arr xs R]) : List va_W), ⟨(sh_175 g x (A 0) rt rs rp hst rl A d G hst arr xs R), rfl, rfl⟩, ?_⟩
  refine y_if_ne (tgt := 13) C dX6_cancel_8 rfl (y_e h) (fun c8 h => ?_) (fun c8 h => ?_)
  · refine y_aload_n C dX6_cancel_13 0 rfl rfl ?_
    refine y_get (Cn := RX6) (T := TX6) (N := 6) (v := .ref (A 0)) C dX6_cancel_14 hX6_cancel_X6 0 (sh_155 g x (A 0) rt rs rp hst rl A d G hst arr xs R) rfl 0 (Nat.le_of_ble_eq_true rfl) kX6_cancel_1 rfl ?_
    refine y_get (Cn := RX0) (T := TX0) (N := 15) (v := .ref (A 17)) C dX6_cancel_17 hX6_cancel_X0 1 (sh_156 g x (A 0) rt rs rp hst rl A d G hst arr xs R) rfl 8 (Nat.le_of_ble_eq_true rfl) kX6_cancel_2 rfl ?_
    refine y_iload_n C dX6_cancel_20 1 rfl rfl ?_
    refine y_callV (As := [.int ri]) (rest := []) C dX6_cancel_21 (c_X3_at g (A 17) (A 18) 17 (d.1 8) (G 8) ri (by decide)) rfl rfl rfl rfl ⟨Nat.le_of_ble_eq_true rfl, Nat.le_of_ble_eq_true rfl⟩ gX6_cancel_X3_at (nA := 1) (by decide +kernel) rfl (rowW_recv ⟨_, rfl⟩) (Nat.le_of_ble_eq_true rfl) ⟨Nat.le_of_ble_eq_true rfl, Nat.le_of_ble_eq_true rfl⟩ [10] [0, 1, 2, 3, 4, 5, 6, 7, 8, 9, 11, 12, 13, 14] (nB := 15) rfl (by decide +kernel) (sh_176 g x (A 0) rt rs rp hst rl A d G hst arr xs R) (fun r2 w9 hw => ?_)
    obtain ⟨er2, rfl⟩ := hw
    have h := y_letF h er2
    refine ⟨([mnC x (A 0) rt rs rp hst rl, dayC A d] ++ (dayR g A d G ++ [histW g hst arr xs R]) : List va_W), ⟨(sh_176 g x (A 0) rt rs rp hst rl A d G hst arr xs R), rfl, rfl⟩, ?_⟩
    refine y_if_eq (tgt := 30) C dX6_cancel_24 rfl (y_e h) (fun c24 h => ?_) (fun c24 h => ?_)
    · refine y_aload_n C dX6_cancel_30 0 rfl rfl ?_
      refine y_get (Cn := RX6) (T := TX6) (N := 6) (v := .ref hst) C dX6_cancel_31 hX6_cancel_X6 0 (sh_155 g x (A 0) rt rs rp hst rl A d G hst arr xs R) rfl 4 (Nat.le_of_ble_eq_true rfl) kX6_cancel_3 rfl ?_
      refine y_aload_n C dX6_cancel_34 0 rfl rfl ?_
      refine y_get (Cn := RX6) (T := TX6) (N := 6) (v := .ref (A 0)) C dX6_cancel_35 hX6_cancel_X6 0 (sh_155 g x (A 0) rt rs rp hst rl A d G hst arr xs R) rfl 0 (Nat.le_of_ble_eq_true rfl) kX6_cancel_1 rfl ?_
      refine y_callVv (As := [.ref (A 0)]) (rest := []) C dX6_cancel_38 (c_X1_add g hst arr xs R A d G) rfl rfl rfl rfl ⟨Nat.le_of_ble_eq_true rfl, Nat.le_of_ble_eq_true rfl⟩ gX6_cancel_X1_add (nA := 1) (by decide +kernel) rfl (hist_recv (List.mem_append_right _ (List.mem_append_left _ (List.mem_singleton.mpr rfl)))) (Nat.le_of_ble_eq_true rfl) ⟨Nat.le_of_ble_eq_true rfl, Nat.le_of_ble_eq_true rfl⟩ [1, 14, 2, 3, 4, 5, 6, 7, 8, 9, 10, 11, 12, 13] [0] (nB := 15) rfl (by decide +kernel) (sh_158 g x (A 0) rt rs rp hst rl A d G hst arr xs R) (fun w9 hw => ?_)
      obtain ⟨xs3, G4, e5, rfl⟩ := hw
      have h := y_letF h e5
      refine ⟨([mnC x (A 0) rt rs rp hst rl, dayC A d] ++ (dayR g A d G ++ [histW g hst arr xs3 G4]) : List va_W), (sh_159 g x (A 0) rt rs rp hst rl A d G hst arr xs R xs3 G4), ?_⟩
      refine y_aload_n C dX6_cancel_41 0 rfl rfl ?_
      refine y_get (Cn := RX6) (T := TX6) (N := 6) (v := .ref (A 0)) C dX6_cancel_42 hX6_cancel_X6 0 (sh_155 g x (A 0) rt rs rp hst rl A d G hst arr xs3 G4) rfl 0 (Nat.le_of_ble_eq_true rfl) kX6_cancel_1 rfl ?_
      refine y_iload_n C dX6_cancel_45 1 rfl rfl ?_
      refine y_iconst (v := 3) C dX6_cancel_46 (by decide) ?_
      refine y_callVv (As := [.int ri, .int (3 : Int32)]) (rest := []) C dX6_cancel_47 (c_X0_leaveOut g A d G ri (3 : Int32)) rfl rfl rfl rfl ⟨Nat.le_of_ble_eq_true rfl, Nat.le_of_ble_eq_true rfl⟩ gX6_cancel_X0_leaveOut (nA := 2) (by decide +kernel) rfl (sh_18 g A d G) (Nat.le_of_ble_eq_true rfl) ⟨Nat.le_of_ble_eq_true rfl, Nat.le_of_ble_eq_true rfl⟩ [1, 2, 3, 4, 5, 6, 7, 8, 9, 10, 11, 12, 13] [0, 14] (nB := 15) rfl (by decide +kernel) (sh_175 g x (A 0) rt rs rp hst rl A d G hst arr xs3 G4) (fun w9 hw => ?_)
      obtain ⟨d6, G7, e8, rfl⟩ := hw
      have h := y_letF h e8
      refine ⟨([mnC x (A 0) rt rs rp hst rl, dayC A d6] ++ (dayR g A d6 G7 ++ [histW g hst arr xs3 G4]) : List va_W), (sh_177 g x (A 0) rt rs rp hst rl A d G hst arr xs3 G4 d6 G7), ?_⟩
      refine y_aload_n C dX6_cancel_50 0 rfl rfl ?_
      refine y_get (Cn := RX6) (T := TX6) (N := 6) (v := .ref (A 0)) C dX6_cancel_51 hX6_cancel_X6 0 (sh_155 g x (A 0) rt rs rp hst rl A d6 G7 hst arr xs3 G4) rfl 0 (Nat.le_of_ble_eq_true rfl) kX6_cancel_1 rfl ?_
      refine y_get (Cn := RX0) (T := TX0) (N := 15) (v := .ref (A 23)) C dX6_cancel_54 hX6_cancel_X0 1 (sh_156 g x (A 0) rt rs rp hst rl A d6 G7 hst arr xs3 G4) rfl 11 (Nat.le_of_ble_eq_true rfl) kX6_cancel_4 rfl ?_
      refine y_callV (As := []) (rest := []) C dX6_cancel_57 (c_X3_length g (A 23) (A 24) 34 (d6.1 11) (G7 11) (by decide)) rfl rfl rfl rfl ⟨Nat.le_of_ble_eq_true rfl, Nat.le_of_ble_eq_true rfl⟩ gX6_cancel_X3_length (nA := 0) (by decide +kernel) rfl (rowW_recv ⟨_, rfl⟩) (Nat.le_of_ble_eq_true rfl) ⟨Nat.le_of_ble_eq_true rfl, Nat.le_of_ble_eq_true rfl⟩ [13] [0, 1, 2, 3, 4, 5, 6, 7, 8, 9, 10, 11, 12, 14] (nB := 15) rfl (by decide +kernel) (sh_157 g x (A 0) rt rs rp hst rl A d6 G7 hst arr xs3 G4) (fun r9 w9 hw => ?_)
      obtain ⟨er9, rfl⟩ := hw
      have h := y_letF h er9
      refine ⟨([mnC x (A 0) rt rs rp hst rl, dayC A d6] ++ (dayR g A d6 G7 ++ [histW g hst arr xs3 G4]) : List va_W), ⟨(sh_157 g x (A 0) rt rs rp hst rl A d6 G7 hst arr xs3 G4), rfl, rfl⟩, ?_⟩
      exact HR 60 dX6_cancel_60 r9 _ _ _ _ (rfl) (Nat.le_of_ble_eq_true rfl) (Nat.le_of_ble_eq_true rfl) ⟨by rw [h], d6, xs3, G7, G4, by rw [h], by rw [h], rfl⟩
    · refine y_bipush (v := -5) C dX6_cancel_27 (by decide) ?_
      exact HR 29 dX6_cancel_29 (-5 : Int32) _ _ _ _ (rfl) (Nat.le_of_ble_eq_true rfl) (Nat.le_of_ble_eq_true rfl) ⟨by rw [h], d, xs, G, R, by rw [h], by rw [h], rfl⟩
  · refine y_iconst (v := -1) C dX6_cancel_11 (by decide) ?_
    exact HR 12 dX6_cancel_12 (-1 : Int32) _ _ _ _ (rfl) (Nat.le_of_ble_eq_true rfl) (Nat.le_of_ble_eq_true rfl) ⟨by rw [h], d, xs, G, R, by rw [h], by rw [h], rfl⟩
theorem dX6_pass_0 : decode cX6_pass 0 = .ok (.iload_n 1, 1) := by decide +kernel
theorem dX6_pass_1 : decode cX6_pass 1 = .ok (.aload_n 0, 1) := by decide +kernel
theorem dX6_pass_2 : decode cX6_pass 2 = .ok (.getfield 12, 3) := by decide +kernel
theorem dX6_pass_5 : decode cX6_pass 5 = .ok (.getfield 106, 3) := by decide +kernel
theorem dX6_pass_8 : decode cX6_pass 8 = .ok (.if_icmp .le 10, 3) := by decide +kernel
theorem dX6_pass_11 : decode cX6_pass 11 = .ok (.iload_n 1, 1) := by decide +kernel
theorem dX6_pass_12 : decode cX6_pass 12 = .ok (.sipush 2000, 3) := by decide +kernel
theorem dX6_pass_15 : decode cX6_pass 15 = .ok (.if_icmp .le 6, 3) := by decide +kernel
theorem dX6_pass_18 : decode cX6_pass 18 = .ok (.bipush (-2), 2) := by decide +kernel
theorem dX6_pass_20 : decode cX6_pass 20 = .ok (.ireturn, 1) := by decide +kernel
theorem dX6_pass_21 : decode cX6_pass 21 = .ok (.aload_n 0, 1) := by decide +kernel
theorem dX6_pass_22 : decode cX6_pass 22 = .ok (.getfield 40, 3) := by decide +kernel
theorem dX6_pass_25 : decode cX6_pass 25 = .ok (.aload_n 0, 1) := by decide +kernel
theorem dX6_pass_26 : decode cX6_pass 26 = .ok (.getfield 12, 3) := by decide +kernel
theorem dX6_pass_29 : decode cX6_pass 29 = .ok (.invokevirtual 65, 3) := by decide +kernel
theorem dX6_pass_32 : decode cX6_pass 32 = .ok (.aload_n 0, 1) := by decide +kernel
theorem dX6_pass_33 : decode cX6_pass 33 = .ok (.getfield 12, 3) := by decide +kernel
theorem dX6_pass_36 : decode cX6_pass 36 = .ok (.iload_n 1, 1) := by decide +kernel
theorem dX6_pass_37 : decode cX6_pass 37 = .ok (.putfield 106, 3) := by decide +kernel
theorem dX6_pass_40 : decode cX6_pass 40 = .ok (.aload_n 0, 1) := by decide +kernel
theorem dX6_pass_41 : decode cX6_pass 41 = .ok (.getfield 19, 3) := by decide +kernel
theorem dX6_pass_44 : decode cX6_pass 44 = .ok (.aload_n 0, 1) := by decide +kernel
theorem dX6_pass_45 : decode cX6_pass 45 = .ok (.getfield 12, 3) := by decide +kernel
theorem dX6_pass_48 : decode cX6_pass 48 = .ok (.invokevirtual 110, 3) := by decide +kernel
theorem dX6_pass_51 : decode cX6_pass 51 = .ok (.aload_n 0, 1) := by decide +kernel
theorem dX6_pass_52 : decode cX6_pass 52 = .ok (.getfield 12, 3) := by decide +kernel
theorem dX6_pass_55 : decode cX6_pass 55 = .ok (.aload_n 0, 1) := by decide +kernel
theorem dX6_pass_56 : decode cX6_pass 56 = .ok (.getfield 19, 3) := by decide +kernel
theorem dX6_pass_59 : decode cX6_pass 59 = .ok (.invokevirtual 113, 3) := by decide +kernel
theorem dX6_pass_62 : decode cX6_pass 62 = .ok (.ireturn, 1) := by decide +kernel
set_option maxRecDepth 20000 in
theorem ggX6_pass_X1_add : GoodIn wsX6_pass wsX1_add := goodIn_r _ [9, 10, 11, 12, 13, 14, 15, 16, 17, 8, 18, 19, 20, 21, 22, 23, 24, 25, 26, 27, 28, 29, 30, 31, 32, 33, 34, 35, 36, 37, 38, 39, 40, 41, 42, 43, 44, 45, 46, 47, 48, 49, 50, 51, 52, 53, 54, 55, 56, 57, 58, 59, 60, 61, 62, 63, 64, 65, 66, 67, 68, 69, 70, 71, 72, 186, 187, 171, 172, 173, 174, 175, 176, 177, 178, 179, 180, 181, 182, 183, 184, 185, 188, 189] (by decide +kernel) (by decide +kernel)
set_option maxRecDepth 20000 in
theorem gX6_pass_X1_add : GoodIn wsX6_pass (wsV RX6 65 RX1 yX1_add wsX1_add) := goodIn_app (goodIn_of _ (by decide +kernel)) ggX6_pass_X1_add
set_option maxRecDepth 20000 in
theorem ggX6_pass_X5_follow : GoodIn wsX6_pass wsX5_follow := goodIn_r _ [77, 78, 79, 80, 81, 76, 82, 83, 84, 85, 86, 87, 88, 89, 90, 91, 92, 93, 94, 95, 96, 97, 98, 99, 27, 100, 54, 101, 67, 68, 69, 49, 70, 71, 46, 72, 102, 103, 104, 14, 105, 36, 106, 107, 108, 109, 110, 111, 112, 113, 114, 115, 116, 117, 118, 119, 120, 121, 45, 47, 122, 123, 124, 125, 126, 127, 128, 129, 130, 131, 132, 32, 31, 133, 134, 135, 136, 29, 137, 138, 139, 30, 140, 51, 52, 53, 55, 56, 57, 58, 141, 142, 143, 144, 145, 146, 147, 148, 149, 171, 172, 173, 174, 175, 176, 177, 178, 179, 180, 181, 182, 183, 184, 185, 190, 191, 192, 193, 194, 195, 196, 197, 198, 199, 188, 189] (by decide +kernel) (by decide +kernel)
set_option maxRecDepth 20000 in
theorem gX6_pass_X5_follow : GoodIn wsX6_pass (wsV RX6 110 RX5 yX5_follow wsX5_follow) := goodIn_app (goodIn_of _ (by decide +kernel)) ggX6_pass_X5_follow
set_option maxRecDepth 20000 in
theorem ggX6_pass_X0_carryOut : GoodIn wsX6_pass wsX0_carryOut := goodIn_r _ [153, 39, 154, 63, 106, 107, 108, 27, 109, 54, 110, 111, 112, 113, 49, 155, 156, 157, 14, 158, 64, 28, 65, 38, 36, 37, 124, 125, 126, 159, 130, 131, 132, 32, 31, 127, 128, 160, 142, 143, 144, 161, 162, 163, 164, 171, 172, 173, 174, 175, 176, 177, 178, 179, 180, 181, 182, 183, 184, 185, 190, 191, 192, 193, 194, 195, 196, 197, 198, 199, 188, 189] (by decide +kernel) (by decide +kernel)
set_option maxRecDepth 20000 in
theorem gX6_pass_X0_carryOut : GoodIn wsX6_pass (wsV RX6 113 RX0 yX0_carryOut wsX0_carryOut) := goodIn_app (goodIn_of _ (by decide +kernel)) ggX6_pass_X0_carryOut
theorem kX6_pass_1 : Cond.fieldLink RX6 12 "BookedDetours" "day" "LBookedDetours$Day;" ∈ wsX6_pass := List.mem_of_getElem? (i := 1) (by decide +kernel)
theorem kX6_pass_2 : Cond.fieldLink RX6 106 "BookedDetours$Day" "now" "I" ∈ wsX6_pass := List.mem_of_getElem? (i := 2) (by decide +kernel)
theorem kX6_pass_3 : Cond.fieldLink RX6 40 "BookedDetours" "history" "LBookedDetours$History;" ∈ wsX6_pass := List.mem_of_getElem? (i := 3) (by decide +kernel)
theorem kX6_pass_4 : Cond.fieldLink RX6 19 "BookedDetours" "table" "LBookedDetours$Timetable;" ∈ wsX6_pass := List.mem_of_getElem? (i := 4) (by decide +kernel)
theorem hX6_pass_X6 : ∀ w ∈ u_ws RX6 TX6 6, w ∈ wsX6_pass := fun _ h => List.mem_cons_of_mem _ (List.mem_append_left _ (List.mem_append_left _ (List.mem_append_left _ (List.mem_append_left _ (List.mem_append_right _ h)))))
theorem hX6_pass_X0 : ∀ w ∈ u_ws RX0 TX0 15, w ∈ wsX6_pass := fun _ h => List.mem_cons_of_mem _ (List.mem_append_left _ (List.mem_append_left _ (List.mem_append_left _ (List.mem_append_right _ h))))
set_option maxHeartbeats 4000000 in
set_option maxRecDepth 100000 in
theorem c_X6_pass (g : yG) (x rs rp rl : Nat) (A : Nat → Nat) (d : RV) (G : Nat → Nat → Int32) (T : Nat → Nat) (t : RV) (GT : Nat → Nat → Int32) (hst arr : Nat) (xs : List RV) (R : List ((Nat → Nat) × RV × (Nat → Nat → Int32))) (nw : Int32) : yM g yX6_pass wsX6_pass ({ frames := 4, cells := 25, slots := 236, locals := 142 } : Room) [.ref x, .int nw] ([mnC x (A 0) (T 0) rs rp hst rl, dayC A d, tabC T t] ++ (dayR g A d G ++ (tabR g T t GT ++ [histW g hst arr xs R])) : List va_W) (fun r w => r = (f_X6_pass d t xs nw).1 ∧ ∃ d' : RV, ∃ t' : RV, ∃ xs' : List RV, ∃ G' : Nat → Nat → Int32, ∃ GT' : Nat → Nat → Int32, ∃ R' : List ((Nat → Nat) × RV × (Nat → Nat → Int32)), d' = (f_X6_pass d t xs nw).2.1 ∧ t' = (f_X6_pass d t xs nw).2.2.1 ∧ xs' = (f_X6_pass d t xs nw).2.2.2 ∧ w = ([mnC x (A 0) (T 0) rs rp hst rl, dayC A d', tabC T t'] ++ (dayR g A d' G' ++ (tabR g T t' GT' ++ [histW g hst arr xs' R'])) : List va_W)) 25 236 := by
  refine y_entryI (cc := cX6_pass) (maxL := 2) (by decide +kernel) rfl (Nat.le_of_ble_eq_true rfl) (fun Z C HR => ?_)
  have C : yC Z g cX6_pass 2 wsX6_pass RX6 := C
  have h := f_X6_pass.eq_1 d t xs nw
  show yJ Z _ 0 0 _ 0 [(0, .ref x), (1, .int nw)] []
  refine y_iload_n C dX6_pass_0 1 rfl rfl ?_
  refine y_aload_n C dX6_pass_1 0 rfl rfl ?_
  refine y_get (Cn := RX6) (T := TX6) (N := 6) (v := .ref (A 0)) C dX6_pass_2 hX6_pass_X6 0 (sh_178 g x (A 0) (T 0) rs rp hst rl A d G T t GT hst arr xs R) rfl 0 (Nat.le_of_ble_eq_true rfl) kX6_pass_1 rfl ?_
  refine y_get (Cn := RX0) (T := TX0) (N := 15) (v := .int (d.2 0)) C dX6_pass_5 hX6_pass_X0 1 (sh_179 g x (A 0) (T 0) rs rp hst rl A d G T t GT hst arr xs R) rfl 12 (Nat.le_of_ble_eq_true rfl) kX6_pass_2 rfl ?_
  refine y_icmp_le (tgt := 18) C dX6_pass_8 rfl (y_e h) (fun c8 h => ?_) (fun c8 h => ?_)
  · refine y_bipush (v := -2) C dX6_pass_18 (by decide) ?_
    exact HR 20 dX6_pass_20 (-2 : Int32) _ _ _ _ (rfl) (Nat.le_of_ble_eq_true rfl) (Nat.le_of_ble_eq_true rfl) ⟨by rw [h], d, t, xs, G, GT, R, by rw [h], by rw [h], by rw [h], rfl⟩
  · refine y_iload_n C dX6_pass_11 1 rfl rfl ?_
    refine y_sipush (v := 2000) C dX6_pass_12 (by decide) ?_
    refine y_icmp_le (tgt := 21) C dX6_pass_15 rfl (y_e h) (fun c15 h => ?_) (fun c15 h => ?_)
    · refine y_aload_n C dX6_pass_21 0 rfl rfl ?_
      refine y_get (Cn := RX6) (T := TX6) (N := 6) (v := .ref hst) C dX6_pass_22 hX6_pass_X6 0 (sh_178 g x (A 0) (T 0) rs rp hst rl A d G T t GT hst arr xs R) rfl 4 (Nat.le_of_ble_eq_true rfl) kX6_pass_3 rfl ?_
      refine y_aload_n C dX6_pass_25 0 rfl rfl ?_
      refine y_get (Cn := RX6) (T := TX6) (N := 6) (v := .ref (A 0)) C dX6_pass_26 hX6_pass_X6 0 (sh_178 g x (A 0) (T 0) rs rp hst rl A d G T t GT hst arr xs R) rfl 0 (Nat.le_of_ble_eq_true rfl) kX6_pass_1 rfl ?_
      refine y_callVv (As := [.ref (A 0)]) (rest := []) C dX6_pass_29 (c_X1_add g hst arr xs R A d G) rfl rfl rfl rfl ⟨Nat.le_of_ble_eq_true rfl, Nat.le_of_ble_eq_true rfl⟩ gX6_pass_X1_add (nA := 1) (by decide +kernel) rfl (hist_recv (List.mem_append_right _ (List.mem_append_left _ (List.mem_singleton.mpr rfl)))) (Nat.le_of_ble_eq_true rfl) ⟨Nat.le_of_ble_eq_true rfl, Nat.le_of_ble_eq_true rfl⟩ [1, 20, 3, 4, 5, 6, 7, 8, 9, 10, 11, 12, 13, 14] [0, 2, 15, 16, 17, 18, 19] (nB := 21) rfl (by decide +kernel) (sh_180 g x (A 0) (T 0) rs rp hst rl A d G T t GT hst arr xs R) (fun w9 hw => ?_)
      obtain ⟨xs1, G2, e3, rfl⟩ := hw
      have h := y_letF h e3
      refine ⟨([mnC x (A 0) (T 0) rs rp hst rl, dayC A d, tabC T t] ++ (dayR g A d G ++ (tabR g T t GT ++ [histW g hst arr xs1 G2])) : List va_W), (sh_181 g x (A 0) (T 0) rs rp hst rl A d G T t GT hst arr xs R xs1 G2), ?_⟩
      refine y_aload_n C dX6_pass_32 0 rfl rfl ?_
      refine y_get (Cn := RX6) (T := TX6) (N := 6) (v := .ref (A 0)) C dX6_pass_33 hX6_pass_X6 0 (sh_178 g x (A 0) (T 0) rs rp hst rl A d G T t GT hst arr xs1 G2) rfl 0 (Nat.le_of_ble_eq_true rfl) kX6_pass_1 rfl ?_
      refine y_iload_n C dX6_pass_36 1 rfl rfl ?_
      obtain ⟨d4, ed4⟩ : ∃ z : RV, z = rvI d 0 nw := ⟨_, rfl⟩
      have h := y_letF h ed4
      refine y_put (Cn := RX0) (T := TX0) (N := 15) (v := .int nw) (ty0 := tyX0) (L1 := ([mnC x (A 0) (T 0) rs rp hst rl, dayC A d4, tabC T t] ++ (dayR g A d4 G ++ (tabR g T t GT ++ [histW g hst arr xs1 G2])) : List va_W)) C dX6_pass_37 hX6_pass_X0 1 (sh_179 g x (A 0) (T 0) rs rp hst rl A d G T t GT hst arr xs1 G2) rfl 12 (Nat.le_of_ble_eq_true rfl) kX6_pass_2 tyX0_ok nmX0 rfl rfl rfl (Nat.le_of_ble_eq_true rfl) (sh_182 g x (A 0) (T 0) rs rp hst rl A d G T t GT hst arr xs1 G2 nw d4 ed4) ?_
      refine y_aload_n C dX6_pass_40 0 rfl rfl ?_
      refine y_get (Cn := RX6) (T := TX6) (N := 6) (v := .ref (T 0)) C dX6_pass_41 hX6_pass_X6 0 (sh_178 g x (A 0) (T 0) rs rp hst rl A d4 G T t GT hst arr xs1 G2) rfl 1 (Nat.le_of_ble_eq_true rfl) kX6_pass_4 rfl ?_
      refine y_aload_n C dX6_pass_44 0 rfl rfl ?_
      refine y_get (Cn := RX6) (T := TX6) (N := 6) (v := .ref (A 0)) C dX6_pass_45 hX6_pass_X6 0 (sh_178 g x (A 0) (T 0) rs rp hst rl A d4 G T t GT hst arr xs1 G2) rfl 0 (Nat.le_of_ble_eq_true rfl) kX6_pass_1 rfl ?_
      refine y_callVv (As := [.ref (A 0)]) (rest := []) C dX6_pass_48 (k_X5_follow g T t GT A d4 G) rfl rfl rfl rfl ⟨Nat.le_of_ble_eq_true rfl, Nat.le_of_ble_eq_true rfl⟩ gX6_pass_X5_follow (nA := 1) (by decide +kernel) rfl (sh_95 g T t GT A d4 G) (Nat.le_of_ble_eq_true rfl) ⟨Nat.le_of_ble_eq_true rfl, Nat.le_of_ble_eq_true rfl⟩ [2, 1, 15, 16, 17, 18, 19, 3, 4, 5, 6, 7, 8, 9, 10, 11, 12, 13, 14] [0, 20] (nB := 21) rfl (by decide +kernel) (sh_183 g x (A 0) (T 0) rs rp hst rl A d4 G T t GT hst arr xs1 G2) (fun w9 hw => ?_)
      obtain ⟨t5, G6, e7, rfl⟩ := hw
      have h := y_letF h e7
      refine ⟨([mnC x (A 0) (T 0) rs rp hst rl, dayC A d4, tabC T t5] ++ (dayR g A d4 G ++ (tabR g T t5 G6 ++ [histW g hst arr xs1 G2])) : List va_W), (sh_184 g x (A 0) (T 0) rs rp hst rl A d4 G T t GT hst arr xs1 G2 t5 G6), ?_⟩
      refine y_aload_n C dX6_pass_51 0 rfl rfl ?_
      refine y_get (Cn := RX6) (T := TX6) (N := 6) (v := .ref (A 0)) C dX6_pass_52 hX6_pass_X6 0 (sh_178 g x (A 0) (T 0) rs rp hst rl A d4 G T t5 G6 hst arr xs1 G2) rfl 0 (Nat.le_of_ble_eq_true rfl) kX6_pass_1 rfl ?_
      refine y_aload_n C dX6_pass_55 0 rfl rfl ?_
      refine y_get (Cn := RX6) (T := TX6) (N := 6) (v := .ref (T 0)) C dX6_pass_56 hX6_pass_X6 0 (sh_178 g x (A 0) (T 0) rs rp hst rl A d4 G T t5 G6 hst arr xs1 G2) rfl 1 (Nat.le_of_ble_eq_true rfl) kX6_pass_4 rfl ?_
      refine y_callV (As := [.ref (T 0)]) (rest := []) C dX6_pass_59 (c_X0_carryOut g A d4 G T t5 G6) rfl rfl rfl rfl ⟨Nat.le_of_ble_eq_true rfl, Nat.le_of_ble_eq_true rfl⟩ gX6_pass_X0_carryOut (nA := 1) (by decide +kernel) rfl (sh_186 g A d4 G T t5 G6) (Nat.le_of_ble_eq_true rfl) ⟨Nat.le_of_ble_eq_true rfl, Nat.le_of_ble_eq_true rfl⟩ [1, 2, 3, 4, 5, 6, 7, 8, 9, 10, 11, 12, 13, 14, 15, 16, 17, 18, 19] [0, 20] (nB := 21) rfl (by decide +kernel) (sh_185 g x (A 0) (T 0) rs rp hst rl A d4 G T t5 G6 hst arr xs1 G2) (fun r11 w9 hw => ?_)
      obtain ⟨er11, d8, G9, e10, rfl⟩ := hw
      have h := y_letF h er11
      have h := y_letF h e10
      refine ⟨([mnC x (A 0) (T 0) rs rp hst rl, dayC A d8, tabC T t5] ++ (dayR g A d8 G9 ++ (tabR g T t5 G6 ++ [histW g hst arr xs1 G2])) : List va_W), (sh_187 g x (A 0) (T 0) rs rp hst rl A d4 G T t5 G6 hst arr xs1 G2 d8 G9), ?_⟩
      exact HR 62 dX6_pass_62 r11 _ _ _ _ (rfl) (Nat.le_of_ble_eq_true rfl) (Nat.le_of_ble_eq_true rfl) ⟨by rw [h], d8, t5, xs1, G9, G6, G2, by rw [h], by rw [h], by rw [h], rfl⟩
    · refine y_bipush (v := -2) C dX6_pass_18 (by decide) ?_
      exact HR 20 dX6_pass_20 (-2 : Int32) _ _ _ _ (rfl) (Nat.le_of_ble_eq_true rfl) (Nat.le_of_ble_eq_true rfl) ⟨by rw [h], d, t, xs, G, GT, R, by rw [h], by rw [h], by rw [h], rfl⟩
