theorem dX6_stop_0 : decode cX6_stop 0 = .ok (.iload_n 1, 1) := by decide +kernel
theorem dX6_stop_1 : decode cX6_stop 1 = .ok (.ifCond .lt 19, 3) := by decide +kernel
theorem dX6_stop_4 : decode cX6_stop 4 = .ok (.iload_n 1, 1) := by decide +kernel
theorem dX6_stop_5 : decode cX6_stop 5 = .ok (.bipush 30, 2) := by decide +kernel
theorem dX6_stop_7 : decode cX6_stop 7 = .ok (.if_icmp .gt 13, 3) := by decide +kernel
theorem dX6_stop_10 : decode cX6_stop 10 = .ok (.iload_n 2, 1) := by decide +kernel
theorem dX6_stop_11 : decode cX6_stop 11 = .ok (.ifCond .lt 9, 3) := by decide +kernel
theorem dX6_stop_14 : decode cX6_stop 14 = .ok (.iload_n 2, 1) := by decide +kernel
theorem dX6_stop_15 : decode cX6_stop 15 = .ok (.bipush 30, 2) := by decide +kernel
theorem dX6_stop_17 : decode cX6_stop 17 = .ok (.if_icmp .le 6, 3) := by decide +kernel
theorem dX6_stop_20 : decode cX6_stop 20 = .ok (.bipush (-2), 2) := by decide +kernel
theorem dX6_stop_22 : decode cX6_stop 22 = .ok (.ireturn, 1) := by decide +kernel
theorem dX6_stop_23 : decode cX6_stop 23 = .ok (.aload_n 0, 1) := by decide +kernel
theorem dX6_stop_24 : decode cX6_stop 24 = .ok (.getfield 12, 3) := by decide +kernel
theorem dX6_stop_27 : decode cX6_stop 27 = .ok (.getfield 79, 3) := by decide +kernel
theorem dX6_stop_30 : decode cX6_stop 30 = .ok (.invokevirtual 59, 3) := by decide +kernel
theorem dX6_stop_33 : decode cX6_stop 33 = .ok (.bipush 12, 2) := by decide +kernel
theorem dX6_stop_35 : decode cX6_stop 35 = .ok (.if_icmp .lt 6, 3) := by decide +kernel
theorem dX6_stop_38 : decode cX6_stop 38 = .ok (.bipush (-4), 2) := by decide +kernel
theorem dX6_stop_40 : decode cX6_stop 40 = .ok (.ireturn, 1) := by decide +kernel
theorem dX6_stop_41 : decode cX6_stop 41 = .ok (.aload_n 0, 1) := by decide +kernel
theorem dX6_stop_42 : decode cX6_stop 42 = .ok (.getfield 40, 3) := by decide +kernel
theorem dX6_stop_45 : decode cX6_stop 45 = .ok (.aload_n 0, 1) := by decide +kernel
theorem dX6_stop_46 : decode cX6_stop 46 = .ok (.getfield 12, 3) := by decide +kernel
theorem dX6_stop_49 : decode cX6_stop 49 = .ok (.invokevirtual 65, 3) := by decide +kernel
theorem dX6_stop_52 : decode cX6_stop 52 = .ok (.aload_n 0, 1) := by decide +kernel
theorem dX6_stop_53 : decode cX6_stop 53 = .ok (.getfield 12, 3) := by decide +kernel
theorem dX6_stop_56 : decode cX6_stop 56 = .ok (.getfield 79, 3) := by decide +kernel
theorem dX6_stop_59 : decode cX6_stop 59 = .ok (.iload_n 1, 1) := by decide +kernel
theorem dX6_stop_60 : decode cX6_stop 60 = .ok (.invokevirtual 82, 3) := by decide +kernel
theorem dX6_stop_63 : decode cX6_stop 63 = .ok (.aload_n 0, 1) := by decide +kernel
theorem dX6_stop_64 : decode cX6_stop 64 = .ok (.getfield 12, 3) := by decide +kernel
theorem dX6_stop_67 : decode cX6_stop 67 = .ok (.getfield 85, 3) := by decide +kernel
theorem dX6_stop_70 : decode cX6_stop 70 = .ok (.iload_n 2, 1) := by decide +kernel
theorem dX6_stop_71 : decode cX6_stop 71 = .ok (.invokevirtual 82, 3) := by decide +kernel
theorem dX6_stop_74 : decode cX6_stop 74 = .ok (.aload_n 0, 1) := by decide +kernel
theorem dX6_stop_75 : decode cX6_stop 75 = .ok (.getfield 12, 3) := by decide +kernel
theorem dX6_stop_78 : decode cX6_stop 78 = .ok (.getfield 79, 3) := by decide +kernel
theorem dX6_stop_81 : decode cX6_stop 81 = .ok (.invokevirtual 59, 3) := by decide +kernel
theorem dX6_stop_84 : decode cX6_stop 84 = .ok (.iconst 1, 1) := by decide +kernel
theorem dX6_stop_85 : decode cX6_stop 85 = .ok (.isub, 1) := by decide +kernel
theorem dX6_stop_86 : decode cX6_stop 86 = .ok (.ireturn, 1) := by decide +kernel
set_option maxRecDepth 20000 in
theorem ggX6_stop_X3_length : GoodIn wsX6_stop wsX3_length := goodIn_r _ [9, 10, 99, 100] (by decide +kernel) (by decide +kernel)
set_option maxRecDepth 20000 in
theorem gX6_stop_X3_length : GoodIn wsX6_stop (wsV RX6 59 RX3 yX3_length wsX3_length) := goodIn_app (goodIn_of _ (by decide +kernel)) ggX6_stop_X3_length
set_option maxRecDepth 20000 in
theorem ggX6_stop_X1_add : GoodIn wsX6_stop wsX1_add := goodIn_r _ [15, 16, 17, 18, 19, 20, 21, 22, 23, 14, 24, 25, 26, 27, 28, 29, 30, 31, 32, 8, 33, 34, 35, 36, 37, 38, 39, 40, 41, 42, 43, 44, 45, 46, 47, 48, 49, 50, 51, 52, 53, 54, 55, 56, 57, 58, 10, 59, 60, 61, 62, 63, 64, 65, 66, 67, 68, 69, 70, 71, 72, 73, 74, 75, 76, 101, 102, 84, 85, 86, 87, 88, 89, 90, 91, 92, 93, 94, 95, 96, 97, 98, 99, 100] (by decide +kernel) (by decide +kernel)
set_option maxRecDepth 20000 in
theorem gX6_stop_X1_add : GoodIn wsX6_stop (wsV RX6 65 RX1 yX1_add wsX1_add) := goodIn_app (goodIn_of _ (by decide +kernel)) ggX6_stop_X1_add
set_option maxRecDepth 20000 in
theorem ggX6_stop_X3_add : GoodIn wsX6_stop wsX3_add := goodIn_r _ [58, 10, 59, 60, 61, 8, 62, 54, 99, 100] (by decide +kernel) (by decide +kernel)
set_option maxRecDepth 20000 in
theorem gX6_stop_X3_add : GoodIn wsX6_stop (wsV RX6 82 RX3 yX3_add wsX3_add) := goodIn_app (goodIn_of _ (by decide +kernel)) ggX6_stop_X3_add
theorem kX6_stop_1 : Cond.fieldLink RX6 12 "BookedDetours" "day" "LBookedDetours$Day;" ∈ wsX6_stop := List.mem_of_getElem? (i := 1) (by decide +kernel)
theorem kX6_stop_2 : Cond.fieldLink RX6 79 "BookedDetours$Day" "xs" "LBookedDetours$Row;" ∈ wsX6_stop := List.mem_of_getElem? (i := 2) (by decide +kernel)
theorem kX6_stop_3 : Cond.fieldLink RX6 40 "BookedDetours" "history" "LBookedDetours$History;" ∈ wsX6_stop := List.mem_of_getElem? (i := 3) (by decide +kernel)
theorem kX6_stop_4 : Cond.fieldLink RX6 85 "BookedDetours$Day" "ys" "LBookedDetours$Row;" ∈ wsX6_stop := List.mem_of_getElem? (i := 4) (by decide +kernel)
theorem hX6_stop_X6 : ∀ w ∈ u_ws RX6 TX6 6, w ∈ wsX6_stop := fun _ h => List.mem_cons_of_mem _ (List.mem_append_left _ (List.mem_append_left _ (List.mem_append_left _ (List.mem_append_right _ h))))
theorem hX6_stop_X0 : ∀ w ∈ u_ws RX0 TX0 15, w ∈ wsX6_stop := fun _ h => List.mem_cons_of_mem _ (List.mem_append_left _ (List.mem_append_left _ (List.mem_append_right _ h)))
set_option maxHeartbeats 4000000 in
set_option maxRecDepth 100000 in
theorem c_X6_stop (g : yG) (x rt rs rp rl : Nat) (A : Nat → Nat) (d : RV) (G : Nat → Nat → Int32) (hst arr : Nat) (xs : List RV) (R : List ((Nat → Nat) × RV × (Nat → Nat → Int32))) (px : Int32) (py : Int32) : yM g yX6_stop wsX6_stop ({ frames := 4, cells := 25, slots := 236, locals := 142 } : Room) [.ref x, .int px, .int py] ([mnC x (A 0) rt rs rp hst rl, dayC A d] ++ (dayR g A d G ++ [histW g hst arr xs R]) : List va_W) (fun r w => r = (f_X6_stop d xs px py).1 ∧ ∃ d' : RV, ∃ xs' : List RV, ∃ G' : Nat → Nat → Int32, ∃ R' : List ((Nat → Nat) × RV × (Nat → Nat → Int32)), d' = (f_X6_stop d xs px py).2.1 ∧ xs' = (f_X6_stop d xs px py).2.2 ∧ w = ([mnC x (A 0) rt rs rp hst rl, dayC A d'] ++ (dayR g A d' G' ++ [histW g hst arr xs' R']) : List va_W)) 25 236 := by
  refine y_entryI (cc := cX6_stop) (maxL := 3) (by decide +kernel) rfl (Nat.le_of_ble_eq_true rfl) (fun Z C HR => ?_)
  have C : yC Z g cX6_stop 3 wsX6_stop RX6 := C
  have h := f_X6_stop.eq_1 d xs px py
  show yJ Z _ 0 0 _ 0 [(0, .ref x), (1, .int px), (2, .int py)] []
  refine y_iload_n C dX6_stop_0 1 rfl rfl ?_
  refine y_if_lt (tgt := 20) C dX6_stop_1 rfl (y_e h) (fun c1 h => ?_) (fun c1 h => ?_)
  · refine y_bipush (v := -2) C dX6_stop_20 (by decide) ?_
    exact HR 22 dX6_stop_22 (-2 : Int32) _ _ _ _ (rfl) (Nat.le_of_ble_eq_true rfl) (Nat.le_of_ble_eq_true rfl) ⟨by rw [h], d, xs, G, R, by rw [h], by rw [h], rfl⟩
  · refine y_iload_n C dX6_stop_4 1 rfl rfl ?_
    refine y_bipush (v := 30) C dX6_stop_5 (by decide) ?_
    refine y_icmp_gt (tgt := 20) C dX6_stop_7 rfl (y_e h) (fun c7 h => ?_) (fun c7 h => ?_)
    · refine y_bipush (v := -2) C dX6_stop_20 (by decide) ?_
      exact HR 22 dX6_stop_22 (-2 : Int32) _ _ _ _ (rfl) (Nat.le_of_ble_eq_true rfl) (Nat.le_of_ble_eq_true rfl) ⟨by rw [h], d, xs, G, R, by rw [h], by rw [h], rfl⟩
    · refine y_iload_n C dX6_stop_10 2 rfl rfl ?_
      refine y_if_lt (tgt := 20) C dX6_stop_11 rfl (y_e h) (fun c11 h => ?_) (fun c11 h => ?_)
      · refine y_bipush (v := -2) C dX6_stop_20 (by decide) ?_
        exact HR 22 dX6_stop_22 (-2 : Int32) _ _ _ _ (rfl) (Nat.le_of_ble_eq_true rfl) (Nat.le_of_ble_eq_true rfl) ⟨by rw [h], d, xs, G, R, by rw [h], by rw [h], rfl⟩
      · refine y_iload_n C dX6_stop_14 2 rfl rfl ?_
        refine y_bipush (v := 30) C dX6_stop_15 (by decide) ?_
        refine y_icmp_le (tgt := 23) C dX6_stop_17 rfl (y_e h) (fun c17 h => ?_) (fun c17 h => ?_)
        · refine y_aload_n C dX6_stop_23 0 rfl rfl ?_
          refine y_get (Cn := RX6) (T := TX6) (N := 6) (v := .ref (A 0)) C dX6_stop_24 hX6_stop_X6 0 (sh_155 g x (A 0) rt rs rp hst rl A d G hst arr xs R) rfl 0 (Nat.le_of_ble_eq_true rfl) kX6_stop_1 rfl ?_
          refine y_get (Cn := RX0) (T := TX0) (N := 15) (v := .ref (A 3)) C dX6_stop_27 hX6_stop_X0 1 (sh_156 g x (A 0) rt rs rp hst rl A d G hst arr xs R) rfl 1 (Nat.le_of_ble_eq_true rfl) kX6_stop_2 rfl ?_
          refine y_callV (As := []) (rest := []) C dX6_stop_30 (c_X3_length g (A 3) (A 4) 12 (d.1 1) (G 1) (by decide)) rfl rfl rfl rfl ⟨Nat.le_of_ble_eq_true rfl, Nat.le_of_ble_eq_true rfl⟩ gX6_stop_X3_length (nA := 0) (by decide +kernel) rfl (rowW_recv ⟨_, rfl⟩) (Nat.le_of_ble_eq_true rfl) ⟨Nat.le_of_ble_eq_true rfl, Nat.le_of_ble_eq_true rfl⟩ [3] [0, 1, 2, 4, 5, 6, 7, 8, 9, 10, 11, 12, 13, 14] (nB := 15) rfl (by decide +kernel) (sh_162 g x (A 0) rt rs rp hst rl A d G hst arr xs R) (fun r1 w9 hw => ?_)
          obtain ⟨er1, rfl⟩ := hw
          have h := y_letF h er1
          refine ⟨([mnC x (A 0) rt rs rp hst rl, dayC A d] ++ (dayR g A d G ++ [histW g hst arr xs R]) : List va_W), ⟨(sh_162 g x (A 0) rt rs rp hst rl A d G hst arr xs R), rfl, rfl⟩, ?_⟩
          refine y_bipush (v := 12) C dX6_stop_33 (by decide) ?_
          refine y_icmp_lt (tgt := 41) C dX6_stop_35 rfl (y_e h) (fun c35 h => ?_) (fun c35 h => ?_)
          · refine y_aload_n C dX6_stop_41 0 rfl rfl ?_
            refine y_get (Cn := RX6) (T := TX6) (N := 6) (v := .ref hst) C dX6_stop_42 hX6_stop_X6 0 (sh_155 g x (A 0) rt rs rp hst rl A d G hst arr xs R) rfl 4 (Nat.le_of_ble_eq_true rfl) kX6_stop_3 rfl ?_
            refine y_aload_n C dX6_stop_45 0 rfl rfl ?_
            refine y_get (Cn := RX6) (T := TX6) (N := 6) (v := .ref (A 0)) C dX6_stop_46 hX6_stop_X6 0 (sh_155 g x (A 0) rt rs rp hst rl A d G hst arr xs R) rfl 0 (Nat.le_of_ble_eq_true rfl) kX6_stop_1 rfl ?_
            refine y_callVv (As := [.ref (A 0)]) (rest := []) C dX6_stop_49 (c_X1_add g hst arr xs R A d G) rfl rfl rfl rfl ⟨Nat.le_of_ble_eq_true rfl, Nat.le_of_ble_eq_true rfl⟩ gX6_stop_X1_add (nA := 1) (by decide +kernel) rfl (hist_recv (List.mem_append_right _ (List.mem_append_left _ (List.mem_singleton.mpr rfl)))) (Nat.le_of_ble_eq_true rfl) ⟨Nat.le_of_ble_eq_true rfl, Nat.le_of_ble_eq_true rfl⟩ [1, 14, 2, 3, 4, 5, 6, 7, 8, 9, 10, 11, 12, 13] [0] (nB := 15) rfl (by decide +kernel) (sh_158 g x (A 0) rt rs rp hst rl A d G hst arr xs R) (fun w9 hw => ?_)
            obtain ⟨xs2, G3, e4, rfl⟩ := hw
            have h := y_letF h e4
            refine ⟨([mnC x (A 0) rt rs rp hst rl, dayC A d] ++ (dayR g A d G ++ [histW g hst arr xs2 G3]) : List va_W), (sh_159 g x (A 0) rt rs rp hst rl A d G hst arr xs R xs2 G3), ?_⟩
            refine y_aload_n C dX6_stop_52 0 rfl rfl ?_
            refine y_get (Cn := RX6) (T := TX6) (N := 6) (v := .ref (A 0)) C dX6_stop_53 hX6_stop_X6 0 (sh_155 g x (A 0) rt rs rp hst rl A d G hst arr xs2 G3) rfl 0 (Nat.le_of_ble_eq_true rfl) kX6_stop_1 rfl ?_
            refine y_get (Cn := RX0) (T := TX0) (N := 15) (v := .ref (A 3)) C dX6_stop_56 hX6_stop_X0 1 (sh_156 g x (A 0) rt rs rp hst rl A d G hst arr xs2 G3) rfl 1 (Nat.le_of_ble_eq_true rfl) kX6_stop_2 rfl ?_
            refine y_iload_n C dX6_stop_59 1 rfl rfl ?_
            refine y_callVv (As := [.int px]) (rest := []) C dX6_stop_60 (c_X3_add g (A 3) (A 4) 12 (d.1 1) (G 1) px (by decide)) rfl rfl rfl rfl ⟨Nat.le_of_ble_eq_true rfl, Nat.le_of_ble_eq_true rfl⟩ gX6_stop_X3_add (nA := 1) (by decide +kernel) rfl (rowW_recv ⟨_, rfl⟩) (Nat.le_of_ble_eq_true rfl) ⟨Nat.le_of_ble_eq_true rfl, Nat.le_of_ble_eq_true rfl⟩ [3] [0, 1, 2, 4, 5, 6, 7, 8, 9, 10, 11, 12, 13, 14] (nB := 15) rfl (by decide +kernel) (sh_162 g x (A 0) rt rs rp hst rl A d G hst arr xs2 G3) (fun w9 hw => ?_)
            obtain ⟨y5, G6, e7, rfl⟩ := hw
            obtain ⟨d8, ed8⟩ : ∃ z : RV, z = rvR d 1 y5 := ⟨_, rfl⟩
            obtain ⟨G9, eG9⟩ : ∃ z : Nat → Nat → Int32, z = gs G 1 G6 := ⟨_, rfl⟩
            have h := y_letF h (show d8 = rvR d 1 (rAdd 12 (d.1 1) px) by rw [ed8, e7])
            refine ⟨([mnC x (A 0) rt rs rp hst rl, dayC A d8] ++ (dayR g A d8 G9 ++ [histW g hst arr xs2 G3]) : List va_W), (sh_163 g x (A 0) rt rs rp hst rl A d G hst arr xs2 G3 y5 G6 d8 G9 ed8 eG9), ?_⟩
            refine y_aload_n C dX6_stop_63 0 rfl rfl ?_
            refine y_get (Cn := RX6) (T := TX6) (N := 6) (v := .ref (A 0)) C dX6_stop_64 hX6_stop_X6 0 (sh_155 g x (A 0) rt rs rp hst rl A d8 G9 hst arr xs2 G3) rfl 0 (Nat.le_of_ble_eq_true rfl) kX6_stop_1 rfl ?_
            refine y_get (Cn := RX0) (T := TX0) (N := 15) (v := .ref (A 5)) C dX6_stop_67 hX6_stop_X0 1 (sh_156 g x (A 0) rt rs rp hst rl A d8 G9 hst arr xs2 G3) rfl 2 (Nat.le_of_ble_eq_true rfl) kX6_stop_4 rfl ?_
            refine y_iload_n C dX6_stop_70 2 rfl rfl ?_
            refine y_callVv (As := [.int py]) (rest := []) C dX6_stop_71 (c_X3_add g (A 5) (A 6) 12 (d8.1 2) (G9 2) py (by decide)) rfl rfl rfl rfl ⟨Nat.le_of_ble_eq_true rfl, Nat.le_of_ble_eq_true rfl⟩ gX6_stop_X3_add (nA := 1) (by decide +kernel) rfl (rowW_recv ⟨_, rfl⟩) (Nat.le_of_ble_eq_true rfl) ⟨Nat.le_of_ble_eq_true rfl, Nat.le_of_ble_eq_true rfl⟩ [4] [0, 1, 2, 3, 5, 6, 7, 8, 9, 10, 11, 12, 13, 14] (nB := 15) rfl (by decide +kernel) (sh_164 g x (A 0) rt rs rp hst rl A d8 G9 hst arr xs2 G3) (fun w9 hw => ?_)
            obtain ⟨y10, G11, e12, rfl⟩ := hw
            obtain ⟨d13, ed13⟩ : ∃ z : RV, z = rvR d8 2 y10 := ⟨_, rfl⟩
            obtain ⟨G14, eG14⟩ : ∃ z : Nat → Nat → Int32, z = gs G9 2 G11 := ⟨_, rfl⟩
            have h := y_letF h (show d13 = rvR d8 2 (rAdd 12 (d8.1 2) py) by rw [ed13, e12])
            refine ⟨([mnC x (A 0) rt rs rp hst rl, dayC A d13] ++ (dayR g A d13 G14 ++ [histW g hst arr xs2 G3]) : List va_W), (sh_165 g x (A 0) rt rs rp hst rl A d8 G9 hst arr xs2 G3 y10 G11 d13 G14 ed13 eG14), ?_⟩
            refine y_aload_n C dX6_stop_74 0 rfl rfl ?_
            refine y_get (Cn := RX6) (T := TX6) (N := 6) (v := .ref (A 0)) C dX6_stop_75 hX6_stop_X6 0 (sh_155 g x (A 0) rt rs rp hst rl A d13 G14 hst arr xs2 G3) rfl 0 (Nat.le_of_ble_eq_true rfl) kX6_stop_1 rfl ?_
            refine y_get (Cn := RX0) (T := TX0) (N := 15) (v := .ref (A 3)) C dX6_stop_78 hX6_stop_X0 1 (sh_156 g x (A 0) rt rs rp hst rl A d13 G14 hst arr xs2 G3) rfl 1 (Nat.le_of_ble_eq_true rfl) kX6_stop_2 rfl ?_
            refine y_callV (As := []) (rest := []) C dX6_stop_81 (c_X3_length g (A 3) (A 4) 12 (d13.1 1) (G14 1) (by decide)) rfl rfl rfl rfl ⟨Nat.le_of_ble_eq_true rfl, Nat.le_of_ble_eq_true rfl⟩ gX6_stop_X3_length (nA := 0) (by decide +kernel) rfl (rowW_recv ⟨_, rfl⟩) (Nat.le_of_ble_eq_true rfl) ⟨Nat.le_of_ble_eq_true rfl, Nat.le_of_ble_eq_true rfl⟩ [3] [0, 1, 2, 4, 5, 6, 7, 8, 9, 10, 11, 12, 13, 14] (nB := 15) rfl (by decide +kernel) (sh_162 g x (A 0) rt rs rp hst rl A d13 G14 hst arr xs2 G3) (fun r15 w9 hw => ?_)
            obtain ⟨er15, rfl⟩ := hw
            have h := y_letF h er15
            refine ⟨([mnC x (A 0) rt rs rp hst rl, dayC A d13] ++ (dayR g A d13 G14 ++ [histW g hst arr xs2 G3]) : List va_W), ⟨(sh_162 g x (A 0) rt rs rp hst rl A d13 G14 hst arr xs2 G3), rfl, rfl⟩, ?_⟩
            refine y_iconst (v := 1) C dX6_stop_84 (by decide) ?_
            refine y_isub C dX6_stop_85 ?_
            exact HR 86 dX6_stop_86 (r15 - (1 : Int32)) _ _ _ _ (rfl) (Nat.le_of_ble_eq_true rfl) (Nat.le_of_ble_eq_true rfl) ⟨by rw [h], d13, xs2, G14, G3, by rw [h], by rw [h], rfl⟩
          · refine y_bipush (v := -4) C dX6_stop_38 (by decide) ?_
            exact HR 40 dX6_stop_40 (-4 : Int32) _ _ _ _ (rfl) (Nat.le_of_ble_eq_true rfl) (Nat.le_of_ble_eq_true rfl) ⟨by rw [h], d, xs, G, R, by rw [h], by rw [h], rfl⟩
        · refine y_bipush (v := -2) C dX6_stop_20 (by decide) ?_
          exact HR 22 dX6_stop_22 (-2 : Int32) _ _ _ _ (rfl) (Nat.le_of_ble_eq_true rfl) (Nat.le_of_ble_eq_true rfl) ⟨by rw [h], d, xs, G, R, by rw [h], by rw [h], rfl⟩
theorem dX6_book_0 : decode cX6_book 0 = .ok (.aload_n 0, 1) := by decide +kernel
theorem dX6_book_1 : decode cX6_book 1 = .ok (.iload_n 1, 1) := by decide +kernel
theorem dX6_book_2 : decode cX6_book 2 = .ok (.iload_n 2, 1) := by decide +kernel
theorem dX6_book_3 : decode cX6_book 3 = .ok (.iload_n 3, 1) := by decide +kernel
theorem dX6_book_4 : decode cX6_book 4 = .ok (.iload 4, 2) := by decide +kernel
theorem dX6_book_6 : decode cX6_book 6 = .ok (.invokevirtual 88, 3) := by decide +kernel
theorem dX6_book_9 : decode cX6_book 9 = .ok (.istore 5, 2) := by decide +kernel
theorem dX6_book_11 : decode cX6_book 11 = .ok (.iload 5, 2) := by decide +kernel
theorem dX6_book_13 : decode cX6_book 13 = .ok (.ifCond .ge 6, 3) := by decide +kernel
theorem dX6_book_16 : decode cX6_book 16 = .ok (.iload 5, 2) := by decide +kernel
theorem dX6_book_18 : decode cX6_book 18 = .ok (.ireturn, 1) := by decide +kernel
theorem dX6_book_19 : decode cX6_book 19 = .ok (.aload_n 0, 1) := by decide +kernel
theorem dX6_book_20 : decode cX6_book 20 = .ok (.getfield 40, 3) := by decide +kernel
theorem dX6_book_23 : decode cX6_book 23 = .ok (.aload_n 0, 1) := by decide +kernel
theorem dX6_book_24 : decode cX6_book 24 = .ok (.getfield 12, 3) := by decide +kernel
theorem dX6_book_27 : decode cX6_book 27 = .ok (.invokevirtual 65, 3) := by decide +kernel
theorem dX6_book_30 : decode cX6_book 30 = .ok (.aload_n 0, 1) := by decide +kernel
theorem dX6_book_31 : decode cX6_book 31 = .ok (.getfield 12, 3) := by decide +kernel
theorem dX6_book_34 : decode cX6_book 34 = .ok (.aload_n 0, 1) := by decide +kernel
theorem dX6_book_35 : decode cX6_book 35 = .ok (.getfield 26, 3) := by decide +kernel
theorem dX6_book_38 : decode cX6_book 38 = .ok (.getfield 92, 3) := by decide +kernel
theorem dX6_book_41 : decode cX6_book 41 = .ok (.invokevirtual 93, 3) := by decide +kernel
theorem dX6_book_44 : decode cX6_book 44 = .ok (.iload 5, 2) := by decide +kernel
theorem dX6_book_46 : decode cX6_book 46 = .ok (.ireturn, 1) := by decide +kernel
set_option maxRecDepth 20000 in
theorem ggX6_book_X6_tryToBook : GoodIn wsX6_book wsX6_tryToBook := goodIn_r _ [9, 2, 10, 3, 11, 12, 13, 8, 14, 15, 16, 17, 18, 19, 20, 21, 22, 23, 24, 25, 26, 27, 28, 29, 30, 31, 32, 33, 34, 35, 36, 37, 38, 39, 40, 41, 42, 43, 44, 45, 46, 47, 48, 49, 50, 51, 52, 53, 54, 55, 56, 57, 58, 59, 60, 61, 62, 63, 64, 65, 66, 67, 68, 69, 70, 71, 72, 73, 74, 75, 76, 77, 78, 79, 80, 81, 82, 83, 84, 85, 86, 87, 88, 89, 90, 91, 92, 93, 94, 95, 96, 97, 98, 99, 100, 101, 102, 103, 104, 105, 106, 107, 108, 109, 110, 111, 112, 113, 114, 115, 116, 117, 118, 119, 120, 121, 122, 123, 124, 125, 126, 127, 128, 129, 130, 131, 132, 133, 134, 135, 136, 137, 138, 139, 140, 141, 142, 143, 144, 145, 146, 147, 148, 149, 150, 151, 152, 153, 154, 155, 156, 157, 158, 159, 160, 161, 162, 163, 164, 165, 166, 167, 168, 169, 170, 171, 172, 173, 174, 175, 176, 177, 178, 179, 180, 181, 182, 183, 184, 185, 215, 216, 217, 218, 219, 220, 230, 231, 232, 233, 234, 235, 236, 237, 238, 239, 240, 241, 242, 243, 244, 245, 246, 221, 222, 223, 224, 225, 226, 227, 228, 229, 247, 248, 249, 250, 251, 252, 253, 254, 255, 256] (by decide +kernel) (by decide +kernel)
set_option maxRecDepth 20000 in
theorem gX6_book_X6_tryToBook : GoodIn wsX6_book (wsV RX6 88 RX6 yX6_tryToBook wsX6_tryToBook) := goodIn_app (goodIn_of _ (by decide +kernel)) ggX6_book_X6_tryToBook
set_option maxRecDepth 20000 in
theorem ggX6_book_X1_add : GoodIn wsX6_book wsX1_add := goodIn_r _ [190, 191, 192, 193, 194, 18, 195, 196, 197, 189, 198, 199, 200, 201, 202, 203, 204, 205, 206, 24, 43, 20, 44, 45, 46, 47, 48, 49, 50, 51, 52, 53, 207, 208, 209, 210, 211, 71, 64, 72, 212, 61, 77, 78, 79, 80, 26, 81, 82, 83, 84, 213, 40, 41, 42, 54, 55, 56, 57, 58, 59, 60, 62, 63, 65, 257, 258, 230, 231, 232, 233, 234, 235, 236, 237, 238, 239, 240, 241, 242, 243, 244, 245, 246] (by decide +kernel) (by decide +kernel)
set_option maxRecDepth 20000 in
theorem gX6_book_X1_add : GoodIn wsX6_book (wsV RX6 65 RX1 yX1_add wsX1_add) := goodIn_app (goodIn_of _ (by decide +kernel)) ggX6_book_X1_add
set_option maxRecDepth 20000 in
theorem ggX6_book_X0_copy : GoodIn wsX6_book wsX0_copy := goodIn_r _ [42, 43, 20, 44, 45, 46, 47, 48, 49, 50, 51, 52, 53, 54, 55, 56, 57, 58, 59, 24, 60, 26, 61, 62, 63, 64, 65, 230, 231, 232, 233, 234, 235, 236, 237, 238, 239, 240, 241, 242, 243, 244, 245, 246] (by decide +kernel) (by decide +kernel)
set_option maxRecDepth 20000 in
theorem gX6_book_X0_copy : GoodIn wsX6_book (wsV RX6 93 RX0 yX0_copy wsX0_copy) := goodIn_app (goodIn_of _ (by decide +kernel)) ggX6_book_X0_copy
theorem kX6_book_1 : Cond.fieldLink RX6 40 "BookedDetours" "history" "LBookedDetours$History;" ∈ wsX6_book := List.mem_of_getElem? (i := 1) (by decide +kernel)
theorem kX6_book_2 : Cond.fieldLink RX6 12 "BookedDetours" "day" "LBookedDetours$Day;" ∈ wsX6_book := List.mem_of_getElem? (i := 2) (by decide +kernel)
theorem kX6_book_3 : Cond.fieldLink RX6 26 "BookedDetours" "search" "LBookedDetours$Search;" ∈ wsX6_book := List.mem_of_getElem? (i := 3) (by decide +kernel)
theorem kX6_book_4 : Cond.fieldLink RX6 92 "BookedDetours$Search" "day" "LBookedDetours$Day;" ∈ wsX6_book := List.mem_of_getElem? (i := 4) (by decide +kernel)
theorem hX6_book_X6 : ∀ w ∈ u_ws RX6 TX6 6, w ∈ wsX6_book := fun _ h => List.mem_cons_of_mem _ (List.mem_append_left _ (List.mem_append_left _ (List.mem_append_left _ (List.mem_append_left _ (List.mem_append_left _ (List.mem_append_right _ h))))))
theorem hX6_book_X4 : ∀ w ∈ u_ws RX4 TX4 9, w ∈ wsX6_book := fun _ h => List.mem_cons_of_mem _ (List.mem_append_left _ (List.mem_append_left _ (List.mem_append_left _ (List.mem_append_left _ (List.mem_append_right _ h)))))
set_option maxHeartbeats 4000000 in
set_option maxRecDepth 100000 in
theorem c_X6_book (g : yG) (x rt rp rl : Nat) (A : Nat → Nat) (d : RV) (G : Nat → Nat → Int32) (S : Nat) (sv : RV) (SA : Nat → Nat) (sd : RV) (SG : Nat → Nat → Int32) (ST : Nat → Nat) (st : RV) (SGT : Nat → Nat → Int32) (hst arr : Nat) (xs : List RV) (R : List ((Nat → Nat) × RV × (Nat → Nat → Int32))) (fr : Int32) (to : Int32) (wa : Int32) (bt : Int32) : yM g yX6_book wsX6_book ({ frames := 6, cells := 25, slots := 236, locals := 148 } : Room) [.ref x, .int fr, .int to, .int wa, .int bt] ([mnC x (A 0) rt S rp hst rl, dayC A d, seaC S (SA 0) (ST 0) sv, dayC SA sd, tabC ST st] ++ (dayR g A d G ++ (dayR g SA sd SG ++ (tabR g ST st SGT ++ [histW g hst arr xs R]))) : List va_W) (fun r w => r = (f_X6_book d sv sd st xs fr to wa bt).1 ∧ ∃ d' : RV, ∃ sv' : RV, ∃ sd' : RV, ∃ st' : RV, ∃ xs' : List RV, ∃ G' : Nat → Nat → Int32, ∃ SG' : Nat → Nat → Int32, ∃ SGT' : Nat → Nat → Int32, ∃ R' : List ((Nat → Nat) × RV × (Nat → Nat → Int32)), d' = (f_X6_book d sv sd st xs fr to wa bt).2.1 ∧ sv' = (f_X6_book d sv sd st xs fr to wa bt).2.2.1 ∧ sd' = (f_X6_book d sv sd st xs fr to wa bt).2.2.2.1 ∧ st' = (f_X6_book d sv sd st xs fr to wa bt).2.2.2.2.1 ∧ xs' = (f_X6_book d sv sd st xs fr to wa bt).2.2.2.2.2 ∧ w = ([mnC x (A 0) rt S rp hst rl, dayC A d', seaC S (SA 0) (ST 0) sv', dayC SA sd', tabC ST st'] ++ (dayR g A d' G' ++ (dayR g SA sd' SG' ++ (tabR g ST st' SGT' ++ [histW g hst arr xs' R']))) : List va_W)) 25 236 := by
  refine y_entryI (cc := cX6_book) (maxL := 6) (by decide +kernel) rfl (Nat.le_of_ble_eq_true rfl) (fun Z C HR => ?_)
  have C : yC Z g cX6_book 6 wsX6_book RX6 := C
  have h := f_X6_book.eq_1 d sv sd st xs fr to wa bt
  show yJ Z _ 0 0 _ 0 [(0, .ref x), (1, .int fr), (2, .int to), (3, .int wa), (4, .int bt)] []
  refine y_aload_n C dX6_book_0 0 rfl rfl ?_
  refine y_iload_n C dX6_book_1 1 rfl rfl ?_
  refine y_iload_n C dX6_book_2 2 rfl rfl ?_
  refine y_iload_n C dX6_book_3 3 rfl rfl ?_
  refine y_iload C dX6_book_4 4 rfl ?_
  refine y_callV (As := [.int fr, .int to, .int wa, .int bt]) (rest := []) C dX6_book_6 (c_X6_tryToBook g x rt rp hst rl A d G S sv SA sd SG ST st SGT fr to wa bt) rfl rfl rfl rfl ⟨Nat.le_of_ble_eq_true rfl, Nat.le_of_ble_eq_true rfl⟩ gX6_book_X6_tryToBook (nA := 4) (by decide +kernel) rfl (sh_167 g x (A 0) rt S rp hst rl A d G S (SA 0) (ST 0) sv SA sd SG ST st SGT) (Nat.le_of_ble_eq_true rfl) ⟨Nat.le_of_ble_eq_true rfl, Nat.le_of_ble_eq_true rfl⟩ [0, 1, 2, 3, 4, 5, 6, 7, 8, 9, 10, 11, 12, 13, 14, 15, 16, 17, 18, 19, 20, 21, 22, 23, 24, 25, 26, 27, 28, 29, 30, 31, 32, 33] [34] (nB := 35) rfl (by decide +kernel) (sh_166 g x (A 0) rt S rp hst rl A d G S (SA 0) (ST 0) sv SA sd SG ST st SGT hst arr xs R) (fun r9 w9 hw => ?_)
  obtain ⟨er9, sv1, sd3, st6, G4, G7, e2, e5, e8, rfl⟩ := hw
  have h := y_letF h er9
  have h := y_letF h e2
  have h := y_letF h e5
  have h := y_letF h e8
  refine ⟨([mnC x (A 0) rt S rp hst rl, dayC A d, seaC S (SA 0) (ST 0) sv1, dayC SA sd3, tabC ST st6] ++ (dayR g A d G ++ (dayR g SA sd3 G4 ++ (tabR g ST st6 G7 ++ [histW g hst arr xs R]))) : List va_W), (sh_168 g x (A 0) rt S rp hst rl A d G S (SA 0) (ST 0) sv SA sd SG ST st SGT hst arr xs R sv1 sd3 G4 st6 G7), ?_⟩
  refine y_istore (lv' := [(5, .int r9), (0, .ref x), (1, .int fr), (2, .int to), (3, .int wa), (4, .int bt)]) C dX6_book_9 (Nat.le_of_ble_eq_true rfl) rfl ?_
  refine y_iload C dX6_book_11 0 rfl ?_
  refine y_if_ge (tgt := 19) C dX6_book_13 rfl (y_e h) (fun c13 h => ?_) (fun c13 h => ?_)
  · refine y_aload_n C dX6_book_19 1 rfl rfl ?_
    refine y_get (Cn := RX6) (T := TX6) (N := 6) (v := .ref hst) C dX6_book_20 hX6_book_X6 0 (sh_169 g x (A 0) rt S rp hst rl A d G S (SA 0) (ST 0) sv1 SA sd3 G4 ST st6 G7 hst arr xs R) rfl 4 (Nat.le_of_ble_eq_true rfl) kX6_book_1 rfl ?_
    refine y_aload_n C dX6_book_23 1 rfl rfl ?_
    refine y_get (Cn := RX6) (T := TX6) (N := 6) (v := .ref (A 0)) C dX6_book_24 hX6_book_X6 0 (sh_169 g x (A 0) rt S rp hst rl A d G S (SA 0) (ST 0) sv1 SA sd3 G4 ST st6 G7 hst arr xs R) rfl 0 (Nat.le_of_ble_eq_true rfl) kX6_book_2 rfl ?_
    refine y_callVv (As := [.ref (A 0)]) (rest := []) C dX6_book_27 (c_X1_add g hst arr xs R A d G) rfl rfl rfl rfl ⟨Nat.le_of_ble_eq_true rfl, Nat.le_of_ble_eq_true rfl⟩ gX6_book_X1_add (nA := 1) (by decide +kernel) rfl (hist_recv (List.mem_append_right _ (List.mem_append_left _ (List.mem_singleton.mpr rfl)))) (Nat.le_of_ble_eq_true rfl) ⟨Nat.le_of_ble_eq_true rfl, Nat.le_of_ble_eq_true rfl⟩ [1, 34, 5, 6, 7, 8, 9, 10, 11, 12, 13, 14, 15, 16] [0, 2, 3, 4, 17, 18, 19, 20, 21, 22, 23, 24, 25, 26, 27, 28, 29, 30, 31, 32, 33] (nB := 35) rfl (by decide +kernel) (sh_170 g x (A 0) rt S rp hst rl A d G S (SA 0) (ST 0) sv1 SA sd3 G4 ST st6 G7 hst arr xs R) (fun w9 hw => ?_)
    obtain ⟨xs10, G11, e12, rfl⟩ := hw
    have h := y_letF h e12
    refine ⟨([mnC x (A 0) rt S rp hst rl, dayC A d, seaC S (SA 0) (ST 0) sv1, dayC SA sd3, tabC ST st6] ++ (dayR g A d G ++ (dayR g SA sd3 G4 ++ (tabR g ST st6 G7 ++ [histW g hst arr xs10 G11]))) : List va_W), (sh_171 g x (A 0) rt S rp hst rl A d G S (SA 0) (ST 0) sv1 SA sd3 G4 ST st6 G7 hst arr xs R xs10 G11), ?_⟩
    refine y_aload_n C dX6_book_30 1 rfl rfl ?_
    refine y_get (Cn := RX6) (T := TX6) (N := 6) (v := .ref (A 0)) C dX6_book_31 hX6_book_X6 0 (sh_169 g x (A 0) rt S rp hst rl A d G S (SA 0) (ST 0) sv1 SA sd3 G4 ST st6 G7 hst arr xs10 G11) rfl 0 (Nat.le_of_ble_eq_true rfl) kX6_book_2 rfl ?_
    refine y_aload_n C dX6_book_34 1 rfl rfl ?_
    refine y_get (Cn := RX6) (T := TX6) (N := 6) (v := .ref S) C dX6_book_35 hX6_book_X6 0 (sh_169 g x (A 0) rt S rp hst rl A d G S (SA 0) (ST 0) sv1 SA sd3 G4 ST st6 G7 hst arr xs10 G11) rfl 2 (Nat.le_of_ble_eq_true rfl) kX6_book_3 rfl ?_
    refine y_get (Cn := RX4) (T := TX4) (N := 9) (v := .ref (SA 0)) C dX6_book_38 hX6_book_X4 2 (sh_172 g x (A 0) rt S rp hst rl A d G S (SA 0) (ST 0) sv1 SA sd3 G4 ST st6 G7 hst arr xs10 G11) rfl 0 (Nat.le_of_ble_eq_true rfl) kX6_book_4 rfl ?_
    refine y_callVv (As := [.ref (SA 0)]) (rest := []) C dX6_book_41 (k_X0_copy g A d G SA sd3 G4) rfl rfl rfl rfl ⟨Nat.le_of_ble_eq_true rfl, Nat.le_of_ble_eq_true rfl⟩ gX6_book_X0_copy (nA := 1) (by decide +kernel) rfl (sh_127 g A d G SA sd3 G4) (Nat.le_of_ble_eq_true rfl) ⟨Nat.le_of_ble_eq_true rfl, Nat.le_of_ble_eq_true rfl⟩ [1, 3, 5, 6, 7, 8, 9, 10, 11, 12, 13, 14, 15, 16, 17, 18, 19, 20, 21, 22, 23, 24, 25, 26, 27, 28] [0, 2, 4, 29, 30, 31, 32, 33, 34] (nB := 35) rfl (by decide +kernel) (sh_173 g x (A 0) rt S rp hst rl A d G S (SA 0) (ST 0) sv1 SA sd3 G4 ST st6 G7 hst arr xs10 G11) (fun w9 hw => ?_)
    obtain ⟨d13, G14, e15, rfl⟩ := hw
    have h := y_letF h e15
    refine ⟨([mnC x (A 0) rt S rp hst rl, dayC A d13, seaC S (SA 0) (ST 0) sv1, dayC SA sd3, tabC ST st6] ++ (dayR g A d13 G14 ++ (dayR g SA sd3 G4 ++ (tabR g ST st6 G7 ++ [histW g hst arr xs10 G11]))) : List va_W), (sh_174 g x (A 0) rt S rp hst rl A d G S (SA 0) (ST 0) sv1 SA sd3 G4 ST st6 G7 hst arr xs10 G11 d13 G14), ?_⟩
    refine y_iload C dX6_book_44 0 rfl ?_
    exact HR 46 dX6_book_46 r9 _ _ _ _ (rfl) (Nat.le_of_ble_eq_true rfl) (Nat.le_of_ble_eq_true rfl) ⟨by rw [h], d13, sv1, sd3, st6, xs10, G14, G4, G7, G11, by rw [h], by rw [h], by rw [h], by rw [h], by rw [h], rfl⟩
  · refine y_iload C dX6_book_16 0 rfl ?_
    exact HR 18 dX6_book_18 r9 _ _ _ _ (rfl) (Nat.le_of_ble_eq_true rfl) (Nat.le_of_ble_eq_true rfl) ⟨by rw [h], d, sv1, sd3, st6, xs, G, G4, G7, R, by rw [h], by rw [h], by rw [h], by rw [h], by rw [h], rfl⟩
