theorem dX6_miss_0 : decode cX6_miss 0 = .ok (.aload_n 0, 1) := by decide +kernel
theorem dX6_miss_1 : decode cX6_miss 1 = .ok (.getfield 12, 3) := by decide +kernel
theorem dX6_miss_4 : decode cX6_miss 4 = .ok (.iload_n 1, 1) := by decide +kernel
theorem dX6_miss_5 : decode cX6_miss 5 = .ok (.invokevirtual 96, 3) := by decide +kernel
theorem dX6_miss_8 : decode cX6_miss 8 = .ok (.ifCond .ne 5, 3) := by decide +kernel
theorem dX6_miss_11 : decode cX6_miss 11 = .ok (.iconst (-1), 1) := by decide +kernel
theorem dX6_miss_12 : decode cX6_miss 12 = .ok (.ireturn, 1) := by decide +kernel
theorem dX6_miss_13 : decode cX6_miss 13 = .ok (.aload_n 0, 1) := by decide +kernel
theorem dX6_miss_14 : decode cX6_miss 14 = .ok (.getfield 12, 3) := by decide +kernel
theorem dX6_miss_17 : decode cX6_miss 17 = .ok (.getfield 100, 3) := by decide +kernel
theorem dX6_miss_20 : decode cX6_miss 20 = .ok (.iload_n 1, 1) := by decide +kernel
theorem dX6_miss_21 : decode cX6_miss 21 = .ok (.invokevirtual 72, 3) := by decide +kernel
theorem dX6_miss_24 : decode cX6_miss 24 = .ok (.iconst 1, 1) := by decide +kernel
theorem dX6_miss_25 : decode cX6_miss 25 = .ok (.if_icmp .eq 6, 3) := by decide +kernel
theorem dX6_miss_28 : decode cX6_miss 28 = .ok (.bipush (-5), 2) := by decide +kernel
theorem dX6_miss_30 : decode cX6_miss 30 = .ok (.ireturn, 1) := by decide +kernel
theorem dX6_miss_31 : decode cX6_miss 31 = .ok (.aload_n 0, 1) := by decide +kernel
theorem dX6_miss_32 : decode cX6_miss 32 = .ok (.getfield 40, 3) := by decide +kernel
theorem dX6_miss_35 : decode cX6_miss 35 = .ok (.aload_n 0, 1) := by decide +kernel
theorem dX6_miss_36 : decode cX6_miss 36 = .ok (.getfield 12, 3) := by decide +kernel
theorem dX6_miss_39 : decode cX6_miss 39 = .ok (.invokevirtual 65, 3) := by decide +kernel
theorem dX6_miss_42 : decode cX6_miss 42 = .ok (.aload_n 0, 1) := by decide +kernel
theorem dX6_miss_43 : decode cX6_miss 43 = .ok (.getfield 12, 3) := by decide +kernel
theorem dX6_miss_46 : decode cX6_miss 46 = .ok (.iload_n 1, 1) := by decide +kernel
theorem dX6_miss_47 : decode cX6_miss 47 = .ok (.iconst 4, 1) := by decide +kernel
theorem dX6_miss_48 : decode cX6_miss 48 = .ok (.invokevirtual 103, 3) := by decide +kernel
theorem dX6_miss_51 : decode cX6_miss 51 = .ok (.aload_n 0, 1) := by decide +kernel
theorem dX6_miss_52 : decode cX6_miss 52 = .ok (.getfield 12, 3) := by decide +kernel
theorem dX6_miss_55 : decode cX6_miss 55 = .ok (.getfield 55, 3) := by decide +kernel
theorem dX6_miss_58 : decode cX6_miss 58 = .ok (.invokevirtual 59, 3) := by decide +kernel
theorem dX6_miss_61 : decode cX6_miss 61 = .ok (.ireturn, 1) := by decide +kernel
set_option maxRecDepth 20000 in
theorem ggX6_miss_X0_hasRide : GoodIn wsX6_miss wsX0_hasRide := goodIn_r _ [9, 10, 11, 12, 13, 14, 15, 16, 130, 131, 132, 133, 134, 135, 136, 137, 138, 139, 140, 141, 142, 143, 144, 145, 146] (by decide +kernel) (by decide +kernel)
set_option maxRecDepth 20000 in
theorem gX6_miss_X0_hasRide : GoodIn wsX6_miss (wsV RX6 96 RX0 yX0_hasRide wsX0_hasRide) := goodIn_app (goodIn_of _ (by decide +kernel)) ggX6_miss_X0_hasRide
set_option maxRecDepth 20000 in
theorem ggX6_miss_X3_at : GoodIn wsX6_miss wsX3_at := goodIn_r _ [20, 16, 21, 145, 146] (by decide +kernel) (by decide +kernel)
set_option maxRecDepth 20000 in
theorem gX6_miss_X3_at : GoodIn wsX6_miss (wsV RX6 72 RX3 yX3_at wsX3_at) := goodIn_app (goodIn_of _ (by decide +kernel)) ggX6_miss_X3_at
set_option maxRecDepth 20000 in
theorem ggX6_miss_X1_add : GoodIn wsX6_miss wsX1_add := goodIn_r _ [26, 27, 28, 29, 30, 8, 31, 32, 33, 25, 34, 35, 36, 37, 38, 39, 40, 41, 42, 14, 43, 44, 45, 46, 47, 48, 49, 50, 10, 51, 52, 53, 54, 55, 56, 57, 58, 59, 60, 61, 62, 21, 63, 64, 65, 66, 16, 67, 68, 69, 70, 71, 72, 73, 74, 75, 76, 77, 78, 79, 80, 81, 82, 83, 84, 147, 148, 130, 131, 132, 133, 134, 135, 136, 137, 138, 139, 140, 141, 142, 143, 144, 145, 146] (by decide +kernel) (by decide +kernel)
set_option maxRecDepth 20000 in
theorem gX6_miss_X1_add : GoodIn wsX6_miss (wsV RX6 65 RX1 yX1_add wsX1_add) := goodIn_app (goodIn_of _ (by decide +kernel)) ggX6_miss_X1_add
set_option maxRecDepth 20000 in
theorem ggX6_miss_X0_leaveOut : GoodIn wsX6_miss wsX0_leaveOut := goodIn_r _ [88, 53, 10, 89, 90, 91, 8, 92, 75, 77, 11, 12, 13, 14, 15, 16, 93, 18, 19, 20, 21, 94, 95, 96, 97, 98, 99, 100, 76, 101, 59, 60, 61, 102, 103, 104, 105, 47, 46, 106, 107, 108, 109, 110, 111, 44, 112, 113, 114, 45, 115, 116, 117, 118, 119, 120, 121, 122, 130, 131, 132, 133, 134, 135, 136, 137, 138, 139, 140, 141, 142, 143, 144, 145, 146] (by decide +kernel) (by decide +kernel)
set_option maxRecDepth 20000 in
theorem gX6_miss_X0_leaveOut : GoodIn wsX6_miss (wsV RX6 103 RX0 yX0_leaveOut wsX0_leaveOut) := goodIn_app (goodIn_of _ (by decide +kernel)) ggX6_miss_X0_leaveOut
set_option maxRecDepth 20000 in
theorem ggX6_miss_X3_length : GoodIn wsX6_miss wsX3_length := goodIn_r _ [15, 16, 145, 146] (by decide +kernel) (by decide +kernel)
set_option maxRecDepth 20000 in
theorem gX6_miss_X3_length : GoodIn wsX6_miss (wsV RX6 59 RX3 yX3_length wsX3_length) := goodIn_app (goodIn_of _ (by decide +kernel)) ggX6_miss_X3_length
theorem kX6_miss_1 : Cond.fieldLink RX6 12 "BookedDetours" "day" "LBookedDetours$Day;" ∈ wsX6_miss := List.mem_of_getElem? (i := 1) (by decide +kernel)
theorem kX6_miss_2 : Cond.fieldLink RX6 100 "BookedDetours$Day" "stands" "LBookedDetours$Row;" ∈ wsX6_miss := List.mem_of_getElem? (i := 2) (by decide +kernel)
theorem kX6_miss_3 : Cond.fieldLink RX6 40 "BookedDetours" "history" "LBookedDetours$History;" ∈ wsX6_miss := List.mem_of_getElem? (i := 3) (by decide +kernel)
theorem kX6_miss_4 : Cond.fieldLink RX6 55 "BookedDetours$Day" "route" "LBookedDetours$Row;" ∈ wsX6_miss := List.mem_of_getElem? (i := 4) (by decide +kernel)
theorem hX6_miss_X6 : ∀ w ∈ u_ws RX6 TX6 6, w ∈ wsX6_miss := fun _ h => List.mem_cons_of_mem _ (List.mem_append_left _ (List.mem_append_left _ (List.mem_append_left _ (List.mem_append_right _ h))))
theorem hX6_miss_X0 : ∀ w ∈ u_ws RX0 TX0 15, w ∈ wsX6_miss := fun _ h => List.mem_cons_of_mem _ (List.mem_append_left _ (List.mem_append_left _ (List.mem_append_right _ h)))
set_option maxHeartbeats 4000000 in
set_option maxRecDepth 100000 in
theorem c_X6_miss (g : yG) (x rt rs rp rl : Nat) (A : Nat → Nat) (d : RV) (G : Nat → Nat → Int32) (hst arr : Nat) (xs : List RV) (R : List ((Nat → Nat) × RV × (Nat → Nat → Int32))) (ri : Int32) : yM g yX6_miss wsX6_miss ({ frames := 4, cells := 25, slots := 236, locals := 142 } : Room) [.ref x, .int ri] ([mnC x (A 0) rt rs rp hst rl, dayC A d] ++ (dayR g A d G ++ [histW g hst arr xs R]) : List va_W) (fun r w => r = (f_X6_miss d xs ri).1 ∧ ∃ d' : RV, ∃ xs' : List RV, ∃ G' : Nat → Nat → Int32, ∃ R' : List ((Nat → Nat) × RV × (Nat → Nat → Int32)), d' = (f_X6_miss d xs ri).2.1 ∧ xs' = (f_X6_miss d xs ri).2.2 ∧ w = ([mnC x (A 0) rt rs rp hst rl, dayC A d'] ++ (dayR g A d' G' ++ [histW g hst arr xs' R']) : List va_W)) 25 236 := by
  refine y_entryI (cc := cX6_miss) (maxL := 2) (by decide +kernel) rfl (Nat.le_of_ble_eq_true rfl) (fun Z C HR => ?_)
  have C : yC Z g cX6_miss 2 wsX6_miss RX6 := C
  have h := f_X6_miss.eq_1 d xs ri
  show yJ Z _ 0 0 _ 0 [(0, .ref x), (1, .int ri)] []
  refine y_aload_n C dX6_miss_0 0 rfl rfl ?_
  refine y_get (Cn := RX6) (T := TX6) (N := 6) (v := .ref (A 0)) C dX6_miss_1 hX6_miss_X6 0 (sh_155 g x (A 0) rt rs rp hst rl A d G hst arr xs R) rfl 0 (Nat.le_of_ble_eq_true rfl) kX6_miss_1 rfl ?_
  refine y_iload_n C dX6_miss_4 1 rfl rfl ?_
  refine y_callV (As := [.int ri]) (rest := []) C dX6_miss_5 (c_X0_hasRide g A d G ri) rfl rfl rfl rfl ⟨Nat.le_of_ble_eq_true rfl, Nat.le_of_ble_eq_true rfl⟩ gX6_miss_X0_hasRide (nA := 1) (by decide +kernel) rfl (sh_18 g A d G) (Nat.le_of_ble_eq_true rfl) ⟨Nat.le_of_ble_eq_true rfl, Nat.le_of_ble_eq_true rfl⟩ [1, 2, 3, 4, 5, 6, 7, 8, 9, 10, 11, 12, 13] [0, 14] (nB := 15) rfl (by decide +kernel) (sh_175 g x (A 0) rt rs rp hst rl A d G hst arr xs R) (fun r1 w9 hw => ?_)
  obtain ⟨er1, rfl⟩ := hw
  have h := y_letF h er1
  refine ⟨([mnC x (A 0) rt rs rp hst rl, dayC A d] ++ (dayR g A d G ++ [histW g hst arr xs R]) : List va_W), ⟨(sh_175 g x (A 0) rt rs rp hst rl A d G hst arr xs R), rfl, rfl⟩, ?_⟩
  refine y_if_ne (tgt := 13) C dX6_miss_8 rfl (y_e h) (fun c8 h => ?_) (fun c8 h => ?_)
  · refine y_aload_n C dX6_miss_13 0 rfl rfl ?_
    refine y_get (Cn := RX6) (T := TX6) (N := 6) (v := .ref (A 0)) C dX6_miss_14 hX6_miss_X6 0 (sh_155 g x (A 0) rt rs rp hst rl A d G hst arr xs R) rfl 0 (Nat.le_of_ble_eq_true rfl) kX6_miss_1 rfl ?_
    refine y_get (Cn := RX0) (T := TX0) (N := 15) (v := .ref (A 17)) C dX6_miss_17 hX6_miss_X0 1 (sh_156 g x (A 0) rt rs rp hst rl A d G hst arr xs R) rfl 8 (Nat.le_of_ble_eq_true rfl) kX6_miss_2 rfl ?_
    refine y_iload_n C dX6_miss_20 1 rfl rfl ?_
    refine y_callV (As := [.int ri]) (rest := []) C dX6_miss_21 (c_X3_at g (A 17) (A 18) 17 (d.1 8) (G 8) ri (by decide)) rfl rfl rfl rfl ⟨Nat.le_of_ble_eq_true rfl, Nat.le_of_ble_eq_true rfl⟩ gX6_miss_X3_at (nA := 1) (by decide +kernel) rfl (rowW_recv ⟨_, rfl⟩) (Nat.le_of_ble_eq_true rfl) ⟨Nat.le_of_ble_eq_true rfl, Nat.le_of_ble_eq_true rfl⟩ [10] [0, 1, 2, 3, 4, 5, 6, 7, 8, 9, 11, 12, 13, 14] (nB := 15) rfl (by decide +kernel) (sh_176 g x (A 0) rt rs rp hst rl A d G hst arr xs R) (fun r2 w9 hw => ?_)
    obtain ⟨er2, rfl⟩ := hw
    have h := y_letF h er2
    refine ⟨([mnC x (A 0) rt rs rp hst rl, dayC A d] ++ (dayR g A d G ++ [histW g hst arr xs R]) : List va_W), ⟨(sh_176 g x (A 0) rt rs rp hst rl A d G hst arr xs R), rfl, rfl⟩, ?_⟩
    refine y_iconst (v := 1) C dX6_miss_24 (by decide) ?_
    refine y_icmp_eq (tgt := 31) C dX6_miss_25 rfl (y_e h) (fun c25 h => ?_) (fun c25 h => ?_)
    · refine y_aload_n C dX6_miss_31 0 rfl rfl ?_
      refine y_get (Cn := RX6) (T := TX6) (N := 6) (v := .ref hst) C dX6_miss_32 hX6_miss_X6 0 (sh_155 g x (A 0) rt rs rp hst rl A d G hst arr xs R) rfl 4 (Nat.le_of_ble_eq_true rfl) kX6_miss_3 rfl ?_
      refine y_aload_n C dX6_miss_35 0 rfl rfl ?_
      refine y_get (Cn := RX6) (T := TX6) (N := 6) (v := .ref (A 0)) C dX6_miss_36 hX6_miss_X6 0 (sh_155 g x (A 0) rt rs rp hst rl A d G hst arr xs R) rfl 0 (Nat.le_of_ble_eq_true rfl) kX6_miss_1 rfl ?_
      refine y_callVv (As := [.ref (A 0)]) (rest := []) C dX6_miss_39 (c_X1_add g hst arr xs R A d G) rfl rfl rfl rfl ⟨Nat.le_of_ble_eq_true rfl, Nat.le_of_ble_eq_true rfl⟩ gX6_miss_X1_add (nA := 1) (by decide +kernel) rfl (hist_recv (List.mem_append_right _ (List.mem_append_left _ (List.mem_singleton.mpr rfl)))) (Nat.le_of_ble_eq_true rfl) ⟨Nat.le_of_ble_eq_true rfl, Nat.le_of_ble_eq_true rfl⟩ [1, 14, 2, 3, 4, 5, 6, 7, 8, 9, 10, 11, 12, 13] [0] (nB := 15) rfl (by decide +kernel) (sh_158 g x (A 0) rt rs rp hst rl A d G hst arr xs R) (fun w9 hw => ?_)
      obtain ⟨xs3, G4, e5, rfl⟩ := hw
      have h := y_letF h e5
      refine ⟨([mnC x (A 0) rt rs rp hst rl, dayC A d] ++ (dayR g A d G ++ [histW g hst arr xs3 G4]) : List va_W), (sh_159 g x (A 0) rt rs rp hst rl A d G hst arr xs R xs3 G4), ?_⟩
      refine y_aload_n C dX6_miss_42 0 rfl rfl ?_
      refine y_get (Cn := RX6) (T := TX6) (N := 6) (v := .ref (A 0)) C dX6_miss_43 hX6_miss_X6 0 (sh_155 g x (A 0) rt rs rp hst rl A d G hst arr xs3 G4) rfl 0 (Nat.le_of_ble_eq_true rfl) kX6_miss_1 rfl ?_
      refine y_iload_n C dX6_miss_46 1 rfl rfl ?_
      refine y_iconst (v := 4) C dX6_miss_47 (by decide) ?_
      refine y_callVv (As := [.int ri, .int (4 : Int32)]) (rest := []) C dX6_miss_48 (c_X0_leaveOut g A d G ri (4 : Int32)) rfl rfl rfl rfl ⟨Nat.le_of_ble_eq_true rfl, Nat.le_of_ble_eq_true rfl⟩ gX6_miss_X0_leaveOut (nA := 2) (by decide +kernel) rfl (sh_18 g A d G) (Nat.le_of_ble_eq_true rfl) ⟨Nat.le_of_ble_eq_true rfl, Nat.le_of_ble_eq_true rfl⟩ [1, 2, 3, 4, 5, 6, 7, 8, 9, 10, 11, 12, 13] [0, 14] (nB := 15) rfl (by decide +kernel) (sh_175 g x (A 0) rt rs rp hst rl A d G hst arr xs3 G4) (fun w9 hw => ?_)
      obtain ⟨d6, G7, e8, rfl⟩ := hw
      have h := y_letF h e8
      refine ⟨([mnC x (A 0) rt rs rp hst rl, dayC A d6] ++ (dayR g A d6 G7 ++ [histW g hst arr xs3 G4]) : List va_W), (sh_177 g x (A 0) rt rs rp hst rl A d G hst arr xs3 G4 d6 G7), ?_⟩
      refine y_aload_n C dX6_miss_51 0 rfl rfl ?_
      refine y_get (Cn := RX6) (T := TX6) (N := 6) (v := .ref (A 0)) C dX6_miss_52 hX6_miss_X6 0 (sh_155 g x (A 0) rt rs rp hst rl A d6 G7 hst arr xs3 G4) rfl 0 (Nat.le_of_ble_eq_true rfl) kX6_miss_1 rfl ?_
      refine y_get (Cn := RX0) (T := TX0) (N := 15) (v := .ref (A 23)) C dX6_miss_55 hX6_miss_X0 1 (sh_156 g x (A 0) rt rs rp hst rl A d6 G7 hst arr xs3 G4) rfl 11 (Nat.le_of_ble_eq_true rfl) kX6_miss_4 rfl ?_
      refine y_callV (As := []) (rest := []) C dX6_miss_58 (c_X3_length g (A 23) (A 24) 34 (d6.1 11) (G7 11) (by decide)) rfl rfl rfl rfl ⟨Nat.le_of_ble_eq_true rfl, Nat.le_of_ble_eq_true rfl⟩ gX6_miss_X3_length (nA := 0) (by decide +kernel) rfl (rowW_recv ⟨_, rfl⟩) (Nat.le_of_ble_eq_true rfl) ⟨Nat.le_of_ble_eq_true rfl, Nat.le_of_ble_eq_true rfl⟩ [13] [0, 1, 2, 3, 4, 5, 6, 7, 8, 9, 10, 11, 12, 14] (nB := 15) rfl (by decide +kernel) (sh_157 g x (A 0) rt rs rp hst rl A d6 G7 hst arr xs3 G4) (fun r9 w9 hw => ?_)
      obtain ⟨er9, rfl⟩ := hw
      have h := y_letF h er9
      refine ⟨([mnC x (A 0) rt rs rp hst rl, dayC A d6] ++ (dayR g A d6 G7 ++ [histW g hst arr xs3 G4]) : List va_W), ⟨(sh_157 g x (A 0) rt rs rp hst rl A d6 G7 hst arr xs3 G4), rfl, rfl⟩, ?_⟩
      exact HR 61 dX6_miss_61 r9 _ _ _ _ (rfl) (Nat.le_of_ble_eq_true rfl) (Nat.le_of_ble_eq_true rfl) ⟨by rw [h], d6, xs3, G7, G4, by rw [h], by rw [h], rfl⟩
    · refine y_bipush (v := -5) C dX6_miss_28 (by decide) ?_
      exact HR 30 dX6_miss_30 (-5 : Int32) _ _ _ _ (rfl) (Nat.le_of_ble_eq_true rfl) (Nat.le_of_ble_eq_true rfl) ⟨by rw [h], d, xs, G, R, by rw [h], by rw [h], rfl⟩
  · refine y_iconst (v := -1) C dX6_miss_11 (by decide) ?_
    exact HR 12 dX6_miss_12 (-1 : Int32) _ _ _ _ (rfl) (Nat.le_of_ble_eq_true rfl) (Nat.le_of_ble_eq_true rfl) ⟨by rw [h], d, xs, G, R, by rw [h], by rw [h], rfl⟩
