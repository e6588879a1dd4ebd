theorem dX6_set_0 : decode cX6_set 0 = .ok (.iload_n 1, 1) := by decide +kernel
theorem dX6_set_1 : decode cX6_set 1 = .ok (.ifCond .lt 8, 3) := by decide +kernel
theorem dX6_set_4 : decode cX6_set 4 = .ok (.iload_n 1, 1) := by decide +kernel
theorem dX6_set_5 : decode cX6_set 5 = .ok (.iconst 3, 1) := by decide +kernel
theorem dX6_set_6 : decode cX6_set 6 = .ok (.if_icmp .lt 6, 3) := by decide +kernel
theorem dX6_set_9 : decode cX6_set 9 = .ok (.bipush (-2), 2) := by decide +kernel
theorem dX6_set_11 : decode cX6_set 11 = .ok (.ireturn, 1) := by decide +kernel
theorem dX6_set_12 : decode cX6_set 12 = .ok (.iload_n 2, 1) := by decide +kernel
theorem dX6_set_13 : decode cX6_set 13 = .ok (.iload_n 1, 1) := by decide +kernel
theorem dX6_set_14 : decode cX6_set 14 = .ok (.invokestatic 48, 3) := by decide +kernel
theorem dX6_set_17 : decode cX6_set 17 = .ok (.if_icmp .lt 11, 3) := by decide +kernel
theorem dX6_set_20 : decode cX6_set 20 = .ok (.iload_n 2, 1) := by decide +kernel
theorem dX6_set_21 : decode cX6_set 21 = .ok (.iload_n 1, 1) := by decide +kernel
theorem dX6_set_22 : decode cX6_set 22 = .ok (.invokestatic 52, 3) := by decide +kernel
theorem dX6_set_25 : decode cX6_set 25 = .ok (.if_icmp .le 6, 3) := by decide +kernel
theorem dX6_set_28 : decode cX6_set 28 = .ok (.bipush (-2), 2) := by decide +kernel
theorem dX6_set_30 : decode cX6_set 30 = .ok (.ireturn, 1) := by decide +kernel
theorem dX6_set_31 : decode cX6_set 31 = .ok (.aload_n 0, 1) := by decide +kernel
theorem dX6_set_32 : decode cX6_set 32 = .ok (.getfield 12, 3) := by decide +kernel
theorem dX6_set_35 : decode cX6_set 35 = .ok (.getfield 55, 3) := by decide +kernel
theorem dX6_set_38 : decode cX6_set 38 = .ok (.invokevirtual 59, 3) := by decide +kernel
theorem dX6_set_41 : decode cX6_set 41 = .ok (.ifCond .le 6, 3) := by decide +kernel
theorem dX6_set_44 : decode cX6_set 44 = .ok (.bipush (-5), 2) := by decide +kernel
theorem dX6_set_46 : decode cX6_set 46 = .ok (.ireturn, 1) := by decide +kernel
theorem dX6_set_47 : decode cX6_set 47 = .ok (.aload_n 0, 1) := by decide +kernel
theorem dX6_set_48 : decode cX6_set 48 = .ok (.getfield 40, 3) := by decide +kernel
theorem dX6_set_51 : decode cX6_set 51 = .ok (.aload_n 0, 1) := by decide +kernel
theorem dX6_set_52 : decode cX6_set 52 = .ok (.getfield 12, 3) := by decide +kernel
theorem dX6_set_55 : decode cX6_set 55 = .ok (.invokevirtual 65, 3) := by decide +kernel
theorem dX6_set_58 : decode cX6_set 58 = .ok (.aload_n 0, 1) := by decide +kernel
theorem dX6_set_59 : decode cX6_set 59 = .ok (.getfield 12, 3) := by decide +kernel
theorem dX6_set_62 : decode cX6_set 62 = .ok (.getfield 69, 3) := by decide +kernel
theorem dX6_set_65 : decode cX6_set 65 = .ok (.iload_n 1, 1) := by decide +kernel
theorem dX6_set_66 : decode cX6_set 66 = .ok (.invokevirtual 72, 3) := by decide +kernel
theorem dX6_set_69 : decode cX6_set 69 = .ok (.istore_n 3, 1) := by decide +kernel
theorem dX6_set_70 : decode cX6_set 70 = .ok (.aload_n 0, 1) := by decide +kernel
theorem dX6_set_71 : decode cX6_set 71 = .ok (.getfield 12, 3) := by decide +kernel
theorem dX6_set_74 : decode cX6_set 74 = .ok (.getfield 69, 3) := by decide +kernel
theorem dX6_set_77 : decode cX6_set 77 = .ok (.iload_n 1, 1) := by decide +kernel
theorem dX6_set_78 : decode cX6_set 78 = .ok (.iload_n 2, 1) := by decide +kernel
theorem dX6_set_79 : decode cX6_set 79 = .ok (.invokevirtual 75, 3) := by decide +kernel
theorem dX6_set_82 : decode cX6_set 82 = .ok (.iload_n 3, 1) := by decide +kernel
theorem dX6_set_83 : decode cX6_set 83 = .ok (.ireturn, 1) := by decide +kernel
set_option maxRecDepth 20000 in
theorem ggX6_set_X6_leastOf : GoodIn wsX6_set wsX6_leastOf := goodIn_r _ [8] (by decide +kernel) (by decide +kernel)
set_option maxRecDepth 20000 in
theorem gX6_set_X6_leastOf : GoodIn wsX6_set (va_wsS RX6 48 yX6_leastOf wsX6_leastOf) := goodIn_app (goodIn_of _ (by decide +kernel)) ggX6_set_X6_leastOf
set_option maxRecDepth 20000 in
theorem ggX6_set_X6_mostOf : GoodIn wsX6_set wsX6_mostOf := goodIn_r _ [11] (by decide +kernel) (by decide +kernel)
set_option maxRecDepth 20000 in
theorem gX6_set_X6_mostOf : GoodIn wsX6_set (va_wsS RX6 52 yX6_mostOf wsX6_mostOf) := goodIn_app (goodIn_of _ (by decide +kernel)) ggX6_set_X6_mostOf
set_option maxRecDepth 20000 in
theorem ggX6_set_X3_length : GoodIn wsX6_set wsX3_length := goodIn_r _ [16, 17, 113, 114] (by decide +kernel) (by decide +kernel)
set_option maxRecDepth 20000 in
theorem gX6_set_X3_length : GoodIn wsX6_set (wsV RX6 59 RX3 yX3_length wsX3_length) := goodIn_app (goodIn_of _ (by decide +kernel)) ggX6_set_X3_length
set_option maxRecDepth 20000 in
theorem ggX6_set_X1_add : GoodIn wsX6_set wsX1_add := goodIn_r _ [22, 23, 24, 25, 26, 27, 28, 29, 30, 21, 31, 32, 33, 34, 35, 36, 37, 38, 39, 15, 40, 41, 42, 43, 44, 45, 46, 47, 48, 49, 50, 51, 52, 53, 54, 55, 56, 57, 58, 59, 60, 61, 62, 63, 64, 65, 17, 66, 67, 68, 69, 70, 71, 72, 73, 74, 75, 76, 77, 78, 79, 80, 81, 82, 83, 115, 116, 98, 99, 100, 101, 102, 103, 104, 105, 106, 107, 108, 109, 110, 111, 112, 113, 114] (by decide +kernel) (by decide +kernel)
set_option maxRecDepth 20000 in
theorem gX6_set_X1_add : GoodIn wsX6_set (wsV RX6 65 RX1 yX1_add wsX1_add) := goodIn_app (goodIn_of _ (by decide +kernel)) ggX6_set_X1_add
set_option maxRecDepth 20000 in
theorem ggX6_set_X3_at : GoodIn wsX6_set wsX3_at := goodIn_r _ [87, 17, 61, 113, 114] (by decide +kernel) (by decide +kernel)
set_option maxRecDepth 20000 in
theorem gX6_set_X3_at : GoodIn wsX6_set (wsV RX6 72 RX3 yX3_at wsX3_at) := goodIn_app (goodIn_of _ (by decide +kernel)) ggX6_set_X3_at
set_option maxRecDepth 20000 in
theorem ggX6_set_X3_change : GoodIn wsX6_set wsX3_change := goodIn_r _ [91, 17, 61, 113, 114] (by decide +kernel) (by decide +kernel)
set_option maxRecDepth 20000 in
theorem gX6_set_X3_change : GoodIn wsX6_set (wsV RX6 75 RX3 yX3_change wsX3_change) := goodIn_app (goodIn_of _ (by decide +kernel)) ggX6_set_X3_change
theorem kX6_set_1 : Cond.fieldLink RX6 12 "BookedDetours" "day" "LBookedDetours$Day;" ∈ wsX6_set := List.mem_of_getElem? (i := 1) (by decide +kernel)
theorem kX6_set_2 : Cond.fieldLink RX6 55 "BookedDetours$Day" "route" "LBookedDetours$Row;" ∈ wsX6_set := List.mem_of_getElem? (i := 2) (by decide +kernel)
theorem kX6_set_3 : Cond.fieldLink RX6 40 "BookedDetours" "history" "LBookedDetours$History;" ∈ wsX6_set := List.mem_of_getElem? (i := 3) (by decide +kernel)
theorem kX6_set_4 : Cond.fieldLink RX6 69 "BookedDetours$Day" "settings" "LBookedDetours$Row;" ∈ wsX6_set := List.mem_of_getElem? (i := 4) (by decide +kernel)
theorem hX6_set_X6 : ∀ w ∈ u_ws RX6 TX6 6, w ∈ wsX6_set := fun _ h => List.mem_cons_of_mem _ (List.mem_append_left _ (List.mem_append_left _ (List.mem_append_left _ (List.mem_append_right _ h))))
theorem hX6_set_X0 : ∀ w ∈ u_ws RX0 TX0 15, w ∈ wsX6_set := fun _ h => List.mem_cons_of_mem _ (List.mem_append_left _ (List.mem_append_left _ (List.mem_append_right _ h)))
set_option maxHeartbeats 4000000 in
set_option maxRecDepth 100000 in
theorem c_X6_set (g : yG) (x rt rs rp rl : Nat) (A : Nat → Nat) (d : RV) (G : Nat → Nat → Int32) (hst arr : Nat) (xs : List RV) (R : List ((Nat → Nat) × RV × (Nat → Nat → Int32))) (se : Int32) (va : Int32) : yM g yX6_set wsX6_set ({ frames := 4, cells := 25, slots := 236, locals := 142 } : Room) [.ref x, .int se, .int va] ([mnC x (A 0) rt rs rp hst rl, dayC A d] ++ (dayR g A d G ++ [histW g hst arr xs R]) : List va_W) (fun r w => r = (f_X6_set d xs se va).1 ∧ ∃ d' : RV, ∃ xs' : List RV, ∃ G' : Nat → Nat → Int32, ∃ R' : List ((Nat → Nat) × RV × (Nat → Nat → Int32)), d' = (f_X6_set d xs se va).2.1 ∧ xs' = (f_X6_set d xs se va).2.2 ∧ w = ([mnC x (A 0) rt rs rp hst rl, dayC A d'] ++ (dayR g A d' G' ++ [histW g hst arr xs' R']) : List va_W)) 25 236 := by
  refine y_entryI (cc := cX6_set) (maxL := 4) (by decide +kernel) rfl (Nat.le_of_ble_eq_true rfl) (fun Z C HR => ?_)
  have C : yC Z g cX6_set 4 wsX6_set RX6 := C
  have h := f_X6_set.eq_1 d xs se va
  show yJ Z _ 0 0 _ 0 [(0, .ref x), (1, .int se), (2, .int va)] []
  refine y_iload_n C dX6_set_0 1 rfl rfl ?_
  refine y_if_lt (tgt := 9) C dX6_set_1 rfl (y_e h) (fun c1 h => ?_) (fun c1 h => ?_)
  · refine y_bipush (v := -2) C dX6_set_9 (by decide) ?_
    exact HR 11 dX6_set_11 (-2 : Int32) _ _ _ _ (rfl) (Nat.le_of_ble_eq_true rfl) (Nat.le_of_ble_eq_true rfl) ⟨by rw [h], d, xs, G, R, by rw [h], by rw [h], rfl⟩
  · refine y_iload_n C dX6_set_4 1 rfl rfl ?_
    refine y_iconst (v := 3) C dX6_set_5 (by decide) ?_
    refine y_icmp_lt (tgt := 12) C dX6_set_6 rfl (y_e h) (fun c6 h => ?_) (fun c6 h => ?_)
    · refine y_iload_n C dX6_set_12 2 rfl rfl ?_
      refine y_iload_n C dX6_set_13 1 rfl rfl ?_
      refine y_callS (As := [.int se]) (rest := [.int va]) C dX6_set_14 (c_X6_leastOf g se) rfl rfl rfl rfl ⟨Nat.le_of_ble_eq_true rfl, Nat.le_of_ble_eq_true rfl⟩ gX6_set_X6_leastOf (nA := 1) (by decide +kernel) rfl (Nat.le_of_ble_eq_true rfl) ⟨Nat.le_of_ble_eq_true rfl, Nat.le_of_ble_eq_true rfl⟩ [] [0, 1, 2, 3, 4, 5, 6, 7, 8, 9, 10, 11, 12, 13, 14] (nB := 15) rfl (by decide +kernel) (sh_154 g x (A 0) rt rs rp hst rl A d G hst arr xs R) (fun r1 w9 hw => ?_)
      obtain ⟨er1, rfl⟩ := hw
      have h := y_letF h er1
      refine ⟨([mnC x (A 0) rt rs rp hst rl, dayC A d] ++ (dayR g A d G ++ [histW g hst arr xs R]) : List va_W), ⟨(sh_154 g x (A 0) rt rs rp hst rl A d G hst arr xs R), rfl, rfl⟩, ?_⟩
      refine y_icmp_lt (tgt := 28) C dX6_set_17 rfl (y_e h) (fun c17 h => ?_) (fun c17 h => ?_)
      · refine y_bipush (v := -2) C dX6_set_28 (by decide) ?_
        exact HR 30 dX6_set_30 (-2 : Int32) _ _ _ _ (rfl) (Nat.le_of_ble_eq_true rfl) (Nat.le_of_ble_eq_true rfl) ⟨by rw [h], d, xs, G, R, by rw [h], by rw [h], rfl⟩
      · refine y_iload_n C dX6_set_20 2 rfl rfl ?_
        refine y_iload_n C dX6_set_21 1 rfl rfl ?_
        refine y_callS (As := [.int se]) (rest := [.int va]) C dX6_set_22 (c_X6_mostOf g se) rfl rfl rfl rfl ⟨Nat.le_of_ble_eq_true rfl, Nat.le_of_ble_eq_true rfl⟩ gX6_set_X6_mostOf (nA := 1) (by decide +kernel) rfl (Nat.le_of_ble_eq_true rfl) ⟨Nat.le_of_ble_eq_true rfl, Nat.le_of_ble_eq_true rfl⟩ [] [0, 1, 2, 3, 4, 5, 6, 7, 8, 9, 10, 11, 12, 13, 14] (nB := 15) rfl (by decide +kernel) (sh_154 g x (A 0) rt rs rp hst rl A d G hst arr xs R) (fun r2 w9 hw => ?_)
        obtain ⟨er2, rfl⟩ := hw
        have h := y_letF h er2
        refine ⟨([mnC x (A 0) rt rs rp hst rl, dayC A d] ++ (dayR g A d G ++ [histW g hst arr xs R]) : List va_W), ⟨(sh_154 g x (A 0) rt rs rp hst rl A d G hst arr xs R), rfl, rfl⟩, ?_⟩
        refine y_icmp_le (tgt := 31) C dX6_set_25 rfl (y_e h) (fun c25 h => ?_) (fun c25 h => ?_)
        · refine y_aload_n C dX6_set_31 0 rfl rfl ?_
          refine y_get (Cn := RX6) (T := TX6) (N := 6) (v := .ref (A 0)) C dX6_set_32 hX6_set_X6 0 (sh_155 g x (A 0) rt rs rp hst rl A d G hst arr xs R) rfl 0 (Nat.le_of_ble_eq_true rfl) kX6_set_1 rfl ?_
          refine y_get (Cn := RX0) (T := TX0) (N := 15) (v := .ref (A 23)) C dX6_set_35 hX6_set_X0 1 (sh_156 g x (A 0) rt rs rp hst rl A d G hst arr xs R) rfl 11 (Nat.le_of_ble_eq_true rfl) kX6_set_2 rfl ?_
          refine y_callV (As := []) (rest := []) C dX6_set_38 (c_X3_length g (A 23) (A 24) 34 (d.1 11) (G 11) (by decide)) rfl rfl rfl rfl ⟨Nat.le_of_ble_eq_true rfl, Nat.le_of_ble_eq_true rfl⟩ gX6_set_X3_length (nA := 0) (by decide +kernel) rfl (rowW_recv ⟨_, rfl⟩) (Nat.le_of_ble_eq_true rfl) ⟨Nat.le_of_ble_eq_true rfl, Nat.le_of_ble_eq_true rfl⟩ [13] [0, 1, 2, 3, 4, 5, 6, 7, 8, 9, 10, 11, 12, 14] (nB := 15) rfl (by decide +kernel) (sh_157 g x (A 0) rt rs rp hst rl A d G hst arr xs R) (fun r3 w9 hw => ?_)
          obtain ⟨er3, rfl⟩ := hw
          have h := y_letF h er3
          refine ⟨([mnC x (A 0) rt rs rp hst rl, dayC A d] ++ (dayR g A d G ++ [histW g hst arr xs R]) : List va_W), ⟨(sh_157 g x (A 0) rt rs rp hst rl A d G hst arr xs R), rfl, rfl⟩, ?_⟩
          refine y_if_le (tgt := 47) C dX6_set_41 rfl (y_e h) (fun c41 h => ?_) (fun c41 h => ?_)
          · refine y_aload_n C dX6_set_47 0 rfl rfl ?_
            refine y_get (Cn := RX6) (T := TX6) (N := 6) (v := .ref hst) C dX6_set_48 hX6_set_X6 0 (sh_155 g x (A 0) rt rs rp hst rl A d G hst arr xs R) rfl 4 (Nat.le_of_ble_eq_true rfl) kX6_set_3 rfl ?_
            refine y_aload_n C dX6_set_51 0 rfl rfl ?_
            refine y_get (Cn := RX6) (T := TX6) (N := 6) (v := .ref (A 0)) C dX6_set_52 hX6_set_X6 0 (sh_155 g x (A 0) rt rs rp hst rl A d G hst arr xs R) rfl 0 (Nat.le_of_ble_eq_true rfl) kX6_set_1 rfl ?_
            refine y_callVv (As := [.ref (A 0)]) (rest := []) C dX6_set_55 (c_X1_add g hst arr xs R A d G) rfl rfl rfl rfl ⟨Nat.le_of_ble_eq_true rfl, Nat.le_of_ble_eq_true rfl⟩ gX6_set_X1_add (nA := 1) (by decide +kernel) rfl (hist_recv (List.mem_append_right _ (List.mem_append_left _ (List.mem_singleton.mpr rfl)))) (Nat.le_of_ble_eq_true rfl) ⟨Nat.le_of_ble_eq_true rfl, Nat.le_of_ble_eq_true rfl⟩ [1, 14, 2, 3, 4, 5, 6, 7, 8, 9, 10, 11, 12, 13] [0] (nB := 15) rfl (by decide +kernel) (sh_158 g x (A 0) rt rs rp hst rl A d G hst arr xs R) (fun w9 hw => ?_)
            obtain ⟨xs4, G5, e6, rfl⟩ := hw
            have h := y_letF h e6
            refine ⟨([mnC x (A 0) rt rs rp hst rl, dayC A d] ++ (dayR g A d G ++ [histW g hst arr xs4 G5]) : List va_W), (sh_159 g x (A 0) rt rs rp hst rl A d G hst arr xs R xs4 G5), ?_⟩
            refine y_aload_n C dX6_set_58 0 rfl rfl ?_
            refine y_get (Cn := RX6) (T := TX6) (N := 6) (v := .ref (A 0)) C dX6_set_59 hX6_set_X6 0 (sh_155 g x (A 0) rt rs rp hst rl A d G hst arr xs4 G5) rfl 0 (Nat.le_of_ble_eq_true rfl) kX6_set_1 rfl ?_
            refine y_get (Cn := RX0) (T := TX0) (N := 15) (v := .ref (A 1)) C dX6_set_62 hX6_set_X0 1 (sh_156 g x (A 0) rt rs rp hst rl A d G hst arr xs4 G5) rfl 0 (Nat.le_of_ble_eq_true rfl) kX6_set_4 rfl ?_
            refine y_iload_n C dX6_set_65 1 rfl rfl ?_
            refine y_callV (As := [.int se]) (rest := []) C dX6_set_66 (c_X3_at g (A 1) (A 2) 3 (d.1 0) (G 0) se (by decide)) rfl rfl rfl rfl ⟨Nat.le_of_ble_eq_true rfl, Nat.le_of_ble_eq_true rfl⟩ gX6_set_X3_at (nA := 1) (by decide +kernel) rfl (rowW_recv ⟨_, rfl⟩) (Nat.le_of_ble_eq_true rfl) ⟨Nat.le_of_ble_eq_true rfl, Nat.le_of_ble_eq_true rfl⟩ [2] [0, 1, 3, 4, 5, 6, 7, 8, 9, 10, 11, 12, 13, 14] (nB := 15) rfl (by decide +kernel) (sh_160 g x (A 0) rt rs rp hst rl A d G hst arr xs4 G5) (fun r7 w9 hw => ?_)
            obtain ⟨er7, rfl⟩ := hw
            have h := y_letF h er7
            refine ⟨([mnC x (A 0) rt rs rp hst rl, dayC A d] ++ (dayR g A d G ++ [histW g hst arr xs4 G5]) : List va_W), ⟨(sh_160 g x (A 0) rt rs rp hst rl A d G hst arr xs4 G5), rfl, rfl⟩, ?_⟩
            refine y_istore_n (lv' := [(3, .int r7), (0, .ref x), (1, .int se), (2, .int va)]) C dX6_set_69 rfl (Nat.le_of_ble_eq_true rfl) rfl ?_
            refine y_aload_n C dX6_set_70 1 rfl rfl ?_
            refine y_get (Cn := RX6) (T := TX6) (N := 6) (v := .ref (A 0)) C dX6_set_71 hX6_set_X6 0 (sh_155 g x (A 0) rt rs rp hst rl A d G hst arr xs4 G5) rfl 0 (Nat.le_of_ble_eq_true rfl) kX6_set_1 rfl ?_
            refine y_get (Cn := RX0) (T := TX0) (N := 15) (v := .ref (A 1)) C dX6_set_74 hX6_set_X0 1 (sh_156 g x (A 0) rt rs rp hst rl A d G hst arr xs4 G5) rfl 0 (Nat.le_of_ble_eq_true rfl) kX6_set_4 rfl ?_
            refine y_iload_n C dX6_set_77 2 rfl rfl ?_
            refine y_iload_n C dX6_set_78 3 rfl rfl ?_
            refine y_callVv (As := [.int se, .int va]) (rest := []) C dX6_set_79 (c_X3_change g (A 1) (A 2) 3 (d.1 0) (G 0) se va (by decide)) rfl rfl rfl rfl ⟨Nat.le_of_ble_eq_true rfl, Nat.le_of_ble_eq_true rfl⟩ gX6_set_X3_change (nA := 2) (by decide +kernel) rfl (rowW_recv ⟨_, rfl⟩) (Nat.le_of_ble_eq_true rfl) ⟨Nat.le_of_ble_eq_true rfl, Nat.le_of_ble_eq_true rfl⟩ [2] [0, 1, 3, 4, 5, 6, 7, 8, 9, 10, 11, 12, 13, 14] (nB := 15) rfl (by decide +kernel) (sh_160 g x (A 0) rt rs rp hst rl A d G hst arr xs4 G5) (fun w9 hw => ?_)
            obtain ⟨y8, G9, e10, rfl⟩ := hw
            obtain ⟨d11, ed11⟩ : ∃ z : RV, z = rvR d 0 y8 := ⟨_, rfl⟩
            obtain ⟨G12, eG12⟩ : ∃ z : Nat → Nat → Int32, z = gs G 0 G9 := ⟨_, rfl⟩
            have h := y_letF h (show d11 = rvR d 0 (rSet (d.1 0) se va) by rw [ed11, e10])
            refine ⟨([mnC x (A 0) rt rs rp hst rl, dayC A d11] ++ (dayR g A d11 G12 ++ [histW g hst arr xs4 G5]) : List va_W), (sh_161 g x (A 0) rt rs rp hst rl A d G hst arr xs4 G5 y8 G9 d11 G12 ed11 eG12), ?_⟩
            refine y_iload_n C dX6_set_82 0 rfl rfl ?_
            exact HR 83 dX6_set_83 r7 _ _ _ _ (rfl) (Nat.le_of_ble_eq_true rfl) (Nat.le_of_ble_eq_true rfl) ⟨by rw [h], d11, xs4, G12, G5, by rw [h], by rw [h], rfl⟩
          · refine y_bipush (v := -5) C dX6_set_44 (by decide) ?_
            exact HR 46 dX6_set_46 (-5 : Int32) _ _ _ _ (rfl) (Nat.le_of_ble_eq_true rfl) (Nat.le_of_ble_eq_true rfl) ⟨by rw [h], d, xs, G, R, by rw [h], by rw [h], rfl⟩
        · refine y_bipush (v := -2) C dX6_set_28 (by decide) ?_
          exact HR 30 dX6_set_30 (-2 : Int32) _ _ _ _ (rfl) (Nat.le_of_ble_eq_true rfl) (Nat.le_of_ble_eq_true rfl) ⟨by rw [h], d, xs, G, R, by rw [h], by rw [h], rfl⟩
    · refine y_bipush (v := -2) C dX6_set_9 (by decide) ?_
      exact HR 11 dX6_set_11 (-2 : Int32) _ _ _ _ (rfl) (Nat.le_of_ble_eq_true rfl) (Nat.le_of_ble_eq_true rfl) ⟨by rw [h], d, xs, G, R, by rw [h], by rw [h], rfl⟩
