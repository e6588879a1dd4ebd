theorem dX6_spare_0 : decode cX6_spare 0 = .ok (.aload_n 0, 1) := by decide +kernel
theorem dX6_spare_1 : decode cX6_spare 1 = .ok (.getfield 12, 3) := by decide +kernel
theorem dX6_spare_4 : decode cX6_spare 4 = .ok (.iload_n 1, 1) := by decide +kernel
theorem dX6_spare_5 : decode cX6_spare 5 = .ok (.invokevirtual 96, 3) := by decide +kernel
theorem dX6_spare_8 : decode cX6_spare 8 = .ok (.ifCond .ne 5, 3) := by decide +kernel
theorem dX6_spare_11 : decode cX6_spare 11 = .ok (.iconst (-1), 1) := by decide +kernel
theorem dX6_spare_12 : decode cX6_spare 12 = .ok (.ireturn, 1) := by decide +kernel
theorem dX6_spare_13 : decode cX6_spare 13 = .ok (.aload_n 0, 1) := by decide +kernel
theorem dX6_spare_14 : decode cX6_spare 14 = .ok (.getfield 12, 3) := by decide +kernel
theorem dX6_spare_17 : decode cX6_spare 17 = .ok (.getfield 100, 3) := by decide +kernel
theorem dX6_spare_20 : decode cX6_spare 20 = .ok (.iload_n 1, 1) := by decide +kernel
theorem dX6_spare_21 : decode cX6_spare 21 = .ok (.invokevirtual 72, 3) := by decide +kernel
theorem dX6_spare_24 : decode cX6_spare 24 = .ok (.istore_n 2, 1) := by decide +kernel
theorem dX6_spare_25 : decode cX6_spare 25 = .ok (.iload_n 2, 1) := by decide +kernel
theorem dX6_spare_26 : decode cX6_spare 26 = .ok (.ifCond .eq 11, 3) := by decide +kernel
theorem dX6_spare_29 : decode cX6_spare 29 = .ok (.iload_n 2, 1) := by decide +kernel
theorem dX6_spare_30 : decode cX6_spare 30 = .ok (.iconst 1, 1) := by decide +kernel
theorem dX6_spare_31 : decode cX6_spare 31 = .ok (.if_icmp .eq 6, 3) := by decide +kernel
theorem dX6_spare_34 : decode cX6_spare 34 = .ok (.bipush (-5), 2) := by decide +kernel
theorem dX6_spare_36 : decode cX6_spare 36 = .ok (.ireturn, 1) := by decide +kernel
theorem dX6_spare_37 : decode cX6_spare 37 = .ok (.aload_n 0, 1) := by decide +kernel
theorem dX6_spare_38 : decode cX6_spare 38 = .ok (.getfield 19, 3) := by decide +kernel
theorem dX6_spare_41 : decode cX6_spare 41 = .ok (.aload_n 0, 1) := by decide +kernel
theorem dX6_spare_42 : decode cX6_spare 42 = .ok (.getfield 12, 3) := by decide +kernel
theorem dX6_spare_45 : decode cX6_spare 45 = .ok (.invokevirtual 110, 3) := by decide +kernel
theorem dX6_spare_48 : decode cX6_spare 48 = .ok (.aload_n 0, 1) := by decide +kernel
theorem dX6_spare_49 : decode cX6_spare 49 = .ok (.getfield 12, 3) := by decide +kernel
theorem dX6_spare_52 : decode cX6_spare 52 = .ok (.getfield 138, 3) := by decide +kernel
theorem dX6_spare_55 : decode cX6_spare 55 = .ok (.iload_n 1, 1) := by decide +kernel
theorem dX6_spare_56 : decode cX6_spare 56 = .ok (.invokevirtual 72, 3) := by decide +kernel
theorem dX6_spare_59 : decode cX6_spare 59 = .ok (.aload_n 0, 1) := by decide +kernel
theorem dX6_spare_60 : decode cX6_spare 60 = .ok (.getfield 19, 3) := by decide +kernel
theorem dX6_spare_63 : decode cX6_spare 63 = .ok (.getfield 144, 3) := by decide +kernel
theorem dX6_spare_66 : decode cX6_spare 66 = .ok (.iload_n 1, 1) := by decide +kernel
theorem dX6_spare_67 : decode cX6_spare 67 = .ok (.invokevirtual 72, 3) := by decide +kernel
theorem dX6_spare_70 : decode cX6_spare 70 = .ok (.isub, 1) := by decide +kernel
theorem dX6_spare_71 : decode cX6_spare 71 = .ok (.ireturn, 1) := by decide +kernel
set_option maxRecDepth 20000 in
theorem ggX6_spare_X0_hasRide : GoodIn wsX6_spare wsX0_hasRide := goodIn_r _ [10, 11, 12, 13, 14, 15, 16, 17, 119, 120, 121, 122, 123, 124, 125, 126, 127, 128, 129, 130, 131, 132, 133, 144, 145] (by decide +kernel) (by decide +kernel)
set_option maxRecDepth 20000 in
theorem gX6_spare_X0_hasRide : GoodIn wsX6_spare (wsV RX6 96 RX0 yX0_hasRide wsX0_hasRide) := goodIn_app (goodIn_of _ (by decide +kernel)) ggX6_spare_X0_hasRide
set_option maxRecDepth 20000 in
theorem ggX6_spare_X3_at : GoodIn wsX6_spare wsX3_at := goodIn_r _ [21, 17, 22, 144, 145] (by decide +kernel) (by decide +kernel)
set_option maxRecDepth 20000 in
theorem gX6_spare_X3_at : GoodIn wsX6_spare (wsV RX6 72 RX3 yX3_at wsX3_at) := goodIn_app (goodIn_of _ (by decide +kernel)) ggX6_spare_X3_at
set_option maxRecDepth 20000 in
theorem ggX6_spare_X5_follow : GoodIn wsX6_spare wsX5_follow := goodIn_r _ [27, 28, 29, 30, 31, 26, 32, 33, 34, 35, 36, 37, 38, 39, 40, 41, 42, 43, 44, 45, 46, 47, 48, 49, 15, 50, 17, 51, 52, 53, 54, 22, 55, 56, 57, 58, 59, 60, 61, 9, 62, 11, 12, 13, 14, 16, 63, 19, 20, 21, 64, 65, 66, 67, 68, 69, 70, 71, 72, 73, 74, 75, 76, 77, 78, 79, 80, 81, 82, 83, 84, 85, 86, 87, 88, 89, 90, 91, 92, 93, 94, 95, 96, 97, 98, 99, 100, 101, 102, 103, 104, 105, 106, 107, 108, 109, 110, 111, 112, 119, 120, 121, 122, 123, 124, 125, 126, 127, 128, 129, 130, 131, 132, 133, 134, 135, 136, 137, 138, 139, 140, 141, 142, 143, 144, 145] (by decide +kernel) (by decide +kernel)
set_option maxRecDepth 20000 in
theorem gX6_spare_X5_follow : GoodIn wsX6_spare (wsV RX6 110 RX5 yX5_follow wsX5_follow) := goodIn_app (goodIn_of _ (by decide +kernel)) ggX6_spare_X5_follow
theorem kX6_spare_1 : Cond.fieldLink RX6 12 "BookedDetours" "day" "LBookedDetours$Day;" ∈ wsX6_spare := List.mem_of_getElem? (i := 1) (by decide +kernel)
theorem kX6_spare_2 : Cond.fieldLink RX6 100 "BookedDetours$Day" "stands" "LBookedDetours$Row;" ∈ wsX6_spare := List.mem_of_getElem? (i := 2) (by decide +kernel)
theorem kX6_spare_3 : Cond.fieldLink RX6 19 "BookedDetours" "table" "LBookedDetours$Timetable;" ∈ wsX6_spare := List.mem_of_getElem? (i := 3) (by decide +kernel)
theorem kX6_spare_4 : Cond.fieldLink RX6 138 "BookedDetours$Day" "bys" "LBookedDetours$Row;" ∈ wsX6_spare := List.mem_of_getElem? (i := 4) (by decide +kernel)
theorem kX6_spare_5 : Cond.fieldLink RX6 144 "BookedDetours$Timetable" "downs" "LBookedDetours$Row;" ∈ wsX6_spare := List.mem_of_getElem? (i := 5) (by decide +kernel)
theorem hX6_spare_X6 : ∀ w ∈ u_ws RX6 TX6 6, w ∈ wsX6_spare := fun _ h => List.mem_cons_of_mem _ (List.mem_append_left _ (List.mem_append_left _ (List.mem_append_left _ (List.mem_append_right _ h))))
theorem hX6_spare_X0 : ∀ w ∈ u_ws RX0 TX0 15, w ∈ wsX6_spare := fun _ h => List.mem_cons_of_mem _ (List.mem_append_left _ (List.mem_append_left _ (List.mem_append_right _ h)))
theorem hX6_spare_X5 : ∀ w ∈ u_ws RX5 TX5 10, w ∈ wsX6_spare := fun _ h => List.mem_cons_of_mem _ (List.mem_append_left _ (List.mem_append_right _ h))
set_option maxHeartbeats 4000000 in
set_option maxRecDepth 100000 in
theorem c_X6_spare (g : yG) (x rs rp rh rl : Nat) (A : Nat → Nat) (d : RV) (G : Nat → Nat → Int32) (T : Nat → Nat) (t : RV) (GT : Nat → Nat → Int32) (ri : Int32) : yM g yX6_spare wsX6_spare ({ frames := 4, cells := 0, slots := 0, locals := 94 } : Room) [.ref x, .int ri] ([mnC x (A 0) (T 0) rs rp rh rl, dayC A d, tabC T t] ++ (dayR g A d G ++ tabR g T t GT) : List va_W) (fun r w => r = (f_X6_spare d t ri).1 ∧ ∃ t' : RV, ∃ GT' : Nat → Nat → Int32, t' = (f_X6_spare d t ri).2 ∧ w = ([mnC x (A 0) (T 0) rs rp rh rl, dayC A d, tabC T t'] ++ (dayR g A d G ++ tabR g T t' GT') : List va_W)) 0 0 := by
  refine y_entryI (cc := cX6_spare) (maxL := 3) (by decide +kernel) rfl (Nat.le_of_ble_eq_true rfl) (fun Z C HR => ?_)
  have C : yC Z g cX6_spare 3 wsX6_spare RX6 := C
  have h := f_X6_spare.eq_1 d t ri
  show yJ Z _ 0 0 _ 0 [(0, .ref x), (1, .int ri)] []
  refine y_aload_n C dX6_spare_0 0 rfl rfl ?_
  refine y_get (Cn := RX6) (T := TX6) (N := 6) (v := .ref (A 0)) C dX6_spare_1 hX6_spare_X6 0 (sh_188 g x (A 0) (T 0) rs rp rh rl A d G T t GT) rfl 0 (Nat.le_of_ble_eq_true rfl) kX6_spare_1 rfl ?_
  refine y_iload_n C dX6_spare_4 1 rfl rfl ?_
  refine y_callV (As := [.int ri]) (rest := []) C dX6_spare_5 (c_X0_hasRide g A d G ri) rfl rfl rfl rfl ⟨Nat.le_of_ble_eq_true rfl, Nat.le_of_ble_eq_true rfl⟩ gX6_spare_X0_hasRide (nA := 1) (by decide +kernel) rfl (sh_18 g A d G) (Nat.le_of_ble_eq_true rfl) ⟨Nat.le_of_ble_eq_true rfl, Nat.le_of_ble_eq_true rfl⟩ [1, 3, 4, 5, 6, 7, 8, 9, 10, 11, 12, 13, 14] [0, 2, 15, 16, 17, 18, 19] (nB := 20) rfl (by decide +kernel) (sh_189 g x (A 0) (T 0) rs rp rh rl A d G T t GT) (fun r1 w9 hw => ?_)
  obtain ⟨er1, rfl⟩ := hw
  have h := y_letF h er1
  refine ⟨([mnC x (A 0) (T 0) rs rp rh rl, dayC A d, tabC T t] ++ (dayR g A d G ++ tabR g T t GT) : List va_W), ⟨(sh_189 g x (A 0) (T 0) rs rp rh rl A d G T t GT), rfl, rfl⟩, ?_⟩
  refine y_if_ne (tgt := 13) C dX6_spare_8 rfl (y_e h) (fun c8 h => ?_) (fun c8 h => ?_)
  · refine y_aload_n C dX6_spare_13 0 rfl rfl ?_
    refine y_get (Cn := RX6) (T := TX6) (N := 6) (v := .ref (A 0)) C dX6_spare_14 hX6_spare_X6 0 (sh_188 g x (A 0) (T 0) rs rp rh rl A d G T t GT) rfl 0 (Nat.le_of_ble_eq_true rfl) kX6_spare_1 rfl ?_
    refine y_get (Cn := RX0) (T := TX0) (N := 15) (v := .ref (A 17)) C dX6_spare_17 hX6_spare_X0 1 (sh_190 g x (A 0) (T 0) rs rp rh rl A d G T t GT) rfl 8 (Nat.le_of_ble_eq_true rfl) kX6_spare_2 rfl ?_
    refine y_iload_n C dX6_spare_20 1 rfl rfl ?_
    refine y_callV (As := [.int ri]) (rest := []) C dX6_spare_21 (c_X3_at g (A 17) (A 18) 17 (d.1 8) (G 8) ri (by decide)) rfl rfl rfl rfl ⟨Nat.le_of_ble_eq_true rfl, Nat.le_of_ble_eq_true rfl⟩ gX6_spare_X3_at (nA := 1) (by decide +kernel) rfl (rowW_recv ⟨_, rfl⟩) (Nat.le_of_ble_eq_true rfl) ⟨Nat.le_of_ble_eq_true rfl, Nat.le_of_ble_eq_true rfl⟩ [11] [0, 1, 2, 3, 4, 5, 6, 7, 8, 9, 10, 12, 13, 14, 15, 16, 17, 18, 19] (nB := 20) rfl (by decide +kernel) (sh_195 g x (A 0) (T 0) rs rp rh rl A d G T t GT) (fun r2 w9 hw => ?_)
    obtain ⟨er2, rfl⟩ := hw
    have h := y_letF h er2
    refine ⟨([mnC x (A 0) (T 0) rs rp rh rl, dayC A d, tabC T t] ++ (dayR g A d G ++ tabR g T t GT) : List va_W), ⟨(sh_195 g x (A 0) (T 0) rs rp rh rl A d G T t GT), rfl, rfl⟩, ?_⟩
    refine y_istore_n (lv' := [(2, .int r2), (0, .ref x), (1, .int ri)]) C dX6_spare_24 rfl (Nat.le_of_ble_eq_true rfl) rfl ?_
    refine y_iload_n C dX6_spare_25 0 rfl rfl ?_
    refine y_if_eq (tgt := 37) C dX6_spare_26 rfl (y_e h) (fun c26 h => ?_) (fun c26 h => ?_)
    · refine y_aload_n C dX6_spare_37 1 rfl rfl ?_
      refine y_get (Cn := RX6) (T := TX6) (N := 6) (v := .ref (T 0)) C dX6_spare_38 hX6_spare_X6 0 (sh_188 g x (A 0) (T 0) rs rp rh rl A d G T t GT) rfl 1 (Nat.le_of_ble_eq_true rfl) kX6_spare_3 rfl ?_
      refine y_aload_n C dX6_spare_41 1 rfl rfl ?_
      refine y_get (Cn := RX6) (T := TX6) (N := 6) (v := .ref (A 0)) C dX6_spare_42 hX6_spare_X6 0 (sh_188 g x (A 0) (T 0) rs rp rh rl A d G T t GT) rfl 0 (Nat.le_of_ble_eq_true rfl) kX6_spare_1 rfl ?_
      refine y_callVv (As := [.ref (A 0)]) (rest := []) C dX6_spare_45 (k_X5_follow g T t GT A d G) rfl rfl rfl rfl ⟨Nat.le_of_ble_eq_true rfl, Nat.le_of_ble_eq_true rfl⟩ gX6_spare_X5_follow (nA := 1) (by decide +kernel) rfl (sh_95 g T t GT A d G) (Nat.le_of_ble_eq_true rfl) ⟨Nat.le_of_ble_eq_true rfl, Nat.le_of_ble_eq_true rfl⟩ [2, 1, 15, 16, 17, 18, 19, 3, 4, 5, 6, 7, 8, 9, 10, 11, 12, 13, 14] [0] (nB := 20) rfl (by decide +kernel) (sh_196 g x (A 0) (T 0) rs rp rh rl A d G T t GT) (fun w9 hw => ?_)
      obtain ⟨t3, G4, e5, rfl⟩ := hw
      have h := y_letF h e5
      refine ⟨([mnC x (A 0) (T 0) rs rp rh rl, dayC A d, tabC T t3] ++ (dayR g A d G ++ tabR g T t3 G4) : List va_W), (sh_197 g x (A 0) (T 0) rs rp rh rl A d G T t GT t3 G4), ?_⟩
      refine y_aload_n C dX6_spare_48 1 rfl rfl ?_
      refine y_get (Cn := RX6) (T := TX6) (N := 6) (v := .ref (A 0)) C dX6_spare_49 hX6_spare_X6 0 (sh_188 g x (A 0) (T 0) rs rp rh rl A d G T t3 G4) rfl 0 (Nat.le_of_ble_eq_true rfl) kX6_spare_1 rfl ?_
      refine y_get (Cn := RX0) (T := TX0) (N := 15) (v := .ref (A 13)) C dX6_spare_52 hX6_spare_X0 1 (sh_190 g x (A 0) (T 0) rs rp rh rl A d G T t3 G4) rfl 6 (Nat.le_of_ble_eq_true rfl) kX6_spare_4 rfl ?_
      refine y_iload_n C dX6_spare_55 2 rfl rfl ?_
      refine y_callV (As := [.int ri]) (rest := []) C dX6_spare_56 (c_X3_at g (A 13) (A 14) 17 (d.1 6) (G 6) ri (by decide)) rfl rfl rfl rfl ⟨Nat.le_of_ble_eq_true rfl, Nat.le_of_ble_eq_true rfl⟩ gX6_spare_X3_at (nA := 1) (by decide +kernel) rfl (rowW_recv ⟨_, rfl⟩) (Nat.le_of_ble_eq_true rfl) ⟨Nat.le_of_ble_eq_true rfl, Nat.le_of_ble_eq_true rfl⟩ [9] [0, 1, 2, 3, 4, 5, 6, 7, 8, 10, 11, 12, 13, 14, 15, 16, 17, 18, 19] (nB := 20) rfl (by decide +kernel) (sh_194 g x (A 0) (T 0) rs rp rh rl A d G T t3 G4) (fun r6 w9 hw => ?_)
      obtain ⟨er6, rfl⟩ := hw
      have h := y_letF h er6
      refine ⟨([mnC x (A 0) (T 0) rs rp rh rl, dayC A d, tabC T t3] ++ (dayR g A d G ++ tabR g T t3 G4) : List va_W), ⟨(sh_194 g x (A 0) (T 0) rs rp rh rl A d G T t3 G4), rfl, rfl⟩, ?_⟩
      refine y_aload_n C dX6_spare_59 1 rfl rfl ?_
      refine y_get (Cn := RX6) (T := TX6) (N := 6) (v := .ref (T 0)) C dX6_spare_60 hX6_spare_X6 0 (sh_188 g x (A 0) (T 0) rs rp rh rl A d G T t3 G4) rfl 1 (Nat.le_of_ble_eq_true rfl) kX6_spare_3 rfl ?_
      refine y_get (Cn := RX5) (T := TX5) (N := 10) (v := .ref (T 9)) C dX6_spare_63 hX6_spare_X5 2 (sh_198 g x (A 0) (T 0) rs rp rh rl A d G T t3 G4) rfl 4 (Nat.le_of_ble_eq_true rfl) kX6_spare_5 rfl ?_
      refine y_iload_n C dX6_spare_66 2 rfl rfl ?_
      refine y_callV (As := [.int ri]) (rest := [.int r6]) C dX6_spare_67 (c_X3_at g (T 9) (T 10) 17 (t3.1 4) (G4 4) ri (by decide)) rfl rfl rfl rfl ⟨Nat.le_of_ble_eq_true rfl, Nat.le_of_ble_eq_true rfl⟩ gX6_spare_X3_at (nA := 1) (by decide +kernel) rfl (rowW_recv ⟨_, rfl⟩) (Nat.le_of_ble_eq_true rfl) ⟨Nat.le_of_ble_eq_true rfl, Nat.le_of_ble_eq_true rfl⟩ [19] [0, 1, 2, 3, 4, 5, 6, 7, 8, 9, 10, 11, 12, 13, 14, 15, 16, 17, 18] (nB := 20) rfl (by decide +kernel) (sh_200 g x (A 0) (T 0) rs rp rh rl A d G T t3 G4) (fun r7 w9 hw => ?_)
      obtain ⟨er7, rfl⟩ := hw
      have h := y_letF h er7
      refine ⟨([mnC x (A 0) (T 0) rs rp rh rl, dayC A d, tabC T t3] ++ (dayR g A d G ++ tabR g T t3 G4) : List va_W), ⟨(sh_200 g x (A 0) (T 0) rs rp rh rl A d G T t3 G4), rfl, rfl⟩, ?_⟩
      refine y_isub C dX6_spare_70 ?_
      exact HR 71 dX6_spare_71 (r6 - r7) _ _ _ _ (rfl) (Nat.le_of_ble_eq_true rfl) (Nat.le_of_ble_eq_true rfl) ⟨by rw [h], t3, G4, by rw [h], rfl⟩
    · refine y_iload_n C dX6_spare_29 0 rfl rfl ?_
      refine y_iconst (v := 1) C dX6_spare_30 (by decide) ?_
      refine y_icmp_eq (tgt := 37) C dX6_spare_31 rfl (y_e h) (fun c31 h => ?_) (fun c31 h => ?_)
      · refine y_aload_n C dX6_spare_37 1 rfl rfl ?_
        refine y_get (Cn := RX6) (T := TX6) (N := 6) (v := .ref (T 0)) C dX6_spare_38 hX6_spare_X6 0 (sh_188 g x (A 0) (T 0) rs rp rh rl A d G T t GT) rfl 1 (Nat.le_of_ble_eq_true rfl) kX6_spare_3 rfl ?_
        refine y_aload_n C dX6_spare_41 1 rfl rfl ?_
        refine y_get (Cn := RX6) (T := TX6) (N := 6) (v := .ref (A 0)) C dX6_spare_42 hX6_spare_X6 0 (sh_188 g x (A 0) (T 0) rs rp rh rl A d G T t GT) rfl 0 (Nat.le_of_ble_eq_true rfl) kX6_spare_1 rfl ?_
        refine y_callVv (As := [.ref (A 0)]) (rest := []) C dX6_spare_45 (k_X5_follow g T t GT A d G) rfl rfl rfl rfl ⟨Nat.le_of_ble_eq_true rfl, Nat.le_of_ble_eq_true rfl⟩ gX6_spare_X5_follow (nA := 1) (by decide +kernel) rfl (sh_95 g T t GT A d G) (Nat.le_of_ble_eq_true rfl) ⟨Nat.le_of_ble_eq_true rfl, Nat.le_of_ble_eq_true rfl⟩ [2, 1, 15, 16, 17, 18, 19, 3, 4, 5, 6, 7, 8, 9, 10, 11, 12, 13, 14] [0] (nB := 20) rfl (by decide +kernel) (sh_196 g x (A 0) (T 0) rs rp rh rl A d G T t GT) (fun w9 hw => ?_)
        obtain ⟨t8, G9, e10, rfl⟩ := hw
        have h := y_letF h e10
        refine ⟨([mnC x (A 0) (T 0) rs rp rh rl, dayC A d, tabC T t8] ++ (dayR g A d G ++ tabR g T t8 G9) : List va_W), (sh_197 g x (A 0) (T 0) rs rp rh rl A d G T t GT t8 G9), ?_⟩
        refine y_aload_n C dX6_spare_48 1 rfl rfl ?_
        refine y_get (Cn := RX6) (T := TX6) (N := 6) (v := .ref (A 0)) C dX6_spare_49 hX6_spare_X6 0 (sh_188 g x (A 0) (T 0) rs rp rh rl A d G T t8 G9) rfl 0 (Nat.le_of_ble_eq_true rfl) kX6_spare_1 rfl ?_
        refine y_get (Cn := RX0) (T := TX0) (N := 15) (v := .ref (A 13)) C dX6_spare_52 hX6_spare_X0 1 (sh_190 g x (A 0) (T 0) rs rp rh rl A d G T t8 G9) rfl 6 (Nat.le_of_ble_eq_true rfl) kX6_spare_4 rfl ?_
        refine y_iload_n C dX6_spare_55 2 rfl rfl ?_
        refine y_callV (As := [.int ri]) (rest := []) C dX6_spare_56 (c_X3_at g (A 13) (A 14) 17 (d.1 6) (G 6) ri (by decide)) rfl rfl rfl rfl ⟨Nat.le_of_ble_eq_true rfl, Nat.le_of_ble_eq_true rfl⟩ gX6_spare_X3_at (nA := 1) (by decide +kernel) rfl (rowW_recv ⟨_, rfl⟩) (Nat.le_of_ble_eq_true rfl) ⟨Nat.le_of_ble_eq_true rfl, Nat.le_of_ble_eq_true rfl⟩ [9] [0, 1, 2, 3, 4, 5, 6, 7, 8, 10, 11, 12, 13, 14, 15, 16, 17, 18, 19] (nB := 20) rfl (by decide +kernel) (sh_194 g x (A 0) (T 0) rs rp rh rl A d G T t8 G9) (fun r11 w9 hw => ?_)
        obtain ⟨er11, rfl⟩ := hw
        have h := y_letF h er11
        refine ⟨([mnC x (A 0) (T 0) rs rp rh rl, dayC A d, tabC T t8] ++ (dayR g A d G ++ tabR g T t8 G9) : List va_W), ⟨(sh_194 g x (A 0) (T 0) rs rp rh rl A d G T t8 G9), rfl, rfl⟩, ?_⟩
        refine y_aload_n C dX6_spare_59 1 rfl rfl ?_
        refine y_get (Cn := RX6) (T := TX6) (N := 6) (v := .ref (T 0)) C dX6_spare_60 hX6_spare_X6 0 (sh_188 g x (A 0) (T 0) rs rp rh rl A d G T t8 G9) rfl 1 (Nat.le_of_ble_eq_true rfl) kX6_spare_3 rfl ?_
        refine y_get (Cn := RX5) (T := TX5) (N := 10) (v := .ref (T 9)) C dX6_spare_63 hX6_spare_X5 2 (sh_198 g x (A 0) (T 0) rs rp rh rl A d G T t8 G9) rfl 4 (Nat.le_of_ble_eq_true rfl) kX6_spare_5 rfl ?_
        refine y_iload_n C dX6_spare_66 2 rfl rfl ?_
        refine y_callV (As := [.int ri]) (rest := [.int r11]) C dX6_spare_67 (c_X3_at g (T 9) (T 10) 17 (t8.1 4) (G9 4) ri (by decide)) rfl rfl rfl rfl ⟨Nat.le_of_ble_eq_true rfl, Nat.le_of_ble_eq_true rfl⟩ gX6_spare_X3_at (nA := 1) (by decide +kernel) rfl (rowW_recv ⟨_, rfl⟩) (Nat.le_of_ble_eq_true rfl) ⟨Nat.le_of_ble_eq_true rfl, Nat.le_of_ble_eq_true rfl⟩ [19] [0, 1, 2, 3, 4, 5, 6, 7, 8, 9, 10, 11, 12, 13, 14, 15, 16, 17, 18] (nB := 20) rfl (by decide +kernel) (sh_200 g x (A 0) (T 0) rs rp rh rl A d G T t8 G9) (fun r12 w9 hw => ?_)
        obtain ⟨er12, rfl⟩ := hw
        have h := y_letF h er12
        refine ⟨([mnC x (A 0) (T 0) rs rp rh rl, dayC A d, tabC T t8] ++ (dayR g A d G ++ tabR g T t8 G9) : List va_W), ⟨(sh_200 g x (A 0) (T 0) rs rp rh rl A d G T t8 G9), rfl, rfl⟩, ?_⟩
        refine y_isub C dX6_spare_70 ?_
        exact HR 71 dX6_spare_71 (r11 - r12) _ _ _ _ (rfl) (Nat.le_of_ble_eq_true rfl) (Nat.le_of_ble_eq_true rfl) ⟨by rw [h], t8, G9, by rw [h], rfl⟩
      · refine y_bipush (v := -5) C dX6_spare_34 (by decide) ?_
        exact HR 36 dX6_spare_36 (-5 : Int32) _ _ _ _ (rfl) (Nat.le_of_ble_eq_true rfl) (Nat.le_of_ble_eq_true rfl) ⟨by rw [h], t, GT, by rw [h], rfl⟩
  · refine y_iconst (v := -1) C dX6_spare_11 (by decide) ?_
    exact HR 12 dX6_spare_12 (-1 : Int32) _ _ _ _ (rfl) (Nat.le_of_ble_eq_true rfl) (Nat.le_of_ble_eq_true rfl) ⟨by rw [h], t, GT, by rw [h], rfl⟩
