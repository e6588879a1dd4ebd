theorem dX6_errorOf_0 : decode cX6_errorOf 0 = .ok (.aload_n 0, 1) := by decide +kernel
theorem dX6_errorOf_1 : decode cX6_errorOf 1 = .ok (.getfield 12, 3) := by decide +kernel
theorem dX6_errorOf_4 : decode cX6_errorOf 4 = .ok (.iload_n 1, 1) := by decide +kernel
theorem dX6_errorOf_5 : decode cX6_errorOf 5 = .ok (.invokevirtual 168, 3) := by decide +kernel
theorem dX6_errorOf_8 : decode cX6_errorOf 8 = .ok (.ifCond .eq 14, 3) := by decide +kernel
theorem dX6_errorOf_11 : decode cX6_errorOf 11 = .ok (.aload_n 0, 1) := by decide +kernel
theorem dX6_errorOf_12 : decode cX6_errorOf 12 = .ok (.getfield 12, 3) := by decide +kernel
theorem dX6_errorOf_15 : decode cX6_errorOf 15 = .ok (.iload_n 2, 1) := by decide +kernel
theorem dX6_errorOf_16 : decode cX6_errorOf 16 = .ok (.invokevirtual 168, 3) := by decide +kernel
theorem dX6_errorOf_19 : decode cX6_errorOf 19 = .ok (.ifCond .ne 5, 3) := by decide +kernel
theorem dX6_errorOf_22 : decode cX6_errorOf 22 = .ok (.iconst (-1), 1) := by decide +kernel
theorem dX6_errorOf_23 : decode cX6_errorOf 23 = .ok (.ireturn, 1) := by decide +kernel
theorem dX6_errorOf_24 : decode cX6_errorOf 24 = .ok (.iload_n 1, 1) := by decide +kernel
theorem dX6_errorOf_25 : decode cX6_errorOf 25 = .ok (.iload_n 2, 1) := by decide +kernel
theorem dX6_errorOf_26 : decode cX6_errorOf 26 = .ok (.if_icmp .ne 6, 3) := by decide +kernel
theorem dX6_errorOf_29 : decode cX6_errorOf 29 = .ok (.bipush (-2), 2) := by decide +kernel
theorem dX6_errorOf_31 : decode cX6_errorOf 31 = .ok (.ireturn, 1) := by decide +kernel
theorem dX6_errorOf_32 : decode cX6_errorOf 32 = .ok (.iload_n 3, 1) := by decide +kernel
theorem dX6_errorOf_33 : decode cX6_errorOf 33 = .ok (.ifCond .lt 23, 3) := by decide +kernel
theorem dX6_errorOf_36 : decode cX6_errorOf 36 = .ok (.iload_n 3, 1) := by decide +kernel
theorem dX6_errorOf_37 : decode cX6_errorOf 37 = .ok (.sipush 600, 3) := by decide +kernel
theorem dX6_errorOf_40 : decode cX6_errorOf 40 = .ok (.if_icmp .gt 16, 3) := by decide +kernel
theorem dX6_errorOf_43 : decode cX6_errorOf 43 = .ok (.iload 4, 2) := by decide +kernel
theorem dX6_errorOf_45 : decode cX6_errorOf 45 = .ok (.ifCond .lt 11, 3) := by decide +kernel
theorem dX6_errorOf_48 : decode cX6_errorOf 48 = .ok (.iload 4, 2) := by decide +kernel
theorem dX6_errorOf_50 : decode cX6_errorOf 50 = .ok (.sipush 900, 3) := by decide +kernel
theorem dX6_errorOf_53 : decode cX6_errorOf 53 = .ok (.if_icmp .le 6, 3) := by decide +kernel
theorem dX6_errorOf_56 : decode cX6_errorOf 56 = .ok (.bipush (-2), 2) := by decide +kernel
theorem dX6_errorOf_58 : decode cX6_errorOf 58 = .ok (.ireturn, 1) := by decide +kernel
theorem dX6_errorOf_59 : decode cX6_errorOf 59 = .ok (.iconst 0, 1) := by decide +kernel
theorem dX6_errorOf_60 : decode cX6_errorOf 60 = .ok (.ireturn, 1) := by decide +kernel
set_option maxRecDepth 20000 in
theorem ggX6_errorOf_X0_hasStop : GoodIn wsX6_errorOf wsX0_hasStop := goodIn_r _ [6, 7, 8, 9, 10, 11, 12, 13, 20, 21, 22, 23, 24, 25, 26, 27, 28, 29, 30, 31, 32, 33, 34, 35, 36] (by decide +kernel) (by decide +kernel)
set_option maxRecDepth 20000 in
theorem gX6_errorOf_X0_hasStop : GoodIn wsX6_errorOf (wsV RX6 168 RX0 yX0_hasStop wsX0_hasStop) := goodIn_app (goodIn_of _ (by decide +kernel)) ggX6_errorOf_X0_hasStop
theorem kX6_errorOf_1 : Cond.fieldLink RX6 12 "BookedDetours" "day" "LBookedDetours$Day;" ∈ wsX6_errorOf := List.mem_of_getElem? (i := 1) (by decide +kernel)
theorem hX6_errorOf_X6 : ∀ w ∈ u_ws RX6 TX6 6, w ∈ wsX6_errorOf := fun _ h => List.mem_cons_of_mem _ (List.mem_append_left _ (List.mem_append_left _ (List.mem_append_right _ h)))
set_option maxHeartbeats 4000000 in
set_option maxRecDepth 100000 in
theorem c_X6_errorOf (g : yG) (x rt rs rp rh rl : Nat) (A : Nat → Nat) (d : RV) (G : Nat → Nat → Int32) (fr : Int32) (to : Int32) (wa : Int32) (bt : Int32) : yM g yX6_errorOf wsX6_errorOf ({ frames := 2, cells := 0, slots := 0, locals := 41 } : Room) [.ref x, .int fr, .int to, .int wa, .int bt] ([mnC x (A 0) rt rs rp rh rl, dayC A d] ++ dayR g A d G : List va_W) (fun r w => r = (f_X6_errorOf d fr to wa bt) ∧ w = ([mnC x (A 0) rt rs rp rh rl, dayC A d] ++ dayR g A d G : List va_W)) 0 0 := by
  refine y_entryI (cc := cX6_errorOf) (maxL := 5) (by decide +kernel) rfl (Nat.le_of_ble_eq_true rfl) (fun Z C HR => ?_)
  have C : yC Z g cX6_errorOf 5 wsX6_errorOf RX6 := C
  have h := f_X6_errorOf.eq_1 d fr to wa bt
  show yJ Z _ 0 0 _ 0 [(0, .ref x), (1, .int fr), (2, .int to), (3, .int wa), (4, .int bt)] []
  refine y_aload_n C dX6_errorOf_0 0 rfl rfl ?_
  refine y_get (Cn := RX6) (T := TX6) (N := 6) (v := .ref (A 0)) C dX6_errorOf_1 hX6_errorOf_X6 0 (sh_140 g x (A 0) rt rs rp rh rl A d G) rfl 0 (Nat.le_of_ble_eq_true rfl) kX6_errorOf_1 rfl ?_
  refine y_iload_n C dX6_errorOf_4 1 rfl rfl ?_
  refine y_callV (As := [.int fr]) (rest := []) C dX6_errorOf_5 (c_X0_hasStop g A d G fr) rfl rfl rfl rfl ⟨Nat.le_of_ble_eq_true rfl, Nat.le_of_ble_eq_true rfl⟩ gX6_errorOf_X0_hasStop (nA := 1) (by decide +kernel) rfl (sh_18 g A d G) (Nat.le_of_ble_eq_true rfl) ⟨Nat.le_of_ble_eq_true rfl, Nat.le_of_ble_eq_true rfl⟩ [1, 2, 3, 4, 5, 6, 7, 8, 9, 10, 11, 12, 13] [0] (nB := 14) rfl (by decide +kernel) (sh_141 g x (A 0) rt rs rp rh rl A d G) (fun r1 w9 hw => ?_)
  obtain ⟨er1, rfl⟩ := hw
  have h := y_letF h er1
  refine ⟨([mnC x (A 0) rt rs rp rh rl, dayC A d] ++ dayR g A d G : List va_W), ⟨(sh_141 g x (A 0) rt rs rp rh rl A d G), rfl, rfl⟩, ?_⟩
  refine y_if_eq (tgt := 22) C dX6_errorOf_8 rfl (y_e h) (fun c8 h => ?_) (fun c8 h => ?_)
  · refine y_iconst (v := -1) C dX6_errorOf_22 (by decide) ?_
    exact HR 23 dX6_errorOf_23 (-1 : Int32) _ _ _ _ (rfl) (Nat.le_of_ble_eq_true rfl) (Nat.le_of_ble_eq_true rfl) ⟨by rw [h], rfl⟩
  · refine y_aload_n C dX6_errorOf_11 0 rfl rfl ?_
    refine y_get (Cn := RX6) (T := TX6) (N := 6) (v := .ref (A 0)) C dX6_errorOf_12 hX6_errorOf_X6 0 (sh_140 g x (A 0) rt rs rp rh rl A d G) rfl 0 (Nat.le_of_ble_eq_true rfl) kX6_errorOf_1 rfl ?_
    refine y_iload_n C dX6_errorOf_15 2 rfl rfl ?_
    refine y_callV (As := [.int to]) (rest := []) C dX6_errorOf_16 (c_X0_hasStop g A d G to) rfl rfl rfl rfl ⟨Nat.le_of_ble_eq_true rfl, Nat.le_of_ble_eq_true rfl⟩ gX6_errorOf_X0_hasStop (nA := 1) (by decide +kernel) rfl (sh_18 g A d G) (Nat.le_of_ble_eq_true rfl) ⟨Nat.le_of_ble_eq_true rfl, Nat.le_of_ble_eq_true rfl⟩ [1, 2, 3, 4, 5, 6, 7, 8, 9, 10, 11, 12, 13] [0] (nB := 14) rfl (by decide +kernel) (sh_141 g x (A 0) rt rs rp rh rl A d G) (fun r2 w9 hw => ?_)
    obtain ⟨er2, rfl⟩ := hw
    have h := y_letF h er2
    refine ⟨([mnC x (A 0) rt rs rp rh rl, dayC A d] ++ dayR g A d G : List va_W), ⟨(sh_141 g x (A 0) rt rs rp rh rl A d G), rfl, rfl⟩, ?_⟩
    refine y_if_ne (tgt := 24) C dX6_errorOf_19 rfl (y_e h) (fun c19 h => ?_) (fun c19 h => ?_)
    · refine y_iload_n C dX6_errorOf_24 1 rfl rfl ?_
      refine y_iload_n C dX6_errorOf_25 2 rfl rfl ?_
      refine y_icmp_ne (tgt := 32) C dX6_errorOf_26 rfl (y_e h) (fun c26 h => ?_) (fun c26 h => ?_)
      · refine y_iload_n C dX6_errorOf_32 3 rfl rfl ?_
        refine y_if_lt (tgt := 56) C dX6_errorOf_33 rfl (y_e h) (fun c33 h => ?_) (fun c33 h => ?_)
        · refine y_bipush (v := -2) C dX6_errorOf_56 (by decide) ?_
          exact HR 58 dX6_errorOf_58 (-2 : Int32) _ _ _ _ (rfl) (Nat.le_of_ble_eq_true rfl) (Nat.le_of_ble_eq_true rfl) ⟨by rw [h], rfl⟩
        · refine y_iload_n C dX6_errorOf_36 3 rfl rfl ?_
          refine y_sipush (v := 600) C dX6_errorOf_37 (by decide) ?_
          refine y_icmp_gt (tgt := 56) C dX6_errorOf_40 rfl (y_e h) (fun c40 h => ?_) (fun c40 h => ?_)
          · refine y_bipush (v := -2) C dX6_errorOf_56 (by decide) ?_
            exact HR 58 dX6_errorOf_58 (-2 : Int32) _ _ _ _ (rfl) (Nat.le_of_ble_eq_true rfl) (Nat.le_of_ble_eq_true rfl) ⟨by rw [h], rfl⟩
          · refine y_iload C dX6_errorOf_43 4 rfl ?_
            refine y_if_lt (tgt := 56) C dX6_errorOf_45 rfl (y_e h) (fun c45 h => ?_) (fun c45 h => ?_)
            · refine y_bipush (v := -2) C dX6_errorOf_56 (by decide) ?_
              exact HR 58 dX6_errorOf_58 (-2 : Int32) _ _ _ _ (rfl) (Nat.le_of_ble_eq_true rfl) (Nat.le_of_ble_eq_true rfl) ⟨by rw [h], rfl⟩
            · refine y_iload C dX6_errorOf_48 4 rfl ?_
              refine y_sipush (v := 900) C dX6_errorOf_50 (by decide) ?_
              refine y_icmp_le (tgt := 59) C dX6_errorOf_53 rfl (y_e h) (fun c53 h => ?_) (fun c53 h => ?_)
              · refine y_iconst (v := 0) C dX6_errorOf_59 (by decide) ?_
                exact HR 60 dX6_errorOf_60 (0 : Int32) _ _ _ _ (rfl) (Nat.le_of_ble_eq_true rfl) (Nat.le_of_ble_eq_true rfl) ⟨by rw [h], rfl⟩
              · refine y_bipush (v := -2) C dX6_errorOf_56 (by decide) ?_
                exact HR 58 dX6_errorOf_58 (-2 : Int32) _ _ _ _ (rfl) (Nat.le_of_ble_eq_true rfl) (Nat.le_of_ble_eq_true rfl) ⟨by rw [h], rfl⟩
      · refine y_bipush (v := -2) C dX6_errorOf_29 (by decide) ?_
        exact HR 31 dX6_errorOf_31 (-2 : Int32) _ _ _ _ (rfl) (Nat.le_of_ble_eq_true rfl) (Nat.le_of_ble_eq_true rfl) ⟨by rw [h], rfl⟩
    · refine y_iconst (v := -1) C dX6_errorOf_22 (by decide) ?_
      exact HR 23 dX6_errorOf_23 (-1 : Int32) _ _ _ _ (rfl) (Nat.le_of_ble_eq_true rfl) (Nat.le_of_ble_eq_true rfl) ⟨by rw [h], rfl⟩
theorem dX6_overOf_0 : decode cX6_overOf 0 = .ok (.aload_n 0, 1) := by decide +kernel
theorem dX6_overOf_1 : decode cX6_overOf 1 = .ok (.getfield 19, 3) := by decide +kernel
theorem dX6_overOf_4 : decode cX6_overOf 4 = .ok (.aload_n 1, 1) := by decide +kernel
theorem dX6_overOf_5 : decode cX6_overOf 5 = .ok (.invokevirtual 110, 3) := by decide +kernel
theorem dX6_overOf_8 : decode cX6_overOf 8 = .ok (.aload_n 0, 1) := by decide +kernel
theorem dX6_overOf_9 : decode cX6_overOf 9 = .ok (.getfield 19, 3) := by decide +kernel
theorem dX6_overOf_12 : decode cX6_overOf 12 = .ok (.getfield 220, 3) := by decide +kernel
theorem dX6_overOf_15 : decode cX6_overOf 15 = .ok (.ireturn, 1) := by decide +kernel
set_option maxRecDepth 20000 in
theorem ggX6_overOf_X5_follow : GoodIn wsX6_overOf wsX5_follow := goodIn_r _ [7, 8, 9, 10, 11, 6, 12, 13, 14, 15, 16, 17, 18, 19, 20, 21, 22, 23, 24, 25, 26, 27, 28, 29, 30, 31, 32, 33, 34, 35, 36, 37, 38, 39, 40, 41, 42, 43, 44, 45, 46, 47, 48, 49, 50, 51, 52, 53, 54, 55, 56, 57, 58, 59, 60, 61, 62, 63, 64, 65, 66, 67, 68, 69, 70, 71, 72, 73, 74, 75, 76, 77, 78, 79, 80, 81, 82, 83, 84, 85, 86, 87, 88, 89, 90, 91, 92, 93, 94, 95, 96, 97, 98, 99, 100, 101, 102, 103, 104, 121, 122, 123, 124, 125, 126, 127, 128, 129, 130, 131, 132, 133, 134, 135, 111, 112, 113, 114, 115, 116, 117, 118, 119, 120, 136, 137] (by decide +kernel) (by decide +kernel)
set_option maxRecDepth 20000 in
theorem gX6_overOf_X5_follow : GoodIn wsX6_overOf (wsV RX6 110 RX5 yX5_follow wsX5_follow) := goodIn_app (goodIn_of _ (by decide +kernel)) ggX6_overOf_X5_follow
theorem kX6_overOf_1 : Cond.fieldLink RX6 19 "BookedDetours" "table" "LBookedDetours$Timetable;" ∈ wsX6_overOf := List.mem_of_getElem? (i := 1) (by decide +kernel)
theorem kX6_overOf_2 : Cond.fieldLink RX6 220 "BookedDetours$Timetable" "free" "I" ∈ wsX6_overOf := List.mem_of_getElem? (i := 2) (by decide +kernel)
theorem hX6_overOf_X6 : ∀ w ∈ u_ws RX6 TX6 6, w ∈ wsX6_overOf := fun _ h => List.mem_cons_of_mem _ (List.mem_append_left _ (List.mem_append_left _ (List.mem_append_left _ (List.mem_append_right _ h))))
theorem hX6_overOf_X5 : ∀ w ∈ u_ws RX5 TX5 10, w ∈ wsX6_overOf := fun _ h => List.mem_cons_of_mem _ (List.mem_append_left _ (List.mem_append_left _ (List.mem_append_right _ h)))
set_option maxHeartbeats 4000000 in
set_option maxRecDepth 100000 in
theorem c_X6_overOf (g : yG) (x ra rs rp rh rl : Nat) (T : Nat → Nat) (t : RV) (GT : Nat → Nat → Int32) (A : Nat → Nat) (d : RV) (G : Nat → Nat → Int32)  : yM g yX6_overOf wsX6_overOf ({ frames := 4, cells := 0, slots := 0, locals := 94 } : Room) [.ref x, .ref (A 0)] ([mnC x ra (T 0) rs rp rh rl, tabC T t, dayC A d] ++ (tabR g T t GT ++ dayR g A d G) : List va_W) (fun r w => r = (f_X6_overOf t d).1 ∧ ∃ t' : RV, ∃ GT' : Nat → Nat → Int32, t' = (f_X6_overOf t d).2 ∧ w = ([mnC x ra (T 0) rs rp rh rl, tabC T t', dayC A d] ++ (tabR g T t' GT' ++ dayR g A d G) : List va_W)) 0 0 := by
  refine y_entryI (cc := cX6_overOf) (maxL := 2) (by decide +kernel) rfl (Nat.le_of_ble_eq_true rfl) (fun Z C HR => ?_)
  have C : yC Z g cX6_overOf 2 wsX6_overOf RX6 := C
  have h := f_X6_overOf.eq_1 t d
  show yJ Z _ 0 0 _ 0 [(0, .ref x), (1, .ref (A 0))] []
  refine y_aload_n C dX6_overOf_0 0 rfl rfl ?_
  refine y_get (Cn := RX6) (T := TX6) (N := 6) (v := .ref (T 0)) C dX6_overOf_1 hX6_overOf_X6 0 (sh_142 g x ra (T 0) rs rp rh rl T t GT A d G) rfl 1 (Nat.le_of_ble_eq_true rfl) kX6_overOf_1 rfl ?_
  refine y_aload_n C dX6_overOf_4 1 rfl rfl ?_
  refine y_callVv (As := [.ref (A 0)]) (rest := []) C dX6_overOf_5 (k_X5_follow g T t GT A d G) rfl rfl rfl rfl ⟨Nat.le_of_ble_eq_true rfl, Nat.le_of_ble_eq_true rfl⟩ gX6_overOf_X5_follow (nA := 1) (by decide +kernel) rfl (sh_95 g T t GT A d G) (Nat.le_of_ble_eq_true rfl) ⟨Nat.le_of_ble_eq_true rfl, Nat.le_of_ble_eq_true rfl⟩ [1, 2, 3, 4, 5, 6, 7, 8, 9, 10, 11, 12, 13, 14, 15, 16, 17, 18, 19] [0] (nB := 20) rfl (by decide +kernel) (sh_143 g x ra (T 0) rs rp rh rl T t GT A d G) (fun w9 hw => ?_)
  obtain ⟨t1, G2, e3, rfl⟩ := hw
  have h := y_letF h e3
  refine ⟨([mnC x ra (T 0) rs rp rh rl, tabC T t1, dayC A d] ++ (tabR g T t1 G2 ++ dayR g A d G) : List va_W), (sh_144 g x ra (T 0) rs rp rh rl T t GT A d G t1 G2), ?_⟩
  refine y_aload_n C dX6_overOf_8 0 rfl rfl ?_
  refine y_get (Cn := RX6) (T := TX6) (N := 6) (v := .ref (T 0)) C dX6_overOf_9 hX6_overOf_X6 0 (sh_142 g x ra (T 0) rs rp rh rl T t1 G2 A d G) rfl 1 (Nat.le_of_ble_eq_true rfl) kX6_overOf_1 rfl ?_
  refine y_get (Cn := RX5) (T := TX5) (N := 10) (v := .int (t1.2 1)) C dX6_overOf_12 hX6_overOf_X5 1 (sh_145 g x ra (T 0) rs rp rh rl T t1 G2 A d G) rfl 6 (Nat.le_of_ble_eq_true rfl) kX6_overOf_2 rfl ?_
  exact HR 15 dX6_overOf_15 (t1.2 1) _ _ _ _ (rfl) (Nat.le_of_ble_eq_true rfl) (Nat.le_of_ble_eq_true rfl) ⟨by rw [h], t1, G2, by rw [h], rfl⟩
theorem dX6_tryToBook_0 : decode cX6_tryToBook 0 = .ok (.aload_n 0, 1) := by decide +kernel
theorem dX6_tryToBook_1 : decode cX6_tryToBook 1 = .ok (.iload_n 1, 1) := by decide +kernel
theorem dX6_tryToBook_2 : decode cX6_tryToBook 2 = .ok (.iload_n 2, 1) := by decide +kernel
theorem dX6_tryToBook_3 : decode cX6_tryToBook 3 = .ok (.iload_n 3, 1) := by decide +kernel
theorem dX6_tryToBook_4 : decode cX6_tryToBook 4 = .ok (.iload 4, 2) := by decide +kernel
theorem dX6_tryToBook_6 : decode cX6_tryToBook 6 = .ok (.invokevirtual 186, 3) := by decide +kernel
theorem dX6_tryToBook_9 : decode cX6_tryToBook 9 = .ok (.istore 5, 2) := by decide +kernel
theorem dX6_tryToBook_11 : decode cX6_tryToBook 11 = .ok (.iload 5, 2) := by decide +kernel
theorem dX6_tryToBook_13 : decode cX6_tryToBook 13 = .ok (.ifCond .eq 6, 3) := by decide +kernel
theorem dX6_tryToBook_16 : decode cX6_tryToBook 16 = .ok (.iload 5, 2) := by decide +kernel
theorem dX6_tryToBook_18 : decode cX6_tryToBook 18 = .ok (.ireturn, 1) := by decide +kernel
theorem dX6_tryToBook_19 : decode cX6_tryToBook 19 = .ok (.aload_n 0, 1) := by decide +kernel
theorem dX6_tryToBook_20 : decode cX6_tryToBook 20 = .ok (.getfield 12, 3) := by decide +kernel
theorem dX6_tryToBook_23 : decode cX6_tryToBook 23 = .ok (.getfield 100, 3) := by decide +kernel
theorem dX6_tryToBook_26 : decode cX6_tryToBook 26 = .ok (.invokevirtual 59, 3) := by decide +kernel
theorem dX6_tryToBook_29 : decode cX6_tryToBook 29 = .ok (.bipush 16, 2) := by decide +kernel
theorem dX6_tryToBook_31 : decode cX6_tryToBook 31 = .ok (.if_icmp .lt 6, 3) := by decide +kernel
theorem dX6_tryToBook_34 : decode cX6_tryToBook 34 = .ok (.bipush (-4), 2) := by decide +kernel
theorem dX6_tryToBook_36 : decode cX6_tryToBook 36 = .ok (.ireturn, 1) := by decide +kernel
theorem dX6_tryToBook_37 : decode cX6_tryToBook 37 = .ok (.aload_n 0, 1) := by decide +kernel
theorem dX6_tryToBook_38 : decode cX6_tryToBook 38 = .ok (.getfield 26, 3) := by decide +kernel
theorem dX6_tryToBook_41 : decode cX6_tryToBook 41 = .ok (.aload_n 0, 1) := by decide +kernel
theorem dX6_tryToBook_42 : decode cX6_tryToBook 42 = .ok (.getfield 12, 3) := by decide +kernel
theorem dX6_tryToBook_45 : decode cX6_tryToBook 45 = .ok (.iload_n 1, 1) := by decide +kernel
theorem dX6_tryToBook_46 : decode cX6_tryToBook 46 = .ok (.iload_n 2, 1) := by decide +kernel
theorem dX6_tryToBook_47 : decode cX6_tryToBook 47 = .ok (.iload_n 3, 1) := by decide +kernel
theorem dX6_tryToBook_48 : decode cX6_tryToBook 48 = .ok (.iload 4, 2) := by decide +kernel
theorem dX6_tryToBook_50 : decode cX6_tryToBook 50 = .ok (.invokevirtual 189, 3) := by decide +kernel
theorem dX6_tryToBook_53 : decode cX6_tryToBook 53 = .ok (.ifCond .eq 16, 3) := by decide +kernel
theorem dX6_tryToBook_56 : decode cX6_tryToBook 56 = .ok (.aload_n 0, 1) := by decide +kernel
theorem dX6_tryToBook_57 : decode cX6_tryToBook 57 = .ok (.getfield 12, 3) := by decide +kernel
theorem dX6_tryToBook_60 : decode cX6_tryToBook 60 = .ok (.getfield 100, 3) := by decide +kernel
theorem dX6_tryToBook_63 : decode cX6_tryToBook 63 = .ok (.invokevirtual 59, 3) := by decide +kernel
theorem dX6_tryToBook_66 : decode cX6_tryToBook 66 = .ok (.goto 5, 3) := by decide +kernel
theorem dX6_tryToBook_69 : decode cX6_tryToBook 69 = .ok (.bipush (-5), 2) := by decide +kernel
theorem dX6_tryToBook_71 : decode cX6_tryToBook 71 = .ok (.ireturn, 1) := by decide +kernel
set_option maxRecDepth 20000 in
theorem ggX6_tryToBook_X6_errorOf : GoodIn wsX6_tryToBook wsX6_errorOf := goodIn_r _ [8, 1, 9, 10, 11, 12, 13, 14, 15, 16, 17, 18, 19, 20, 180, 181, 182, 183, 184, 185, 186, 187, 188, 189, 190, 191, 192, 193, 194, 195, 196, 197, 198, 199, 200, 201, 202] (by decide +kernel) (by decide +kernel)
set_option maxRecDepth 20000 in
theorem gX6_tryToBook_X6_errorOf : GoodIn wsX6_tryToBook (wsV RX6 186 RX6 yX6_errorOf wsX6_errorOf) := goodIn_app (goodIn_of _ (by decide +kernel)) ggX6_tryToBook_X6_errorOf
set_option maxRecDepth 20000 in
theorem ggX6_tryToBook_X3_length : GoodIn wsX6_tryToBook wsX3_length := goodIn_r _ [19, 20, 201, 202] (by decide +kernel) (by decide +kernel)
set_option maxRecDepth 20000 in
theorem gX6_tryToBook_X3_length : GoodIn wsX6_tryToBook (wsV RX6 59 RX3 yX3_length wsX3_length) := goodIn_app (goodIn_of _ (by decide +kernel)) ggX6_tryToBook_X3_length
set_option maxRecDepth 20000 in
theorem ggX6_tryToBook_X4_find : GoodIn wsX6_tryToBook wsX4_find := goodIn_r _ [26, 27, 28, 29, 30, 31, 32, 33, 34, 35, 12, 36, 37, 14, 38, 39, 40, 41, 42, 43, 44, 45, 46, 47, 48, 49, 50, 51, 52, 53, 18, 54, 20, 55, 56, 57, 58, 59, 60, 61, 62, 63, 64, 65, 66, 15, 16, 17, 19, 67, 68, 69, 70, 71, 72, 73, 74, 75, 76, 77, 78, 79, 80, 81, 82, 83, 84, 85, 86, 87, 88, 89, 90, 91, 92, 93, 94, 95, 96, 97, 25, 98, 99, 100, 7, 101, 102, 103, 104, 105, 106, 107, 108, 109, 110, 111, 112, 113, 114, 115, 116, 117, 118, 119, 120, 121, 122, 123, 124, 125, 126, 127, 128, 129, 130, 131, 132, 133, 134, 135, 136, 137, 138, 139, 140, 141, 142, 143, 144, 145, 146, 147, 148, 149, 150, 151, 152, 153, 154, 155, 156, 157, 158, 159, 160, 161, 162, 163, 164, 165, 166, 167, 168, 169, 170, 171, 172, 173, 174, 175, 176, 177, 178, 179, 203, 204, 205, 206, 207, 208, 209, 210, 211, 186, 187, 188, 189, 190, 191, 192, 193, 194, 195, 196, 197, 198, 199, 200, 201, 202, 212, 213, 214, 215, 216, 217, 218, 219, 220, 221] (by decide +kernel) (by decide +kernel)
set_option maxRecDepth 20000 in
theorem gX6_tryToBook_X4_find : GoodIn wsX6_tryToBook (wsV RX6 189 RX4 yX4_find wsX4_find) := goodIn_app (goodIn_of _ (by decide +kernel)) ggX6_tryToBook_X4_find
theorem kX6_tryToBook_1 : Cond.fieldLink RX6 12 "BookedDetours" "day" "LBookedDetours$Day;" ∈ wsX6_tryToBook := List.mem_of_getElem? (i := 1) (by decide +kernel)
theorem kX6_tryToBook_2 : Cond.fieldLink RX6 100 "BookedDetours$Day" "stands" "LBookedDetours$Row;" ∈ wsX6_tryToBook := List.mem_of_getElem? (i := 2) (by decide +kernel)
theorem kX6_tryToBook_3 : Cond.fieldLink RX6 26 "BookedDetours" "search" "LBookedDetours$Search;" ∈ wsX6_tryToBook := List.mem_of_getElem? (i := 3) (by decide +kernel)
theorem hX6_tryToBook_X6 : ∀ w ∈ u_ws RX6 TX6 6, w ∈ wsX6_tryToBook := fun _ h => List.mem_cons_of_mem _ (List.mem_append_left _ (List.mem_append_left _ (List.mem_append_left _ (List.mem_append_left _ (List.mem_append_right _ h)))))
theorem hX6_tryToBook_X0 : ∀ w ∈ u_ws RX0 TX0 15, w ∈ wsX6_tryToBook := fun _ h => List.mem_cons_of_mem _ (List.mem_append_left _ (List.mem_append_left _ (List.mem_append_left _ (List.mem_append_right _ h))))
set_option maxHeartbeats 4000000 in
set_option maxRecDepth 100000 in
theorem c_X6_tryToBook (g : yG) (x rt rp rh rl : Nat) (A : Nat → Nat) (d : RV) (G : Nat → Nat → Int32) (S : Nat) (sv : RV) (SA : Nat → Nat) (sd : RV) (SG : Nat → Nat → Int32) (ST : Nat → Nat) (st : RV) (SGT : Nat → Nat → Int32) (fr : Int32) (to : Int32) (wa : Int32) (bt : Int32) : yM g yX6_tryToBook wsX6_tryToBook ({ frames := 5, cells := 0, slots := 0, locals := 123 } : Room) [.ref x, .int fr, .int to, .int wa, .int bt] ([mnC x (A 0) rt S rp rh rl, dayC A d, seaC S (SA 0) (ST 0) sv, dayC SA sd, tabC ST st] ++ (dayR g A d G ++ (dayR g SA sd SG ++ tabR g ST st SGT)) : List va_W) (fun r w => r = (f_X6_tryToBook d sv sd st fr to wa bt).1 ∧ ∃ sv' : RV, ∃ sd' : RV, ∃ st' : RV, ∃ SG' : Nat → Nat → Int32, ∃ SGT' : Nat → Nat → Int32, sv' = (f_X6_tryToBook d sv sd st fr to wa bt).2.1 ∧ sd' = (f_X6_tryToBook d sv sd st fr to wa bt).2.2.1 ∧ st' = (f_X6_tryToBook d sv sd st fr to wa bt).2.2.2 ∧ w = ([mnC x (A 0) rt S rp rh rl, dayC A d, seaC S (SA 0) (ST 0) sv', dayC SA sd', tabC ST st'] ++ (dayR g A d G ++ (dayR g SA sd' SG' ++ tabR g ST st' SGT')) : List va_W)) 0 0 := by
  refine y_entryI (cc := cX6_tryToBook) (maxL := 6) (by decide +kernel) rfl (Nat.le_of_ble_eq_true rfl) (fun Z C HR => ?_)
  have C : yC Z g cX6_tryToBook 6 wsX6_tryToBook RX6 := C
  have h := f_X6_tryToBook.eq_1 d sv sd st fr to wa bt
  show yJ Z _ 0 0 _ 0 [(0, .ref x), (1, .int fr), (2, .int to), (3, .int wa), (4, .int bt)] []
  refine y_aload_n C dX6_tryToBook_0 0 rfl rfl ?_
  refine y_iload_n C dX6_tryToBook_1 1 rfl rfl ?_
  refine y_iload_n C dX6_tryToBook_2 2 rfl rfl ?_
  refine y_iload_n C dX6_tryToBook_3 3 rfl rfl ?_
  refine y_iload C dX6_tryToBook_4 4 rfl ?_
  refine y_callV (As := [.int fr, .int to, .int wa, .int bt]) (rest := []) C dX6_tryToBook_6 (c_X6_errorOf g x rt S rp rh rl A d G fr to wa bt) rfl rfl rfl rfl ⟨Nat.le_of_ble_eq_true rfl, Nat.le_of_ble_eq_true rfl⟩ gX6_tryToBook_X6_errorOf (nA := 4) (by decide +kernel) rfl (sh_147 g x (A 0) rt S rp rh rl A d G) (Nat.le_of_ble_eq_true rfl) ⟨Nat.le_of_ble_eq_true rfl, Nat.le_of_ble_eq_true rfl⟩ [0, 1, 5, 6, 7, 8, 9, 10, 11, 12, 13, 14, 15, 16] [2, 3, 4, 17, 18, 19, 20, 21, 22, 23, 24, 25, 26, 27, 28, 29, 30, 31, 32, 33] (nB := 34) rfl (by decide +kernel) (sh_146 g x (A 0) rt S rp rh rl A d G S (SA 0) (ST 0) sv SA sd SG ST st SGT) (fun r1 w9 hw => ?_)
  obtain ⟨er1, rfl⟩ := hw
  have h := y_letF h er1
  refine ⟨([mnC x (A 0) rt S rp rh rl, dayC A d, seaC S (SA 0) (ST 0) sv, dayC SA sd, tabC ST st] ++ (dayR g A d G ++ (dayR g SA sd SG ++ tabR g ST st SGT)) : List va_W), ⟨(sh_146 g x (A 0) rt S rp rh rl A d G S (SA 0) (ST 0) sv SA sd SG ST st SGT), rfl, rfl⟩, ?_⟩
  refine y_istore (lv' := [(5, .int r1), (0, .ref x), (1, .int fr), (2, .int to), (3, .int wa), (4, .int bt)]) C dX6_tryToBook_9 (Nat.le_of_ble_eq_true rfl) rfl ?_
  refine y_iload C dX6_tryToBook_11 0 rfl ?_
  refine y_if_eq (tgt := 19) C dX6_tryToBook_13 rfl (y_e h) (fun c13 h => ?_) (fun c13 h => ?_)
  · refine y_aload_n C dX6_tryToBook_19 1 rfl rfl ?_
    refine y_get (Cn := RX6) (T := TX6) (N := 6) (v := .ref (A 0)) C dX6_tryToBook_20 hX6_tryToBook_X6 0 (sh_148 g x (A 0) rt S rp rh rl A d G S (SA 0) (ST 0) sv SA sd SG ST st SGT) rfl 0 (Nat.le_of_ble_eq_true rfl) kX6_tryToBook_1 rfl ?_
    refine y_get (Cn := RX0) (T := TX0) (N := 15) (v := .ref (A 17)) C dX6_tryToBook_23 hX6_tryToBook_X0 1 (sh_149 g x (A 0) rt S rp rh rl A d G S (SA 0) (ST 0) sv SA sd SG ST st SGT) rfl 8 (Nat.le_of_ble_eq_true rfl) kX6_tryToBook_2 rfl ?_
    refine y_callV (As := []) (rest := []) C dX6_tryToBook_26 (c_X3_length g (A 17) (A 18) 17 (d.1 8) (G 8) (by decide)) rfl rfl rfl rfl ⟨Nat.le_of_ble_eq_true rfl, Nat.le_of_ble_eq_true rfl⟩ gX6_tryToBook_X3_length (nA := 0) (by decide +kernel) rfl (rowW_recv ⟨_, rfl⟩) (Nat.le_of_ble_eq_true rfl) ⟨Nat.le_of_ble_eq_true rfl, Nat.le_of_ble_eq_true rfl⟩ [13] [0, 1, 2, 3, 4, 5, 6, 7, 8, 9, 10, 11, 12, 14, 15, 16, 17, 18, 19, 20, 21, 22, 23, 24, 25, 26, 27, 28, 29, 30, 31, 32, 33] (nB := 34) rfl (by decide +kernel) (sh_150 g x (A 0) rt S rp rh rl A d G S (SA 0) (ST 0) sv SA sd SG ST st SGT) (fun r2 w9 hw => ?_)
    obtain ⟨er2, rfl⟩ := hw
    have h := y_letF h er2
    refine ⟨([mnC x (A 0) rt S rp rh rl, dayC A d, seaC S (SA 0) (ST 0) sv, dayC SA sd, tabC ST st] ++ (dayR g A d G ++ (dayR g SA sd SG ++ tabR g ST st SGT)) : List va_W), ⟨(sh_150 g x (A 0) rt S rp rh rl A d G S (SA 0) (ST 0) sv SA sd SG ST st SGT), rfl, rfl⟩, ?_⟩
    refine y_bipush (v := 16) C dX6_tryToBook_29 (by decide) ?_
    refine y_icmp_lt (tgt := 37) C dX6_tryToBook_31 rfl (y_e h) (fun c31 h => ?_) (fun c31 h => ?_)
    · refine y_aload_n C dX6_tryToBook_37 1 rfl rfl ?_
      refine y_get (Cn := RX6) (T := TX6) (N := 6) (v := .ref S) C dX6_tryToBook_38 hX6_tryToBook_X6 0 (sh_148 g x (A 0) rt S rp rh rl A d G S (SA 0) (ST 0) sv SA sd SG ST st SGT) rfl 2 (Nat.le_of_ble_eq_true rfl) kX6_tryToBook_3 rfl ?_
      refine y_aload_n C dX6_tryToBook_41 1 rfl rfl ?_
      refine y_get (Cn := RX6) (T := TX6) (N := 6) (v := .ref (A 0)) C dX6_tryToBook_42 hX6_tryToBook_X6 0 (sh_148 g x (A 0) rt S rp rh rl A d G S (SA 0) (ST 0) sv SA sd SG ST st SGT) rfl 0 (Nat.le_of_ble_eq_true rfl) kX6_tryToBook_1 rfl ?_
      refine y_iload_n C dX6_tryToBook_45 2 rfl rfl ?_
      refine y_iload_n C dX6_tryToBook_46 3 rfl rfl ?_
      refine y_iload_n C dX6_tryToBook_47 4 rfl rfl ?_
      refine y_iload C dX6_tryToBook_48 5 rfl ?_
      refine y_callV (As := [.ref (A 0), .int fr, .int to, .int wa, .int bt]) (rest := []) C dX6_tryToBook_50 (c_X4_find g S sv SA sd SG ST st SGT A d G fr to wa bt) rfl rfl rfl rfl ⟨Nat.le_of_ble_eq_true rfl, Nat.le_of_ble_eq_true rfl⟩ gX6_tryToBook_X4_find (nA := 5) (by decide +kernel) rfl (sh_152 g S (SA 0) (ST 0) sv SA sd SG ST st SGT A d G) (Nat.le_of_ble_eq_true rfl) ⟨Nat.le_of_ble_eq_true rfl, Nat.le_of_ble_eq_true rfl⟩ [2, 3, 4, 1, 17, 18, 19, 20, 21, 22, 23, 24, 25, 26, 27, 28, 29, 30, 31, 32, 33, 5, 6, 7, 8, 9, 10, 11, 12, 13, 14, 15, 16] [0] (nB := 34) rfl (by decide +kernel) (sh_151 g x (A 0) rt S rp rh rl A d G S (SA 0) (ST 0) sv SA sd SG ST st SGT) (fun r11 w9 hw => ?_)
      obtain ⟨er11, sv3, sd5, st8, G6, G9, e4, e7, e10, rfl⟩ := hw
      have h := y_letF h er11
      have h := y_letF h e4
      have h := y_letF h e7
      have h := y_letF h e10
      refine ⟨([mnC x (A 0) rt S rp rh rl, dayC A d, seaC S (SA 0) (ST 0) sv3, dayC SA sd5, tabC ST st8] ++ (dayR g A d G ++ (dayR g SA sd5 G6 ++ tabR g ST st8 G9)) : List va_W), (sh_153 g x (A 0) rt S rp rh rl A d G S (SA 0) (ST 0) sv SA sd SG ST st SGT sv3 sd5 G6 st8 G9), ?_⟩
      refine y_if_eq (tgt := 69) C dX6_tryToBook_53 rfl (y_e h) (fun c53 h => ?_) (fun c53 h => ?_)
      · refine y_bipush (v := -5) C dX6_tryToBook_69 (by decide) ?_
        exact HR 71 dX6_tryToBook_71 (-5 : Int32) _ _ _ _ (rfl) (Nat.le_of_ble_eq_true rfl) (Nat.le_of_ble_eq_true rfl) ⟨by rw [h], sv3, sd5, st8, G6, G9, by rw [h], by rw [h], by rw [h], rfl⟩
      · refine y_aload_n C dX6_tryToBook_56 1 rfl rfl ?_
        refine y_get (Cn := RX6) (T := TX6) (N := 6) (v := .ref (A 0)) C dX6_tryToBook_57 hX6_tryToBook_X6 0 (sh_148 g x (A 0) rt S rp rh rl A d G S (SA 0) (ST 0) sv3 SA sd5 G6 ST st8 G9) rfl 0 (Nat.le_of_ble_eq_true rfl) kX6_tryToBook_1 rfl ?_
        refine y_get (Cn := RX0) (T := TX0) (N := 15) (v := .ref (A 17)) C dX6_tryToBook_60 hX6_tryToBook_X0 1 (sh_149 g x (A 0) rt S rp rh rl A d G S (SA 0) (ST 0) sv3 SA sd5 G6 ST st8 G9) rfl 8 (Nat.le_of_ble_eq_true rfl) kX6_tryToBook_2 rfl ?_
        refine y_callV (As := []) (rest := []) C dX6_tryToBook_63 (c_X3_length g (A 17) (A 18) 17 (d.1 8) (G 8) (by decide)) rfl rfl rfl rfl ⟨Nat.le_of_ble_eq_true rfl, Nat.le_of_ble_eq_true rfl⟩ gX6_tryToBook_X3_length (nA := 0) (by decide +kernel) rfl (rowW_recv ⟨_, rfl⟩) (Nat.le_of_ble_eq_true rfl) ⟨Nat.le_of_ble_eq_true rfl, Nat.le_of_ble_eq_true rfl⟩ [13] [0, 1, 2, 3, 4, 5, 6, 7, 8, 9, 10, 11, 12, 14, 15, 16, 17, 18, 19, 20, 21, 22, 23, 24, 25, 26, 27, 28, 29, 30, 31, 32, 33] (nB := 34) rfl (by decide +kernel) (sh_150 g x (A 0) rt S rp rh rl A d G S (SA 0) (ST 0) sv3 SA sd5 G6 ST st8 G9) (fun r12 w9 hw => ?_)
        obtain ⟨er12, rfl⟩ := hw
        have h := y_letF h er12
        refine ⟨([mnC x (A 0) rt S rp rh rl, dayC A d, seaC S (SA 0) (ST 0) sv3, dayC SA sd5, tabC ST st8] ++ (dayR g A d G ++ (dayR g SA sd5 G6 ++ tabR g ST st8 G9)) : List va_W), ⟨(sh_150 g x (A 0) rt S rp rh rl A d G S (SA 0) (ST 0) sv3 SA sd5 G6 ST st8 G9), rfl, rfl⟩, ?_⟩
        refine y_goto (tgt := 71) C dX6_tryToBook_66 rfl ?_
        exact HR 71 dX6_tryToBook_71 r12 _ _ _ _ (rfl) (Nat.le_of_ble_eq_true rfl) (Nat.le_of_ble_eq_true rfl) ⟨by rw [h], sv3, sd5, st8, G6, G9, by rw [h], by rw [h], by rw [h], rfl⟩
    · refine y_bipush (v := -4) C dX6_tryToBook_34 (by decide) ?_
      exact HR 36 dX6_tryToBook_36 (-4 : Int32) _ _ _ _ (rfl) (Nat.le_of_ble_eq_true rfl) (Nat.le_of_ble_eq_true rfl) ⟨by rw [h], sv, sd, st, SG, SGT, by rw [h], by rw [h], by rw [h], rfl⟩
  · refine y_iload C dX6_tryToBook_16 0 rfl ?_
    exact HR 18 dX6_tryToBook_18 r1 _ _ _ _ (rfl) (Nat.le_of_ble_eq_true rfl) (Nat.le_of_ble_eq_true rfl) ⟨by rw [h], sv, sd, st, SG, SGT, by rw [h], by rw [h], by rw [h], rfl⟩
