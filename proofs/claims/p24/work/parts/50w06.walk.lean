theorem dX6_visit_0 : decode cX6_visit 0 = .ok (.iload_n 1, 1) := by decide +kernel
theorem dX6_visit_1 : decode cX6_visit 1 = .ok (.ifCond .lt 17, 3) := by decide +kernel
theorem dX6_visit_4 : decode cX6_visit 4 = .ok (.iload_n 1, 1) := by decide +kernel
theorem dX6_visit_5 : decode cX6_visit 5 = .ok (.aload_n 0, 1) := by decide +kernel
theorem dX6_visit_6 : decode cX6_visit 6 = .ok (.getfield 12, 3) := by decide +kernel
theorem dX6_visit_9 : decode cX6_visit 9 = .ok (.getfield 55, 3) := by decide +kernel
theorem dX6_visit_12 : decode cX6_visit 12 = .ok (.invokevirtual 59, 3) := by decide +kernel
theorem dX6_visit_15 : decode cX6_visit 15 = .ok (.if_icmp .lt 5, 3) := by decide +kernel
theorem dX6_visit_18 : decode cX6_visit 18 = .ok (.iconst (-1), 1) := by decide +kernel
theorem dX6_visit_19 : decode cX6_visit 19 = .ok (.ireturn, 1) := by decide +kernel
theorem dX6_visit_20 : decode cX6_visit 20 = .ok (.aload_n 0, 1) := by decide +kernel
theorem dX6_visit_21 : decode cX6_visit 21 = .ok (.getfield 19, 3) := by decide +kernel
theorem dX6_visit_24 : decode cX6_visit 24 = .ok (.aload_n 0, 1) := by decide +kernel
theorem dX6_visit_25 : decode cX6_visit 25 = .ok (.getfield 12, 3) := by decide +kernel
theorem dX6_visit_28 : decode cX6_visit 28 = .ok (.invokevirtual 110, 3) := by decide +kernel
theorem dX6_visit_31 : decode cX6_visit 31 = .ok (.aload_n 0, 1) := by decide +kernel
theorem dX6_visit_32 : decode cX6_visit 32 = .ok (.getfield 12, 3) := by decide +kernel
theorem dX6_visit_35 : decode cX6_visit 35 = .ok (.getfield 55, 3) := by decide +kernel
theorem dX6_visit_38 : decode cX6_visit 38 = .ok (.iload_n 1, 1) := by decide +kernel
theorem dX6_visit_39 : decode cX6_visit 39 = .ok (.invokevirtual 72, 3) := by decide +kernel
theorem dX6_visit_42 : decode cX6_visit 42 = .ok (.istore_n 3, 1) := by decide +kernel
theorem dX6_visit_43 : decode cX6_visit 43 = .ok (.iload_n 2, 1) := by decide +kernel
theorem dX6_visit_44 : decode cX6_visit 44 = .ok (.tableswitch 103 0 5 #[40, 45, 58, 67, 79, 91], 40) := by decide +kernel
theorem dX6_visit_84 : decode cX6_visit 84 = .ok (.iload_n 3, 1) := by decide +kernel
theorem dX6_visit_85 : decode cX6_visit 85 = .ok (.invokestatic 150, 3) := by decide +kernel
theorem dX6_visit_88 : decode cX6_visit 88 = .ok (.ireturn, 1) := by decide +kernel
theorem dX6_visit_89 : decode cX6_visit 89 = .ok (.iload_n 3, 1) := by decide +kernel
theorem dX6_visit_90 : decode cX6_visit 90 = .ok (.invokestatic 153, 3) := by decide +kernel
theorem dX6_visit_93 : decode cX6_visit 93 = .ok (.ifCond .eq 7, 3) := by decide +kernel
theorem dX6_visit_96 : decode cX6_visit 96 = .ok (.iconst 1, 1) := by decide +kernel
theorem dX6_visit_97 : decode cX6_visit 97 = .ok (.goto 4, 3) := by decide +kernel
theorem dX6_visit_100 : decode cX6_visit 100 = .ok (.iconst 0, 1) := by decide +kernel
theorem dX6_visit_101 : decode cX6_visit 101 = .ok (.ireturn, 1) := by decide +kernel
theorem dX6_visit_102 : decode cX6_visit 102 = .ok (.aload_n 0, 1) := by decide +kernel
theorem dX6_visit_103 : decode cX6_visit 103 = .ok (.getfield 12, 3) := by decide +kernel
theorem dX6_visit_106 : decode cX6_visit 106 = .ok (.iload_n 3, 1) := by decide +kernel
theorem dX6_visit_107 : decode cX6_visit 107 = .ok (.invokevirtual 156, 3) := by decide +kernel
theorem dX6_visit_110 : decode cX6_visit 110 = .ok (.ireturn, 1) := by decide +kernel
theorem dX6_visit_111 : decode cX6_visit 111 = .ok (.aload_n 0, 1) := by decide +kernel
theorem dX6_visit_112 : decode cX6_visit 112 = .ok (.getfield 19, 3) := by decide +kernel
theorem dX6_visit_115 : decode cX6_visit 115 = .ok (.getfield 159, 3) := by decide +kernel
theorem dX6_visit_118 : decode cX6_visit 118 = .ok (.iload_n 1, 1) := by decide +kernel
theorem dX6_visit_119 : decode cX6_visit 119 = .ok (.invokevirtual 72, 3) := by decide +kernel
theorem dX6_visit_122 : decode cX6_visit 122 = .ok (.ireturn, 1) := by decide +kernel
theorem dX6_visit_123 : decode cX6_visit 123 = .ok (.aload_n 0, 1) := by decide +kernel
theorem dX6_visit_124 : decode cX6_visit 124 = .ok (.getfield 19, 3) := by decide +kernel
theorem dX6_visit_127 : decode cX6_visit 127 = .ok (.getfield 162, 3) := by decide +kernel
theorem dX6_visit_130 : decode cX6_visit 130 = .ok (.iload_n 1, 1) := by decide +kernel
theorem dX6_visit_131 : decode cX6_visit 131 = .ok (.invokevirtual 72, 3) := by decide +kernel
theorem dX6_visit_134 : decode cX6_visit 134 = .ok (.ireturn, 1) := by decide +kernel
theorem dX6_visit_135 : decode cX6_visit 135 = .ok (.aload_n 0, 1) := by decide +kernel
theorem dX6_visit_136 : decode cX6_visit 136 = .ok (.getfield 19, 3) := by decide +kernel
theorem dX6_visit_139 : decode cX6_visit 139 = .ok (.getfield 165, 3) := by decide +kernel
theorem dX6_visit_142 : decode cX6_visit 142 = .ok (.iload_n 1, 1) := by decide +kernel
theorem dX6_visit_143 : decode cX6_visit 143 = .ok (.invokevirtual 72, 3) := by decide +kernel
theorem dX6_visit_146 : decode cX6_visit 146 = .ok (.ireturn, 1) := by decide +kernel
theorem dX6_visit_147 : decode cX6_visit 147 = .ok (.bipush (-2), 2) := by decide +kernel
theorem dX6_visit_149 : decode cX6_visit 149 = .ok (.ireturn, 1) := by decide +kernel
set_option maxRecDepth 20000 in
theorem ggX6_visit_X3_length : GoodIn wsX6_visit wsX3_length := goodIn_r _ [11, 12, 145, 146] (by decide +kernel) (by decide +kernel)
set_option maxRecDepth 20000 in
theorem gX6_visit_X3_length : GoodIn wsX6_visit (wsV RX6 59 RX3 yX3_length wsX3_length) := goodIn_app (goodIn_of _ (by decide +kernel)) ggX6_visit_X3_length
set_option maxRecDepth 20000 in
theorem ggX6_visit_X5_follow : GoodIn wsX6_visit wsX5_follow := goodIn_r _ [17, 18, 19, 20, 21, 16, 22, 23, 24, 25, 26, 27, 28, 29, 30, 31, 32, 33, 34, 35, 36, 37, 38, 39, 10, 40, 12, 41, 42, 43, 44, 45, 46, 47, 48, 49, 50, 51, 52, 53, 54, 55, 56, 8, 9, 11, 57, 58, 59, 60, 61, 62, 63, 64, 65, 66, 67, 68, 69, 70, 71, 72, 73, 74, 75, 76, 77, 78, 79, 80, 81, 82, 83, 84, 85, 86, 87, 88, 89, 90, 91, 92, 93, 94, 95, 96, 97, 98, 99, 100, 101, 102, 103, 104, 105, 106, 107, 108, 109, 120, 121, 122, 123, 124, 125, 126, 127, 128, 129, 130, 131, 132, 133, 134, 135, 136, 137, 138, 139, 140, 141, 142, 143, 144, 145, 146] (by decide +kernel) (by decide +kernel)
set_option maxRecDepth 20000 in
theorem gX6_visit_X5_follow : GoodIn wsX6_visit (wsV RX6 110 RX5 yX5_follow wsX5_follow) := goodIn_app (goodIn_of _ (by decide +kernel)) ggX6_visit_X5_follow
set_option maxRecDepth 20000 in
theorem ggX6_visit_X3_at : GoodIn wsX6_visit wsX3_at := goodIn_r _ [60, 12, 45, 145, 146] (by decide +kernel) (by decide +kernel)
set_option maxRecDepth 20000 in
theorem gX6_visit_X3_at : GoodIn wsX6_visit (wsV RX6 72 RX3 yX3_at wsX3_at) := goodIn_app (goodIn_of _ (by decide +kernel)) ggX6_visit_X3_at
set_option maxRecDepth 20000 in
theorem ggX6_visit_X6_rideOf : GoodIn wsX6_visit wsX6_rideOf := goodIn_r _ [75] (by decide +kernel) (by decide +kernel)
set_option maxRecDepth 20000 in
theorem gX6_visit_X6_rideOf : GoodIn wsX6_visit (va_wsS RX6 150 yX6_rideOf wsX6_rideOf) := goodIn_app (goodIn_of _ (by decide +kernel)) ggX6_visit_X6_rideOf
set_option maxRecDepth 20000 in
theorem ggX6_visit_X6_setsDown : GoodIn wsX6_visit wsX6_setsDown := goodIn_r _ [77] (by decide +kernel) (by decide +kernel)
set_option maxRecDepth 20000 in
theorem gX6_visit_X6_setsDown : GoodIn wsX6_visit (va_wsS RX6 153 yX6_setsDown wsX6_setsDown) := goodIn_app (goodIn_of _ (by decide +kernel)) ggX6_visit_X6_setsDown
set_option maxRecDepth 20000 in
theorem ggX6_visit_X0_stopOf : GoodIn wsX6_visit wsX0_stopOf := goodIn_r _ [81, 82, 83, 73, 74, 75, 76, 77, 57, 58, 59, 10, 60, 12, 45, 120, 121, 122, 123, 124, 125, 126, 127, 128, 129, 130, 131, 132, 133, 134, 145, 146] (by decide +kernel) (by decide +kernel)
set_option maxRecDepth 20000 in
theorem gX6_visit_X0_stopOf : GoodIn wsX6_visit (wsV RX6 156 RX0 yX0_stopOf wsX0_stopOf) := goodIn_app (goodIn_of _ (by decide +kernel)) ggX6_visit_X0_stopOf
theorem kX6_visit_1 : Cond.fieldLink RX6 12 "BookedDetours" "day" "LBookedDetours$Day;" ∈ wsX6_visit := List.mem_of_getElem? (i := 1) (by decide +kernel)
theorem kX6_visit_2 : Cond.fieldLink RX6 55 "BookedDetours$Day" "route" "LBookedDetours$Row;" ∈ wsX6_visit := List.mem_of_getElem? (i := 2) (by decide +kernel)
theorem kX6_visit_3 : Cond.fieldLink RX6 19 "BookedDetours" "table" "LBookedDetours$Timetable;" ∈ wsX6_visit := List.mem_of_getElem? (i := 3) (by decide +kernel)
theorem kX6_visit_4 : Cond.fieldLink RX6 159 "BookedDetours$Timetable" "times" "LBookedDetours$Row;" ∈ wsX6_visit := List.mem_of_getElem? (i := 4) (by decide +kernel)
theorem kX6_visit_5 : Cond.fieldLink RX6 162 "BookedDetours$Timetable" "loads" "LBookedDetours$Row;" ∈ wsX6_visit := List.mem_of_getElem? (i := 5) (by decide +kernel)
theorem kX6_visit_6 : Cond.fieldLink RX6 165 "BookedDetours$Timetable" "delays" "LBookedDetours$Row;" ∈ wsX6_visit := List.mem_of_getElem? (i := 6) (by decide +kernel)
theorem hX6_visit_X6 : ∀ w ∈ u_ws RX6 TX6 6, w ∈ wsX6_visit := fun _ h => List.mem_cons_of_mem _ (List.mem_append_left _ (List.mem_append_left _ (List.mem_append_left _ (List.mem_append_right _ h))))
theorem hX6_visit_X0 : ∀ w ∈ u_ws RX0 TX0 15, w ∈ wsX6_visit := fun _ h => List.mem_cons_of_mem _ (List.mem_append_left _ (List.mem_append_left _ (List.mem_append_right _ h)))
theorem hX6_visit_X5 : ∀ w ∈ u_ws RX5 TX5 10, w ∈ wsX6_visit := fun _ h => List.mem_cons_of_mem _ (List.mem_append_left _ (List.mem_append_right _ h))
set_option maxHeartbeats 4000000 in
set_option maxRecDepth 100000 in
theorem c_X6_visit (g : yG) (x rs rp rh rl : Nat) (A : Nat → Nat) (d : RV) (G : Nat → Nat → Int32) (T : Nat → Nat) (t : RV) (GT : Nat → Nat → Int32) (pl : Int32) (wh : Int32) : yM g yX6_visit wsX6_visit ({ frames := 4, cells := 0, slots := 0, locals := 94 } : Room) [.ref x, .int pl, .int wh] ([mnC x (A 0) (T 0) rs rp rh rl, dayC A d, tabC T t] ++ (dayR g A d G ++ tabR g T t GT) : List va_W) (fun r w => r = (f_X6_visit d t pl wh).1 ∧ ∃ t' : RV, ∃ GT' : Nat → Nat → Int32, t' = (f_X6_visit d t pl wh).2 ∧ w = ([mnC x (A 0) (T 0) rs rp rh rl, dayC A d, tabC T t'] ++ (dayR g A d G ++ tabR g T t' GT') : List va_W)) 0 0 := by
  refine y_entryI (cc := cX6_visit) (maxL := 4) (by decide +kernel) rfl (Nat.le_of_ble_eq_true rfl) (fun Z C HR => ?_)
  have C : yC Z g cX6_visit 4 wsX6_visit RX6 := C
  have h := f_X6_visit.eq_1 d t pl wh
  show yJ Z _ 0 0 _ 0 [(0, .ref x), (1, .int pl), (2, .int wh)] []
  refine y_iload_n C dX6_visit_0 1 rfl rfl ?_
  refine y_if_lt (tgt := 18) C dX6_visit_1 rfl (y_e h) (fun c1 h => ?_) (fun c1 h => ?_)
  · refine y_iconst (v := -1) C dX6_visit_18 (by decide) ?_
    exact HR 19 dX6_visit_19 (-1 : Int32) _ _ _ _ (rfl) (Nat.le_of_ble_eq_true rfl) (Nat.le_of_ble_eq_true rfl) ⟨by rw [h], t, GT, by rw [h], rfl⟩
  · refine y_iload_n C dX6_visit_4 1 rfl rfl ?_
    refine y_aload_n C dX6_visit_5 0 rfl rfl ?_
    refine y_get (Cn := RX6) (T := TX6) (N := 6) (v := .ref (A 0)) C dX6_visit_6 hX6_visit_X6 0 (sh_188 g x (A 0) (T 0) rs rp rh rl A d G T t GT) rfl 0 (Nat.le_of_ble_eq_true rfl) kX6_visit_1 rfl ?_
    refine y_get (Cn := RX0) (T := TX0) (N := 15) (v := .ref (A 23)) C dX6_visit_9 hX6_visit_X0 1 (sh_190 g x (A 0) (T 0) rs rp rh rl A d G T t GT) rfl 11 (Nat.le_of_ble_eq_true rfl) kX6_visit_2 rfl ?_
    refine y_callV (As := []) (rest := [.int pl]) C dX6_visit_12 (c_X3_length g (A 23) (A 24) 34 (d.1 11) (G 11) (by decide)) rfl rfl rfl rfl ⟨Nat.le_of_ble_eq_true rfl, Nat.le_of_ble_eq_true rfl⟩ gX6_visit_X3_length (nA := 0) (by decide +kernel) rfl (rowW_recv ⟨_, rfl⟩) (Nat.le_of_ble_eq_true rfl) ⟨Nat.le_of_ble_eq_true rfl, Nat.le_of_ble_eq_true rfl⟩ [14] [0, 1, 2, 3, 4, 5, 6, 7, 8, 9, 10, 11, 12, 13, 15, 16, 17, 18, 19] (nB := 20) rfl (by decide +kernel) (sh_202 g x (A 0) (T 0) rs rp rh rl A d G T t GT) (fun r1 w9 hw => ?_)
    obtain ⟨er1, rfl⟩ := hw
    have h := y_letF h er1
    refine ⟨([mnC x (A 0) (T 0) rs rp rh rl, dayC A d, tabC T t] ++ (dayR g A d G ++ tabR g T t GT) : List va_W), ⟨(sh_202 g x (A 0) (T 0) rs rp rh rl A d G T t GT), rfl, rfl⟩, ?_⟩
    refine y_icmp_lt (tgt := 20) C dX6_visit_15 rfl (y_e h) (fun c15 h => ?_) (fun c15 h => ?_)
    · refine y_aload_n C dX6_visit_20 0 rfl rfl ?_
      refine y_get (Cn := RX6) (T := TX6) (N := 6) (v := .ref (T 0)) C dX6_visit_21 hX6_visit_X6 0 (sh_188 g x (A 0) (T 0) rs rp rh rl A d G T t GT) rfl 1 (Nat.le_of_ble_eq_true rfl) kX6_visit_3 rfl ?_
      refine y_aload_n C dX6_visit_24 0 rfl rfl ?_
      refine y_get (Cn := RX6) (T := TX6) (N := 6) (v := .ref (A 0)) C dX6_visit_25 hX6_visit_X6 0 (sh_188 g x (A 0) (T 0) rs rp rh rl A d G T t GT) rfl 0 (Nat.le_of_ble_eq_true rfl) kX6_visit_1 rfl ?_
      refine y_callVv (As := [.ref (A 0)]) (rest := []) C dX6_visit_28 (k_X5_follow g T t GT A d G) rfl rfl rfl rfl ⟨Nat.le_of_ble_eq_true rfl, Nat.le_of_ble_eq_true rfl⟩ gX6_visit_X5_follow (nA := 1) (by decide +kernel) rfl (sh_95 g T t GT A d G) (Nat.le_of_ble_eq_true rfl) ⟨Nat.le_of_ble_eq_true rfl, Nat.le_of_ble_eq_true rfl⟩ [2, 1, 15, 16, 17, 18, 19, 3, 4, 5, 6, 7, 8, 9, 10, 11, 12, 13, 14] [0] (nB := 20) rfl (by decide +kernel) (sh_196 g x (A 0) (T 0) rs rp rh rl A d G T t GT) (fun w9 hw => ?_)
      obtain ⟨t2, G3, e4, rfl⟩ := hw
      have h := y_letF h e4
      refine ⟨([mnC x (A 0) (T 0) rs rp rh rl, dayC A d, tabC T t2] ++ (dayR g A d G ++ tabR g T t2 G3) : List va_W), (sh_197 g x (A 0) (T 0) rs rp rh rl A d G T t GT t2 G3), ?_⟩
      refine y_aload_n C dX6_visit_31 0 rfl rfl ?_
      refine y_get (Cn := RX6) (T := TX6) (N := 6) (v := .ref (A 0)) C dX6_visit_32 hX6_visit_X6 0 (sh_188 g x (A 0) (T 0) rs rp rh rl A d G T t2 G3) rfl 0 (Nat.le_of_ble_eq_true rfl) kX6_visit_1 rfl ?_
      refine y_get (Cn := RX0) (T := TX0) (N := 15) (v := .ref (A 23)) C dX6_visit_35 hX6_visit_X0 1 (sh_190 g x (A 0) (T 0) rs rp rh rl A d G T t2 G3) rfl 11 (Nat.le_of_ble_eq_true rfl) kX6_visit_2 rfl ?_
      refine y_iload_n C dX6_visit_38 1 rfl rfl ?_
      refine y_callV (As := [.int pl]) (rest := []) C dX6_visit_39 (c_X3_at g (A 23) (A 24) 34 (d.1 11) (G 11) pl (by decide)) rfl rfl rfl rfl ⟨Nat.le_of_ble_eq_true rfl, Nat.le_of_ble_eq_true rfl⟩ gX6_visit_X3_at (nA := 1) (by decide +kernel) rfl (rowW_recv ⟨_, rfl⟩) (Nat.le_of_ble_eq_true rfl) ⟨Nat.le_of_ble_eq_true rfl, Nat.le_of_ble_eq_true rfl⟩ [14] [0, 1, 2, 3, 4, 5, 6, 7, 8, 9, 10, 11, 12, 13, 15, 16, 17, 18, 19] (nB := 20) rfl (by decide +kernel) (sh_202 g x (A 0) (T 0) rs rp rh rl A d G T t2 G3) (fun r5 w9 hw => ?_)
      obtain ⟨er5, rfl⟩ := hw
      have h := y_letF h er5
      refine ⟨([mnC x (A 0) (T 0) rs rp rh rl, dayC A d, tabC T t2] ++ (dayR g A d G ++ tabR g T t2 G3) : List va_W), ⟨(sh_202 g x (A 0) (T 0) rs rp rh rl A d G T t2 G3), rfl, rfl⟩, ?_⟩
      refine y_istore_n (lv' := [(3, .int r5), (0, .ref x), (1, .int pl), (2, .int wh)]) C dX6_visit_42 rfl (Nat.le_of_ble_eq_true rfl) rfl ?_
      refine y_iload_n C dX6_visit_43 3 rfl rfl ?_
      refine y_if (y_e h) (fun c44_0 h => ?_) (fun c44_0 h => ?_)
      · refine y_tabIn (tgt := 84) C dX6_visit_44 c44_0 (by decide) (by decide) rfl rfl ?_
        refine y_iload_n C dX6_visit_84 0 rfl rfl ?_
        refine y_callS (As := [.int r5]) (rest := []) C dX6_visit_85 (c_X6_rideOf g r5) rfl rfl rfl rfl ⟨Nat.le_of_ble_eq_true rfl, Nat.le_of_ble_eq_true rfl⟩ gX6_visit_X6_rideOf (nA := 1) (by decide +kernel) rfl (Nat.le_of_ble_eq_true rfl) ⟨Nat.le_of_ble_eq_true rfl, Nat.le_of_ble_eq_true rfl⟩ [] [0, 1, 2, 3, 4, 5, 6, 7, 8, 9, 10, 11, 12, 13, 14, 15, 16, 17, 18, 19] (nB := 20) rfl (by decide +kernel) (sh_203 g x (A 0) (T 0) rs rp rh rl A d G T t2 G3) (fun r6 w9 hw => ?_)
        obtain ⟨er6, rfl⟩ := hw
        have h := y_letF h er6
        refine ⟨([mnC x (A 0) (T 0) rs rp rh rl, dayC A d, tabC T t2] ++ (dayR g A d G ++ tabR g T t2 G3) : List va_W), ⟨(sh_203 g x (A 0) (T 0) rs rp rh rl A d G T t2 G3), rfl, rfl⟩, ?_⟩
        exact HR 88 dX6_visit_88 r6 _ _ _ _ (rfl) (Nat.le_of_ble_eq_true rfl) (Nat.le_of_ble_eq_true rfl) ⟨by rw [h], t2, G3, by rw [h], rfl⟩
      refine y_if (y_e h) (fun c44_1 h => ?_) (fun c44_1 h => ?_)
      · refine y_tabIn (tgt := 89) C dX6_visit_44 c44_1 (by decide) (by decide) rfl rfl ?_
        refine y_iload_n C dX6_visit_89 0 rfl rfl ?_
        refine y_callS (As := [.int r5]) (rest := []) C dX6_visit_90 (c_X6_setsDown g r5) rfl rfl rfl rfl ⟨Nat.le_of_ble_eq_true rfl, Nat.le_of_ble_eq_true rfl⟩ gX6_visit_X6_setsDown (nA := 1) (by decide +kernel) rfl (Nat.le_of_ble_eq_true rfl) ⟨Nat.le_of_ble_eq_true rfl, Nat.le_of_ble_eq_true rfl⟩ [] [0, 1, 2, 3, 4, 5, 6, 7, 8, 9, 10, 11, 12, 13, 14, 15, 16, 17, 18, 19] (nB := 20) rfl (by decide +kernel) (sh_203 g x (A 0) (T 0) rs rp rh rl A d G T t2 G3) (fun r7 w9 hw => ?_)
        obtain ⟨er7, rfl⟩ := hw
        have h := y_letF h er7
        refine ⟨([mnC x (A 0) (T 0) rs rp rh rl, dayC A d, tabC T t2] ++ (dayR g A d G ++ tabR g T t2 G3) : List va_W), ⟨(sh_203 g x (A 0) (T 0) rs rp rh rl A d G T t2 G3), rfl, rfl⟩, ?_⟩
        refine y_if_eq (tgt := 100) C dX6_visit_93 rfl (y_e h) (fun c93 h => ?_) (fun c93 h => ?_)
        · refine y_iconst (v := 0) C dX6_visit_100 (by decide) ?_
          exact HR 101 dX6_visit_101 (0 : Int32) _ _ _ _ (rfl) (Nat.le_of_ble_eq_true rfl) (Nat.le_of_ble_eq_true rfl) ⟨by rw [h], t2, G3, by rw [h], rfl⟩
        · refine y_iconst (v := 1) C dX6_visit_96 (by decide) ?_
          refine y_goto (tgt := 101) C dX6_visit_97 rfl ?_
          exact HR 101 dX6_visit_101 (1 : Int32) _ _ _ _ (rfl) (Nat.le_of_ble_eq_true rfl) (Nat.le_of_ble_eq_true rfl) ⟨by rw [h], t2, G3, by rw [h], rfl⟩
      refine y_if (y_e h) (fun c44_2 h => ?_) (fun c44_2 h => ?_)
      · refine y_tabIn (tgt := 102) C dX6_visit_44 c44_2 (by decide) (by decide) rfl rfl ?_
        refine y_aload_n C dX6_visit_102 1 rfl rfl ?_
        refine y_get (Cn := RX6) (T := TX6) (N := 6) (v := .ref (A 0)) C dX6_visit_103 hX6_visit_X6 0 (sh_188 g x (A 0) (T 0) rs rp rh rl A d G T t2 G3) rfl 0 (Nat.le_of_ble_eq_true rfl) kX6_visit_1 rfl ?_
        refine y_iload_n C dX6_visit_106 0 rfl rfl ?_
        refine y_callV (As := [.int r5]) (rest := []) C dX6_visit_107 (c_X0_stopOf g A d G r5) rfl rfl rfl rfl ⟨Nat.le_of_ble_eq_true rfl, Nat.le_of_ble_eq_true rfl⟩ gX6_visit_X0_stopOf (nA := 1) (by decide +kernel) rfl (sh_18 g A d G) (Nat.le_of_ble_eq_true rfl) ⟨Nat.le_of_ble_eq_true rfl, Nat.le_of_ble_eq_true rfl⟩ [1, 3, 4, 5, 6, 7, 8, 9, 10, 11, 12, 13, 14] [0, 2, 15, 16, 17, 18, 19] (nB := 20) rfl (by decide +kernel) (sh_189 g x (A 0) (T 0) rs rp rh rl A d G T t2 G3) (fun r8 w9 hw => ?_)
        obtain ⟨er8, rfl⟩ := hw
        have h := y_letF h er8
        refine ⟨([mnC x (A 0) (T 0) rs rp rh rl, dayC A d, tabC T t2] ++ (dayR g A d G ++ tabR g T t2 G3) : List va_W), ⟨(sh_189 g x (A 0) (T 0) rs rp rh rl A d G T t2 G3), rfl, rfl⟩, ?_⟩
        exact HR 110 dX6_visit_110 r8 _ _ _ _ (rfl) (Nat.le_of_ble_eq_true rfl) (Nat.le_of_ble_eq_true rfl) ⟨by rw [h], t2, G3, by rw [h], rfl⟩
      refine y_if (y_e h) (fun c44_3 h => ?_) (fun c44_3 h => ?_)
      · refine y_tabIn (tgt := 111) C dX6_visit_44 c44_3 (by decide) (by decide) rfl rfl ?_
        refine y_aload_n C dX6_visit_111 1 rfl rfl ?_
        refine y_get (Cn := RX6) (T := TX6) (N := 6) (v := .ref (T 0)) C dX6_visit_112 hX6_visit_X6 0 (sh_188 g x (A 0) (T 0) rs rp rh rl A d G T t2 G3) rfl 1 (Nat.le_of_ble_eq_true rfl) kX6_visit_3 rfl ?_
        refine y_get (Cn := RX5) (T := TX5) (N := 10) (v := .ref (T 1)) C dX6_visit_115 hX6_visit_X5 2 (sh_198 g x (A 0) (T 0) rs rp rh rl A d G T t2 G3) rfl 0 (Nat.le_of_ble_eq_true rfl) kX6_visit_4 rfl ?_
        refine y_iload_n C dX6_visit_118 2 rfl rfl ?_
        refine y_callV (As := [.int pl]) (rest := []) C dX6_visit_119 (c_X3_at g (T 1) (T 2) 34 (t2.1 0) (G3 0) pl (by decide)) rfl rfl rfl rfl ⟨Nat.le_of_ble_eq_true rfl, Nat.le_of_ble_eq_true rfl⟩ gX6_visit_X3_at (nA := 1) (by decide +kernel) rfl (rowW_recv ⟨_, rfl⟩) (Nat.le_of_ble_eq_true rfl) ⟨Nat.le_of_ble_eq_true rfl, Nat.le_of_ble_eq_true rfl⟩ [15] [0, 1, 2, 3, 4, 5, 6, 7, 8, 9, 10, 11, 12, 13, 14, 16, 17, 18, 19] (nB := 20) rfl (by decide +kernel) (sh_204 g x (A 0) (T 0) rs rp rh rl A d G T t2 G3) (fun r9 w9 hw => ?_)
        obtain ⟨er9, rfl⟩ := hw
        have h := y_letF h er9
        refine ⟨([mnC x (A 0) (T 0) rs rp rh rl, dayC A d, tabC T t2] ++ (dayR g A d G ++ tabR g T t2 G3) : List va_W), ⟨(sh_204 g x (A 0) (T 0) rs rp rh rl A d G T t2 G3), rfl, rfl⟩, ?_⟩
        exact HR 122 dX6_visit_122 r9 _ _ _ _ (rfl) (Nat.le_of_ble_eq_true rfl) (Nat.le_of_ble_eq_true rfl) ⟨by rw [h], t2, G3, by rw [h], rfl⟩
      refine y_if (y_e h) (fun c44_4 h => ?_) (fun c44_4 h => ?_)
      · refine y_tabIn (tgt := 123) C dX6_visit_44 c44_4 (by decide) (by decide) rfl rfl ?_
        refine y_aload_n C dX6_visit_123 1 rfl rfl ?_
        refine y_get (Cn := RX6) (T := TX6) (N := 6) (v := .ref (T 0)) C dX6_visit_124 hX6_visit_X6 0 (sh_188 g x (A 0) (T 0) rs rp rh rl A d G T t2 G3) rfl 1 (Nat.le_of_ble_eq_true rfl) kX6_visit_3 rfl ?_
        refine y_get (Cn := RX5) (T := TX5) (N := 10) (v := .ref (T 3)) C dX6_visit_127 hX6_visit_X5 2 (sh_198 g x (A 0) (T 0) rs rp rh rl A d G T t2 G3) rfl 1 (Nat.le_of_ble_eq_true rfl) kX6_visit_5 rfl ?_
        refine y_iload_n C dX6_visit_130 2 rfl rfl ?_
        refine y_callV (As := [.int pl]) (rest := []) C dX6_visit_131 (c_X3_at g (T 3) (T 4) 34 (t2.1 1) (G3 1) pl (by decide)) rfl rfl rfl rfl ⟨Nat.le_of_ble_eq_true rfl, Nat.le_of_ble_eq_true rfl⟩ gX6_visit_X3_at (nA := 1) (by decide +kernel) rfl (rowW_recv ⟨_, rfl⟩) (Nat.le_of_ble_eq_true rfl) ⟨Nat.le_of_ble_eq_true rfl, Nat.le_of_ble_eq_true rfl⟩ [16] [0, 1, 2, 3, 4, 5, 6, 7, 8, 9, 10, 11, 12, 13, 14, 15, 17, 18, 19] (nB := 20) rfl (by decide +kernel) (sh_205 g x (A 0) (T 0) rs rp rh rl A d G T t2 G3) (fun r10 w9 hw => ?_)
        obtain ⟨er10, rfl⟩ := hw
        have h := y_letF h er10
        refine ⟨([mnC x (A 0) (T 0) rs rp rh rl, dayC A d, tabC T t2] ++ (dayR g A d G ++ tabR g T t2 G3) : List va_W), ⟨(sh_205 g x (A 0) (T 0) rs rp rh rl A d G T t2 G3), rfl, rfl⟩, ?_⟩
        exact HR 134 dX6_visit_134 r10 _ _ _ _ (rfl) (Nat.le_of_ble_eq_true rfl) (Nat.le_of_ble_eq_true rfl) ⟨by rw [h], t2, G3, by rw [h], rfl⟩
      refine y_if (y_e h) (fun c44_5 h => ?_) (fun c44_5 h => ?_)
      · refine y_tabIn (tgt := 135) C dX6_visit_44 c44_5 (by decide) (by decide) rfl rfl ?_
        refine y_aload_n C dX6_visit_135 1 rfl rfl ?_
        refine y_get (Cn := RX6) (T := TX6) (N := 6) (v := .ref (T 0)) C dX6_visit_136 hX6_visit_X6 0 (sh_188 g x (A 0) (T 0) rs rp rh rl A d G T t2 G3) rfl 1 (Nat.le_of_ble_eq_true rfl) kX6_visit_3 rfl ?_
        refine y_get (Cn := RX5) (T := TX5) (N := 10) (v := .ref (T 5)) C dX6_visit_139 hX6_visit_X5 2 (sh_198 g x (A 0) (T 0) rs rp rh rl A d G T t2 G3) rfl 2 (Nat.le_of_ble_eq_true rfl) kX6_visit_6 rfl ?_
        refine y_iload_n C dX6_visit_142 2 rfl rfl ?_
        refine y_callV (As := [.int pl]) (rest := []) C dX6_visit_143 (c_X3_at g (T 5) (T 6) 34 (t2.1 2) (G3 2) pl (by decide)) rfl rfl rfl rfl ⟨Nat.le_of_ble_eq_true rfl, Nat.le_of_ble_eq_true rfl⟩ gX6_visit_X3_at (nA := 1) (by decide +kernel) rfl (rowW_recv ⟨_, rfl⟩) (Nat.le_of_ble_eq_true rfl) ⟨Nat.le_of_ble_eq_true rfl, Nat.le_of_ble_eq_true rfl⟩ [17] [0, 1, 2, 3, 4, 5, 6, 7, 8, 9, 10, 11, 12, 13, 14, 15, 16, 18, 19] (nB := 20) rfl (by decide +kernel) (sh_206 g x (A 0) (T 0) rs rp rh rl A d G T t2 G3) (fun r11 w9 hw => ?_)
        obtain ⟨er11, rfl⟩ := hw
        have h := y_letF h er11
        refine ⟨([mnC x (A 0) (T 0) rs rp rh rl, dayC A d, tabC T t2] ++ (dayR g A d G ++ tabR g T t2 G3) : List va_W), ⟨(sh_206 g x (A 0) (T 0) rs rp rh rl A d G T t2 G3), rfl, rfl⟩, ?_⟩
        exact HR 146 dX6_visit_146 r11 _ _ _ _ (rfl) (Nat.le_of_ble_eq_true rfl) (Nat.le_of_ble_eq_true rfl) ⟨by rw [h], t2, G3, by rw [h], rfl⟩
      refine y_tabOut (tgt := 147) C dX6_visit_44 (by have q0 := lv_neT c44_0 (show (0 : Int32).toInt = 0 by decide); have q1 := lv_neT c44_1 (show (1 : Int32).toInt = 1 by decide); have q2 := lv_neT c44_2 (show (2 : Int32).toInt = 2 by decide); have q3 := lv_neT c44_3 (show (3 : Int32).toInt = 3 by decide); have q4 := lv_neT c44_4 (show (4 : Int32).toInt = 4 by decide); have q5 := lv_neT c44_5 (show (5 : Int32).toInt = 5 by decide); omega) rfl ?_
      refine y_bipush (v := -2) C dX6_visit_147 (by decide) ?_
      exact HR 149 dX6_visit_149 (-2 : Int32) _ _ _ _ (rfl) (Nat.le_of_ble_eq_true rfl) (Nat.le_of_ble_eq_true rfl) ⟨by rw [h], t2, G3, by rw [h], rfl⟩
    · refine y_iconst (v := -1) C dX6_visit_18 (by decide) ?_
      exact HR 19 dX6_visit_19 (-1 : Int32) _ _ _ _ (rfl) (Nat.le_of_ble_eq_true rfl) (Nat.le_of_ble_eq_true rfl) ⟨by rw [h], t, GT, by rw [h], rfl⟩
