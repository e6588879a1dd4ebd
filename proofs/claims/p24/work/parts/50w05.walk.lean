theorem dX6_ride_0 : decode cX6_ride 0 = .ok (.aload_n 0, 1) := by decide +kernel
theorem dX6_ride_1 : decode cX6_ride 1 = .ok (.getfield 12, 3) := by decide +kernel
theorem dX6_ride_4 : decode cX6_ride 4 = .ok (.iload_n 1, 1) := by decide +kernel
theorem dX6_ride_5 : decode cX6_ride 5 = .ok (.invokevirtual 96, 3) := by decide +kernel
theorem dX6_ride_8 : decode cX6_ride 8 = .ok (.ifCond .ne 5, 3) := by decide +kernel
theorem dX6_ride_11 : decode cX6_ride 11 = .ok (.iconst (-1), 1) := by decide +kernel
theorem dX6_ride_12 : decode cX6_ride 12 = .ok (.ireturn, 1) := by decide +kernel
theorem dX6_ride_13 : decode cX6_ride 13 = .ok (.iload_n 2, 1) := by decide +kernel
theorem dX6_ride_14 : decode cX6_ride 14 = .ok (.tableswitch 164 0 7 #[46, 58, 70, 82, 94, 106, 129, 152], 46) := by decide +kernel
theorem dX6_ride_60 : decode cX6_ride 60 = .ok (.aload_n 0, 1) := by decide +kernel
theorem dX6_ride_61 : decode cX6_ride 61 = .ok (.getfield 12, 3) := by decide +kernel
theorem dX6_ride_64 : decode cX6_ride 64 = .ok (.getfield 129, 3) := by decide +kernel
theorem dX6_ride_67 : decode cX6_ride 67 = .ok (.iload_n 1, 1) := by decide +kernel
theorem dX6_ride_68 : decode cX6_ride 68 = .ok (.invokevirtual 72, 3) := by decide +kernel
theorem dX6_ride_71 : decode cX6_ride 71 = .ok (.ireturn, 1) := by decide +kernel
theorem dX6_ride_72 : decode cX6_ride 72 = .ok (.aload_n 0, 1) := by decide +kernel
theorem dX6_ride_73 : decode cX6_ride 73 = .ok (.getfield 12, 3) := by decide +kernel
theorem dX6_ride_76 : decode cX6_ride 76 = .ok (.getfield 132, 3) := by decide +kernel
theorem dX6_ride_79 : decode cX6_ride 79 = .ok (.iload_n 1, 1) := by decide +kernel
theorem dX6_ride_80 : decode cX6_ride 80 = .ok (.invokevirtual 72, 3) := by decide +kernel
theorem dX6_ride_83 : decode cX6_ride 83 = .ok (.ireturn, 1) := by decide +kernel
theorem dX6_ride_84 : decode cX6_ride 84 = .ok (.aload_n 0, 1) := by decide +kernel
theorem dX6_ride_85 : decode cX6_ride 85 = .ok (.getfield 12, 3) := by decide +kernel
theorem dX6_ride_88 : decode cX6_ride 88 = .ok (.getfield 135, 3) := by decide +kernel
theorem dX6_ride_91 : decode cX6_ride 91 = .ok (.iload_n 1, 1) := by decide +kernel
theorem dX6_ride_92 : decode cX6_ride 92 = .ok (.invokevirtual 72, 3) := by decide +kernel
theorem dX6_ride_95 : decode cX6_ride 95 = .ok (.ireturn, 1) := by decide +kernel
theorem dX6_ride_96 : decode cX6_ride 96 = .ok (.aload_n 0, 1) := by decide +kernel
theorem dX6_ride_97 : decode cX6_ride 97 = .ok (.getfield 12, 3) := by decide +kernel
theorem dX6_ride_100 : decode cX6_ride 100 = .ok (.getfield 138, 3) := by decide +kernel
theorem dX6_ride_103 : decode cX6_ride 103 = .ok (.iload_n 1, 1) := by decide +kernel
theorem dX6_ride_104 : decode cX6_ride 104 = .ok (.invokevirtual 72, 3) := by decide +kernel
theorem dX6_ride_107 : decode cX6_ride 107 = .ok (.ireturn, 1) := by decide +kernel
theorem dX6_ride_108 : decode cX6_ride 108 = .ok (.aload_n 0, 1) := by decide +kernel
theorem dX6_ride_109 : decode cX6_ride 109 = .ok (.getfield 12, 3) := by decide +kernel
theorem dX6_ride_112 : decode cX6_ride 112 = .ok (.getfield 100, 3) := by decide +kernel
theorem dX6_ride_115 : decode cX6_ride 115 = .ok (.iload_n 1, 1) := by decide +kernel
theorem dX6_ride_116 : decode cX6_ride 116 = .ok (.invokevirtual 72, 3) := by decide +kernel
theorem dX6_ride_119 : decode cX6_ride 119 = .ok (.ireturn, 1) := by decide +kernel
theorem dX6_ride_120 : decode cX6_ride 120 = .ok (.aload_n 0, 1) := by decide +kernel
theorem dX6_ride_121 : decode cX6_ride 121 = .ok (.getfield 19, 3) := by decide +kernel
theorem dX6_ride_124 : decode cX6_ride 124 = .ok (.aload_n 0, 1) := by decide +kernel
theorem dX6_ride_125 : decode cX6_ride 125 = .ok (.getfield 12, 3) := by decide +kernel
theorem dX6_ride_128 : decode cX6_ride 128 = .ok (.invokevirtual 110, 3) := by decide +kernel
theorem dX6_ride_131 : decode cX6_ride 131 = .ok (.aload_n 0, 1) := by decide +kernel
theorem dX6_ride_132 : decode cX6_ride 132 = .ok (.getfield 19, 3) := by decide +kernel
theorem dX6_ride_135 : decode cX6_ride 135 = .ok (.getfield 141, 3) := by decide +kernel
theorem dX6_ride_138 : decode cX6_ride 138 = .ok (.iload_n 1, 1) := by decide +kernel
theorem dX6_ride_139 : decode cX6_ride 139 = .ok (.invokevirtual 72, 3) := by decide +kernel
theorem dX6_ride_142 : decode cX6_ride 142 = .ok (.ireturn, 1) := by decide +kernel
theorem dX6_ride_143 : decode cX6_ride 143 = .ok (.aload_n 0, 1) := by decide +kernel
theorem dX6_ride_144 : decode cX6_ride 144 = .ok (.getfield 19, 3) := by decide +kernel
theorem dX6_ride_147 : decode cX6_ride 147 = .ok (.aload_n 0, 1) := by decide +kernel
theorem dX6_ride_148 : decode cX6_ride 148 = .ok (.getfield 12, 3) := by decide +kernel
theorem dX6_ride_151 : decode cX6_ride 151 = .ok (.invokevirtual 110, 3) := by decide +kernel
theorem dX6_ride_154 : decode cX6_ride 154 = .ok (.aload_n 0, 1) := by decide +kernel
theorem dX6_ride_155 : decode cX6_ride 155 = .ok (.getfield 19, 3) := by decide +kernel
theorem dX6_ride_158 : decode cX6_ride 158 = .ok (.getfield 144, 3) := by decide +kernel
theorem dX6_ride_161 : decode cX6_ride 161 = .ok (.iload_n 1, 1) := by decide +kernel
theorem dX6_ride_162 : decode cX6_ride 162 = .ok (.invokevirtual 72, 3) := by decide +kernel
theorem dX6_ride_165 : decode cX6_ride 165 = .ok (.ireturn, 1) := by decide +kernel
theorem dX6_ride_166 : decode cX6_ride 166 = .ok (.aload_n 0, 1) := by decide +kernel
theorem dX6_ride_167 : decode cX6_ride 167 = .ok (.getfield 12, 3) := by decide +kernel
theorem dX6_ride_170 : decode cX6_ride 170 = .ok (.getfield 147, 3) := by decide +kernel
theorem dX6_ride_173 : decode cX6_ride 173 = .ok (.iload_n 1, 1) := by decide +kernel
theorem dX6_ride_174 : decode cX6_ride 174 = .ok (.invokevirtual 72, 3) := by decide +kernel
theorem dX6_ride_177 : decode cX6_ride 177 = .ok (.ireturn, 1) := by decide +kernel
theorem dX6_ride_178 : decode cX6_ride 178 = .ok (.bipush (-2), 2) := by decide +kernel
theorem dX6_ride_180 : decode cX6_ride 180 = .ok (.ireturn, 1) := by decide +kernel
set_option maxRecDepth 20000 in
theorem ggX6_ride_X0_hasRide : GoodIn wsX6_ride wsX0_hasRide := goodIn_r _ [15, 16, 17, 18, 19, 20, 21, 22, 124, 125, 126, 127, 128, 129, 130, 131, 132, 133, 134, 135, 136, 137, 138, 149, 150] (by decide +kernel) (by decide +kernel)
set_option maxRecDepth 20000 in
theorem gX6_ride_X0_hasRide : GoodIn wsX6_ride (wsV RX6 96 RX0 yX0_hasRide wsX0_hasRide) := goodIn_app (goodIn_of _ (by decide +kernel)) ggX6_ride_X0_hasRide
set_option maxRecDepth 20000 in
theorem ggX6_ride_X3_at : GoodIn wsX6_ride wsX3_at := goodIn_r _ [26, 22, 27, 149, 150] (by decide +kernel) (by decide +kernel)
set_option maxRecDepth 20000 in
theorem gX6_ride_X3_at : GoodIn wsX6_ride (wsV RX6 72 RX3 yX3_at wsX3_at) := goodIn_app (goodIn_of _ (by decide +kernel)) ggX6_ride_X3_at
set_option maxRecDepth 20000 in
theorem ggX6_ride_X5_follow : GoodIn wsX6_ride wsX5_follow := goodIn_r _ [32, 33, 34, 35, 36, 31, 37, 38, 39, 40, 41, 42, 43, 44, 45, 46, 47, 48, 49, 50, 51, 52, 53, 54, 20, 55, 22, 56, 57, 58, 59, 27, 60, 61, 62, 63, 64, 65, 66, 14, 67, 16, 17, 18, 19, 21, 68, 24, 25, 26, 69, 70, 71, 72, 73, 74, 75, 76, 77, 78, 79, 80, 81, 82, 83, 84, 85, 86, 87, 88, 89, 90, 91, 92, 93, 94, 95, 96, 97, 98, 99, 100, 101, 102, 103, 104, 105, 106, 107, 108, 109, 110, 111, 112, 113, 114, 115, 116, 117, 124, 125, 126, 127, 128, 129, 130, 131, 132, 133, 134, 135, 136, 137, 138, 139, 140, 141, 142, 143, 144, 145, 146, 147, 148, 149, 150] (by decide +kernel) (by decide +kernel)
set_option maxRecDepth 20000 in
theorem gX6_ride_X5_follow : GoodIn wsX6_ride (wsV RX6 110 RX5 yX5_follow wsX5_follow) := goodIn_app (goodIn_of _ (by decide +kernel)) ggX6_ride_X5_follow
theorem kX6_ride_1 : Cond.fieldLink RX6 12 "BookedDetours" "day" "LBookedDetours$Day;" ∈ wsX6_ride := List.mem_of_getElem? (i := 1) (by decide +kernel)
theorem kX6_ride_2 : Cond.fieldLink RX6 129 "BookedDetours$Day" "froms" "LBookedDetours$Row;" ∈ wsX6_ride := List.mem_of_getElem? (i := 2) (by decide +kernel)
theorem kX6_ride_3 : Cond.fieldLink RX6 132 "BookedDetours$Day" "tos" "LBookedDetours$Row;" ∈ wsX6_ride := List.mem_of_getElem? (i := 3) (by decide +kernel)
theorem kX6_ride_4 : Cond.fieldLink RX6 135 "BookedDetours$Day" "waits" "LBookedDetours$Row;" ∈ wsX6_ride := List.mem_of_getElem? (i := 4) (by decide +kernel)
theorem kX6_ride_5 : Cond.fieldLink RX6 138 "BookedDetours$Day" "bys" "LBookedDetours$Row;" ∈ wsX6_ride := List.mem_of_getElem? (i := 5) (by decide +kernel)
theorem kX6_ride_6 : Cond.fieldLink RX6 100 "BookedDetours$Day" "stands" "LBookedDetours$Row;" ∈ wsX6_ride := List.mem_of_getElem? (i := 6) (by decide +kernel)
theorem kX6_ride_7 : Cond.fieldLink RX6 19 "BookedDetours" "table" "LBookedDetours$Timetable;" ∈ wsX6_ride := List.mem_of_getElem? (i := 7) (by decide +kernel)
theorem kX6_ride_8 : Cond.fieldLink RX6 141 "BookedDetours$Timetable" "picks" "LBookedDetours$Row;" ∈ wsX6_ride := List.mem_of_getElem? (i := 8) (by decide +kernel)
theorem kX6_ride_9 : Cond.fieldLink RX6 144 "BookedDetours$Timetable" "downs" "LBookedDetours$Row;" ∈ wsX6_ride := List.mem_of_getElem? (i := 9) (by decide +kernel)
theorem kX6_ride_10 : Cond.fieldLink RX6 147 "BookedDetours$Day" "straights" "LBookedDetours$Row;" ∈ wsX6_ride := List.mem_of_getElem? (i := 10) (by decide +kernel)
theorem hX6_ride_X6 : ∀ w ∈ u_ws RX6 TX6 6, w ∈ wsX6_ride := fun _ h => List.mem_cons_of_mem _ (List.mem_append_left _ (List.mem_append_left _ (List.mem_append_left _ (List.mem_append_right _ h))))
theorem hX6_ride_X0 : ∀ w ∈ u_ws RX0 TX0 15, w ∈ wsX6_ride := fun _ h => List.mem_cons_of_mem _ (List.mem_append_left _ (List.mem_append_left _ (List.mem_append_right _ h)))
theorem hX6_ride_X5 : ∀ w ∈ u_ws RX5 TX5 10, w ∈ wsX6_ride := fun _ h => List.mem_cons_of_mem _ (List.mem_append_left _ (List.mem_append_right _ h))
set_option maxHeartbeats 4000000 in
set_option maxRecDepth 100000 in
theorem c_X6_ride (g : yG) (x rs rp rh rl : Nat) (A : Nat → Nat) (d : RV) (G : Nat → Nat → Int32) (T : Nat → Nat) (t : RV) (GT : Nat → Nat → Int32) (ri : Int32) (wh : Int32) : yM g yX6_ride wsX6_ride ({ frames := 4, cells := 0, slots := 0, locals := 94 } : Room) [.ref x, .int ri, .int wh] ([mnC x (A 0) (T 0) rs rp rh rl, dayC A d, tabC T t] ++ (dayR g A d G ++ tabR g T t GT) : List va_W) (fun r w => r = (f_X6_ride d t ri wh).1 ∧ ∃ t' : RV, ∃ GT' : Nat → Nat → Int32, t' = (f_X6_ride d t ri wh).2 ∧ w = ([mnC x (A 0) (T 0) rs rp rh rl, dayC A d, tabC T t'] ++ (dayR g A d G ++ tabR g T t' GT') : List va_W)) 0 0 := by
  refine y_entryI (cc := cX6_ride) (maxL := 3) (by decide +kernel) rfl (Nat.le_of_ble_eq_true rfl) (fun Z C HR => ?_)
  have C : yC Z g cX6_ride 3 wsX6_ride RX6 := C
  have h := f_X6_ride.eq_1 d t ri wh
  show yJ Z _ 0 0 _ 0 [(0, .ref x), (1, .int ri), (2, .int wh)] []
  refine y_aload_n C dX6_ride_0 0 rfl rfl ?_
  refine y_get (Cn := RX6) (T := TX6) (N := 6) (v := .ref (A 0)) C dX6_ride_1 hX6_ride_X6 0 (sh_188 g x (A 0) (T 0) rs rp rh rl A d G T t GT) rfl 0 (Nat.le_of_ble_eq_true rfl) kX6_ride_1 rfl ?_
  refine y_iload_n C dX6_ride_4 1 rfl rfl ?_
  refine y_callV (As := [.int ri]) (rest := []) C dX6_ride_5 (c_X0_hasRide g A d G ri) rfl rfl rfl rfl ⟨Nat.le_of_ble_eq_true rfl, Nat.le_of_ble_eq_true rfl⟩ gX6_ride_X0_hasRide (nA := 1) (by decide +kernel) rfl (sh_18 g A d G) (Nat.le_of_ble_eq_true rfl) ⟨Nat.le_of_ble_eq_true rfl, Nat.le_of_ble_eq_true rfl⟩ [1, 3, 4, 5, 6, 7, 8, 9, 10, 11, 12, 13, 14] [0, 2, 15, 16, 17, 18, 19] (nB := 20) rfl (by decide +kernel) (sh_189 g x (A 0) (T 0) rs rp rh rl A d G T t GT) (fun r1 w9 hw => ?_)
  obtain ⟨er1, rfl⟩ := hw
  have h := y_letF h er1
  refine ⟨([mnC x (A 0) (T 0) rs rp rh rl, dayC A d, tabC T t] ++ (dayR g A d G ++ tabR g T t GT) : List va_W), ⟨(sh_189 g x (A 0) (T 0) rs rp rh rl A d G T t GT), rfl, rfl⟩, ?_⟩
  refine y_if_ne (tgt := 13) C dX6_ride_8 rfl (y_e h) (fun c8 h => ?_) (fun c8 h => ?_)
  · refine y_iload_n C dX6_ride_13 2 rfl rfl ?_
    refine y_if (y_e h) (fun c14_0 h => ?_) (fun c14_0 h => ?_)
    · refine y_tabIn (tgt := 60) C dX6_ride_14 c14_0 (by decide) (by decide) rfl rfl ?_
      refine y_aload_n C dX6_ride_60 0 rfl rfl ?_
      refine y_get (Cn := RX6) (T := TX6) (N := 6) (v := .ref (A 0)) C dX6_ride_61 hX6_ride_X6 0 (sh_188 g x (A 0) (T 0) rs rp rh rl A d G T t GT) rfl 0 (Nat.le_of_ble_eq_true rfl) kX6_ride_1 rfl ?_
      refine y_get (Cn := RX0) (T := TX0) (N := 15) (v := .ref (A 7)) C dX6_ride_64 hX6_ride_X0 1 (sh_190 g x (A 0) (T 0) rs rp rh rl A d G T t GT) rfl 3 (Nat.le_of_ble_eq_true rfl) kX6_ride_2 rfl ?_
      refine y_iload_n C dX6_ride_67 1 rfl rfl ?_
      refine y_callV (As := [.int ri]) (rest := []) C dX6_ride_68 (c_X3_at g (A 7) (A 8) 17 (d.1 3) (G 3) ri (by decide)) rfl rfl rfl rfl ⟨Nat.le_of_ble_eq_true rfl, Nat.le_of_ble_eq_true rfl⟩ gX6_ride_X3_at (nA := 1) (by decide +kernel) rfl (rowW_recv ⟨_, rfl⟩) (Nat.le_of_ble_eq_true rfl) ⟨Nat.le_of_ble_eq_true rfl, Nat.le_of_ble_eq_true rfl⟩ [6] [0, 1, 2, 3, 4, 5, 7, 8, 9, 10, 11, 12, 13, 14, 15, 16, 17, 18, 19] (nB := 20) rfl (by decide +kernel) (sh_191 g x (A 0) (T 0) rs rp rh rl A d G T t GT) (fun r2 w9 hw => ?_)
      obtain ⟨er2, rfl⟩ := hw
      have h := y_letF h er2
      refine ⟨([mnC x (A 0) (T 0) rs rp rh rl, dayC A d, tabC T t] ++ (dayR g A d G ++ tabR g T t GT) : List va_W), ⟨(sh_191 g x (A 0) (T 0) rs rp rh rl A d G T t GT), rfl, rfl⟩, ?_⟩
      exact HR 71 dX6_ride_71 r2 _ _ _ _ (rfl) (Nat.le_of_ble_eq_true rfl) (Nat.le_of_ble_eq_true rfl) ⟨by rw [h], t, GT, by rw [h], rfl⟩
    refine y_if (y_e h) (fun c14_1 h => ?_) (fun c14_1 h => ?_)
    · refine y_tabIn (tgt := 72) C dX6_ride_14 c14_1 (by decide) (by decide) rfl rfl ?_
      refine y_aload_n C dX6_ride_72 0 rfl rfl ?_
      refine y_get (Cn := RX6) (T := TX6) (N := 6) (v := .ref (A 0)) C dX6_ride_73 hX6_ride_X6 0 (sh_188 g x (A 0) (T 0) rs rp rh rl A d G T t GT) rfl 0 (Nat.le_of_ble_eq_true rfl) kX6_ride_1 rfl ?_
      refine y_get (Cn := RX0) (T := TX0) (N := 15) (v := .ref (A 9)) C dX6_ride_76 hX6_ride_X0 1 (sh_190 g x (A 0) (T 0) rs rp rh rl A d G T t GT) rfl 4 (Nat.le_of_ble_eq_true rfl) kX6_ride_3 rfl ?_
      refine y_iload_n C dX6_ride_79 1 rfl rfl ?_
      refine y_callV (As := [.int ri]) (rest := []) C dX6_ride_80 (c_X3_at g (A 9) (A 10) 17 (d.1 4) (G 4) ri (by decide)) rfl rfl rfl rfl ⟨Nat.le_of_ble_eq_true rfl, Nat.le_of_ble_eq_true rfl⟩ gX6_ride_X3_at (nA := 1) (by decide +kernel) rfl (rowW_recv ⟨_, rfl⟩) (Nat.le_of_ble_eq_true rfl) ⟨Nat.le_of_ble_eq_true rfl, Nat.le_of_ble_eq_true rfl⟩ [7] [0, 1, 2, 3, 4, 5, 6, 8, 9, 10, 11, 12, 13, 14, 15, 16, 17, 18, 19] (nB := 20) rfl (by decide +kernel) (sh_192 g x (A 0) (T 0) rs rp rh rl A d G T t GT) (fun r3 w9 hw => ?_)
      obtain ⟨er3, rfl⟩ := hw
      have h := y_letF h er3
      refine ⟨([mnC x (A 0) (T 0) rs rp rh rl, dayC A d, tabC T t] ++ (dayR g A d G ++ tabR g T t GT) : List va_W), ⟨(sh_192 g x (A 0) (T 0) rs rp rh rl A d G T t GT), rfl, rfl⟩, ?_⟩
      exact HR 83 dX6_ride_83 r3 _ _ _ _ (rfl) (Nat.le_of_ble_eq_true rfl) (Nat.le_of_ble_eq_true rfl) ⟨by rw [h], t, GT, by rw [h], rfl⟩
    refine y_if (y_e h) (fun c14_2 h => ?_) (fun c14_2 h => ?_)
    · refine y_tabIn (tgt := 84) C dX6_ride_14 c14_2 (by decide) (by decide) rfl rfl ?_
      refine y_aload_n C dX6_ride_84 0 rfl rfl ?_
      refine y_get (Cn := RX6) (T := TX6) (N := 6) (v := .ref (A 0)) C dX6_ride_85 hX6_ride_X6 0 (sh_188 g x (A 0) (T 0) rs rp rh rl A d G T t GT) rfl 0 (Nat.le_of_ble_eq_true rfl) kX6_ride_1 rfl ?_
      refine y_get (Cn := RX0) (T := TX0) (N := 15) (v := .ref (A 11)) C dX6_ride_88 hX6_ride_X0 1 (sh_190 g x (A 0) (T 0) rs rp rh rl A d G T t GT) rfl 5 (Nat.le_of_ble_eq_true rfl) kX6_ride_4 rfl ?_
      refine y_iload_n C dX6_ride_91 1 rfl rfl ?_
      refine y_callV (As := [.int ri]) (rest := []) C dX6_ride_92 (c_X3_at g (A 11) (A 12) 17 (d.1 5) (G 5) ri (by decide)) rfl rfl rfl rfl ⟨Nat.le_of_ble_eq_true rfl, Nat.le_of_ble_eq_true rfl⟩ gX6_ride_X3_at (nA := 1) (by decide +kernel) rfl (rowW_recv ⟨_, rfl⟩) (Nat.le_of_ble_eq_true rfl) ⟨Nat.le_of_ble_eq_true rfl, Nat.le_of_ble_eq_true rfl⟩ [8] [0, 1, 2, 3, 4, 5, 6, 7, 9, 10, 11, 12, 13, 14, 15, 16, 17, 18, 19] (nB := 20) rfl (by decide +kernel) (sh_193 g x (A 0) (T 0) rs rp rh rl A d G T t GT) (fun r4 w9 hw => ?_)
      obtain ⟨er4, rfl⟩ := hw
      have h := y_letF h er4
      refine ⟨([mnC x (A 0) (T 0) rs rp rh rl, dayC A d, tabC T t] ++ (dayR g A d G ++ tabR g T t GT) : List va_W), ⟨(sh_193 g x (A 0) (T 0) rs rp rh rl A d G T t GT), rfl, rfl⟩, ?_⟩
      exact HR 95 dX6_ride_95 r4 _ _ _ _ (rfl) (Nat.le_of_ble_eq_true rfl) (Nat.le_of_ble_eq_true rfl) ⟨by rw [h], t, GT, by rw [h], rfl⟩
    refine y_if (y_e h) (fun c14_3 h => ?_) (fun c14_3 h => ?_)
    · refine y_tabIn (tgt := 96) C dX6_ride_14 c14_3 (by decide) (by decide) rfl rfl ?_
      refine y_aload_n C dX6_ride_96 0 rfl rfl ?_
      refine y_get (Cn := RX6) (T := TX6) (N := 6) (v := .ref (A 0)) C dX6_ride_97 hX6_ride_X6 0 (sh_188 g x (A 0) (T 0) rs rp rh rl A d G T t GT) rfl 0 (Nat.le_of_ble_eq_true rfl) kX6_ride_1 rfl ?_
      refine y_get (Cn := RX0) (T := TX0) (N := 15) (v := .ref (A 13)) C dX6_ride_100 hX6_ride_X0 1 (sh_190 g x (A 0) (T 0) rs rp rh rl A d G T t GT) rfl 6 (Nat.le_of_ble_eq_true rfl) kX6_ride_5 rfl ?_
      refine y_iload_n C dX6_ride_103 1 rfl rfl ?_
      refine y_callV (As := [.int ri]) (rest := []) C dX6_ride_104 (c_X3_at g (A 13) (A 14) 17 (d.1 6) (G 6) ri (by decide)) rfl rfl rfl rfl ⟨Nat.le_of_ble_eq_true rfl, Nat.le_of_ble_eq_true rfl⟩ gX6_ride_X3_at (nA := 1) (by decide +kernel) rfl (rowW_recv ⟨_, rfl⟩) (Nat.le_of_ble_eq_true rfl) ⟨Nat.le_of_ble_eq_true rfl, Nat.le_of_ble_eq_true rfl⟩ [9] [0, 1, 2, 3, 4, 5, 6, 7, 8, 10, 11, 12, 13, 14, 15, 16, 17, 18, 19] (nB := 20) rfl (by decide +kernel) (sh_194 g x (A 0) (T 0) rs rp rh rl A d G T t GT) (fun r5 w9 hw => ?_)
      obtain ⟨er5, rfl⟩ := hw
      have h := y_letF h er5
      refine ⟨([mnC x (A 0) (T 0) rs rp rh rl, dayC A d, tabC T t] ++ (dayR g A d G ++ tabR g T t GT) : List va_W), ⟨(sh_194 g x (A 0) (T 0) rs rp rh rl A d G T t GT), rfl, rfl⟩, ?_⟩
      exact HR 107 dX6_ride_107 r5 _ _ _ _ (rfl) (Nat.le_of_ble_eq_true rfl) (Nat.le_of_ble_eq_true rfl) ⟨by rw [h], t, GT, by rw [h], rfl⟩
    refine y_if (y_e h) (fun c14_4 h => ?_) (fun c14_4 h => ?_)
    · refine y_tabIn (tgt := 108) C dX6_ride_14 c14_4 (by decide) (by decide) rfl rfl ?_
      refine y_aload_n C dX6_ride_108 0 rfl rfl ?_
      refine y_get (Cn := RX6) (T := TX6) (N := 6) (v := .ref (A 0)) C dX6_ride_109 hX6_ride_X6 0 (sh_188 g x (A 0) (T 0) rs rp rh rl A d G T t GT) rfl 0 (Nat.le_of_ble_eq_true rfl) kX6_ride_1 rfl ?_
      refine y_get (Cn := RX0) (T := TX0) (N := 15) (v := .ref (A 17)) C dX6_ride_112 hX6_ride_X0 1 (sh_190 g x (A 0) (T 0) rs rp rh rl A d G T t GT) rfl 8 (Nat.le_of_ble_eq_true rfl) kX6_ride_6 rfl ?_
      refine y_iload_n C dX6_ride_115 1 rfl rfl ?_
      refine y_callV (As := [.int ri]) (rest := []) C dX6_ride_116 (c_X3_at g (A 17) (A 18) 17 (d.1 8) (G 8) ri (by decide)) rfl rfl rfl rfl ⟨Nat.le_of_ble_eq_true rfl, Nat.le_of_ble_eq_true rfl⟩ gX6_ride_X3_at (nA := 1) (by decide +kernel) rfl (rowW_recv ⟨_, rfl⟩) (Nat.le_of_ble_eq_true rfl) ⟨Nat.le_of_ble_eq_true rfl, Nat.le_of_ble_eq_true rfl⟩ [11] [0, 1, 2, 3, 4, 5, 6, 7, 8, 9, 10, 12, 13, 14, 15, 16, 17, 18, 19] (nB := 20) rfl (by decide +kernel) (sh_195 g x (A 0) (T 0) rs rp rh rl A d G T t GT) (fun r6 w9 hw => ?_)
      obtain ⟨er6, rfl⟩ := hw
      have h := y_letF h er6
      refine ⟨([mnC x (A 0) (T 0) rs rp rh rl, dayC A d, tabC T t] ++ (dayR g A d G ++ tabR g T t GT) : List va_W), ⟨(sh_195 g x (A 0) (T 0) rs rp rh rl A d G T t GT), rfl, rfl⟩, ?_⟩
      exact HR 119 dX6_ride_119 r6 _ _ _ _ (rfl) (Nat.le_of_ble_eq_true rfl) (Nat.le_of_ble_eq_true rfl) ⟨by rw [h], t, GT, by rw [h], rfl⟩
    refine y_if (y_e h) (fun c14_5 h => ?_) (fun c14_5 h => ?_)
    · refine y_tabIn (tgt := 120) C dX6_ride_14 c14_5 (by decide) (by decide) rfl rfl ?_
      refine y_aload_n C dX6_ride_120 0 rfl rfl ?_
      refine y_get (Cn := RX6) (T := TX6) (N := 6) (v := .ref (T 0)) C dX6_ride_121 hX6_ride_X6 0 (sh_188 g x (A 0) (T 0) rs rp rh rl A d G T t GT) rfl 1 (Nat.le_of_ble_eq_true rfl) kX6_ride_7 rfl ?_
      refine y_aload_n C dX6_ride_124 0 rfl rfl ?_
      refine y_get (Cn := RX6) (T := TX6) (N := 6) (v := .ref (A 0)) C dX6_ride_125 hX6_ride_X6 0 (sh_188 g x (A 0) (T 0) rs rp rh rl A d G T t GT) rfl 0 (Nat.le_of_ble_eq_true rfl) kX6_ride_1 rfl ?_
      refine y_callVv (As := [.ref (A 0)]) (rest := []) C dX6_ride_128 (k_X5_follow g T t GT A d G) rfl rfl rfl rfl ⟨Nat.le_of_ble_eq_true rfl, Nat.le_of_ble_eq_true rfl⟩ gX6_ride_X5_follow (nA := 1) (by decide +kernel) rfl (sh_95 g T t GT A d G) (Nat.le_of_ble_eq_true rfl) ⟨Nat.le_of_ble_eq_true rfl, Nat.le_of_ble_eq_true rfl⟩ [2, 1, 15, 16, 17, 18, 19, 3, 4, 5, 6, 7, 8, 9, 10, 11, 12, 13, 14] [0] (nB := 20) rfl (by decide +kernel) (sh_196 g x (A 0) (T 0) rs rp rh rl A d G T t GT) (fun w9 hw => ?_)
      obtain ⟨t7, G8, e9, rfl⟩ := hw
      have h := y_letF h e9
      refine ⟨([mnC x (A 0) (T 0) rs rp rh rl, dayC A d, tabC T t7] ++ (dayR g A d G ++ tabR g T t7 G8) : List va_W), (sh_197 g x (A 0) (T 0) rs rp rh rl A d G T t GT t7 G8), ?_⟩
      refine y_aload_n C dX6_ride_131 0 rfl rfl ?_
      refine y_get (Cn := RX6) (T := TX6) (N := 6) (v := .ref (T 0)) C dX6_ride_132 hX6_ride_X6 0 (sh_188 g x (A 0) (T 0) rs rp rh rl A d G T t7 G8) rfl 1 (Nat.le_of_ble_eq_true rfl) kX6_ride_7 rfl ?_
      refine y_get (Cn := RX5) (T := TX5) (N := 10) (v := .ref (T 7)) C dX6_ride_135 hX6_ride_X5 2 (sh_198 g x (A 0) (T 0) rs rp rh rl A d G T t7 G8) rfl 3 (Nat.le_of_ble_eq_true rfl) kX6_ride_8 rfl ?_
      refine y_iload_n C dX6_ride_138 1 rfl rfl ?_
      refine y_callV (As := [.int ri]) (rest := []) C dX6_ride_139 (c_X3_at g (T 7) (T 8) 17 (t7.1 3) (G8 3) ri (by decide)) rfl rfl rfl rfl ⟨Nat.le_of_ble_eq_true rfl, Nat.le_of_ble_eq_true rfl⟩ gX6_ride_X3_at (nA := 1) (by decide +kernel) rfl (rowW_recv ⟨_, rfl⟩) (Nat.le_of_ble_eq_true rfl) ⟨Nat.le_of_ble_eq_true rfl, Nat.le_of_ble_eq_true rfl⟩ [18] [0, 1, 2, 3, 4, 5, 6, 7, 8, 9, 10, 11, 12, 13, 14, 15, 16, 17, 19] (nB := 20) rfl (by decide +kernel) (sh_199 g x (A 0) (T 0) rs rp rh rl A d G T t7 G8) (fun r10 w9 hw => ?_)
      obtain ⟨er10, rfl⟩ := hw
      have h := y_letF h er10
      refine ⟨([mnC x (A 0) (T 0) rs rp rh rl, dayC A d, tabC T t7] ++ (dayR g A d G ++ tabR g T t7 G8) : List va_W), ⟨(sh_199 g x (A 0) (T 0) rs rp rh rl A d G T t7 G8), rfl, rfl⟩, ?_⟩
      exact HR 142 dX6_ride_142 r10 _ _ _ _ (rfl) (Nat.le_of_ble_eq_true rfl) (Nat.le_of_ble_eq_true rfl) ⟨by rw [h], t7, G8, by rw [h], rfl⟩
    refine y_if (y_e h) (fun c14_6 h => ?_) (fun c14_6 h => ?_)
    · refine y_tabIn (tgt := 143) C dX6_ride_14 c14_6 (by decide) (by decide) rfl rfl ?_
      refine y_aload_n C dX6_ride_143 0 rfl rfl ?_
      refine y_get (Cn := RX6) (T := TX6) (N := 6) (v := .ref (T 0)) C dX6_ride_144 hX6_ride_X6 0 (sh_188 g x (A 0) (T 0) rs rp rh rl A d G T t GT) rfl 1 (Nat.le_of_ble_eq_true rfl) kX6_ride_7 rfl ?_
      refine y_aload_n C dX6_ride_147 0 rfl rfl ?_
      refine y_get (Cn := RX6) (T := TX6) (N := 6) (v := .ref (A 0)) C dX6_ride_148 hX6_ride_X6 0 (sh_188 g x (A 0) (T 0) rs rp rh rl A d G T t GT) rfl 0 (Nat.le_of_ble_eq_true rfl) kX6_ride_1 rfl ?_
      refine y_callVv (As := [.ref (A 0)]) (rest := []) C dX6_ride_151 (k_X5_follow g T t GT A d G) rfl rfl rfl rfl ⟨Nat.le_of_ble_eq_true rfl, Nat.le_of_ble_eq_true rfl⟩ gX6_ride_X5_follow (nA := 1) (by decide +kernel) rfl (sh_95 g T t GT A d G) (Nat.le_of_ble_eq_true rfl) ⟨Nat.le_of_ble_eq_true rfl, Nat.le_of_ble_eq_true rfl⟩ [2, 1, 15, 16, 17, 18, 19, 3, 4, 5, 6, 7, 8, 9, 10, 11, 12, 13, 14] [0] (nB := 20) rfl (by decide +kernel) (sh_196 g x (A 0) (T 0) rs rp rh rl A d G T t GT) (fun w9 hw => ?_)
      obtain ⟨t11, G12, e13, rfl⟩ := hw
      have h := y_letF h e13
      refine ⟨([mnC x (A 0) (T 0) rs rp rh rl, dayC A d, tabC T t11] ++ (dayR g A d G ++ tabR g T t11 G12) : List va_W), (sh_197 g x (A 0) (T 0) rs rp rh rl A d G T t GT t11 G12), ?_⟩
      refine y_aload_n C dX6_ride_154 0 rfl rfl ?_
      refine y_get (Cn := RX6) (T := TX6) (N := 6) (v := .ref (T 0)) C dX6_ride_155 hX6_ride_X6 0 (sh_188 g x (A 0) (T 0) rs rp rh rl A d G T t11 G12) rfl 1 (Nat.le_of_ble_eq_true rfl) kX6_ride_7 rfl ?_
      refine y_get (Cn := RX5) (T := TX5) (N := 10) (v := .ref (T 9)) C dX6_ride_158 hX6_ride_X5 2 (sh_198 g x (A 0) (T 0) rs rp rh rl A d G T t11 G12) rfl 4 (Nat.le_of_ble_eq_true rfl) kX6_ride_9 rfl ?_
      refine y_iload_n C dX6_ride_161 1 rfl rfl ?_
      refine y_callV (As := [.int ri]) (rest := []) C dX6_ride_162 (c_X3_at g (T 9) (T 10) 17 (t11.1 4) (G12 4) ri (by decide)) rfl rfl rfl rfl ⟨Nat.le_of_ble_eq_true rfl, Nat.le_of_ble_eq_true rfl⟩ gX6_ride_X3_at (nA := 1) (by decide +kernel) rfl (rowW_recv ⟨_, rfl⟩) (Nat.le_of_ble_eq_true rfl) ⟨Nat.le_of_ble_eq_true rfl, Nat.le_of_ble_eq_true rfl⟩ [19] [0, 1, 2, 3, 4, 5, 6, 7, 8, 9, 10, 11, 12, 13, 14, 15, 16, 17, 18] (nB := 20) rfl (by decide +kernel) (sh_200 g x (A 0) (T 0) rs rp rh rl A d G T t11 G12) (fun r14 w9 hw => ?_)
      obtain ⟨er14, rfl⟩ := hw
      have h := y_letF h er14
      refine ⟨([mnC x (A 0) (T 0) rs rp rh rl, dayC A d, tabC T t11] ++ (dayR g A d G ++ tabR g T t11 G12) : List va_W), ⟨(sh_200 g x (A 0) (T 0) rs rp rh rl A d G T t11 G12), rfl, rfl⟩, ?_⟩
      exact HR 165 dX6_ride_165 r14 _ _ _ _ (rfl) (Nat.le_of_ble_eq_true rfl) (Nat.le_of_ble_eq_true rfl) ⟨by rw [h], t11, G12, by rw [h], rfl⟩
    refine y_if (y_e h) (fun c14_7 h => ?_) (fun c14_7 h => ?_)
    · refine y_tabIn (tgt := 166) C dX6_ride_14 c14_7 (by decide) (by decide) rfl rfl ?_
      refine y_aload_n C dX6_ride_166 0 rfl rfl ?_
      refine y_get (Cn := RX6) (T := TX6) (N := 6) (v := .ref (A 0)) C dX6_ride_167 hX6_ride_X6 0 (sh_188 g x (A 0) (T 0) rs rp rh rl A d G T t GT) rfl 0 (Nat.le_of_ble_eq_true rfl) kX6_ride_1 rfl ?_
      refine y_get (Cn := RX0) (T := TX0) (N := 15) (v := .ref (A 15)) C dX6_ride_170 hX6_ride_X0 1 (sh_190 g x (A 0) (T 0) rs rp rh rl A d G T t GT) rfl 7 (Nat.le_of_ble_eq_true rfl) kX6_ride_10 rfl ?_
      refine y_iload_n C dX6_ride_173 1 rfl rfl ?_
      refine y_callV (As := [.int ri]) (rest := []) C dX6_ride_174 (c_X3_at g (A 15) (A 16) 17 (d.1 7) (G 7) ri (by decide)) rfl rfl rfl rfl ⟨Nat.le_of_ble_eq_true rfl, Nat.le_of_ble_eq_true rfl⟩ gX6_ride_X3_at (nA := 1) (by decide +kernel) rfl (rowW_recv ⟨_, rfl⟩) (Nat.le_of_ble_eq_true rfl) ⟨Nat.le_of_ble_eq_true rfl, Nat.le_of_ble_eq_true rfl⟩ [10] [0, 1, 2, 3, 4, 5, 6, 7, 8, 9, 11, 12, 13, 14, 15, 16, 17, 18, 19] (nB := 20) rfl (by decide +kernel) (sh_201 g x (A 0) (T 0) rs rp rh rl A d G T t GT) (fun r15 w9 hw => ?_)
      obtain ⟨er15, rfl⟩ := hw
      have h := y_letF h er15
      refine ⟨([mnC x (A 0) (T 0) rs rp rh rl, dayC A d, tabC T t] ++ (dayR g A d G ++ tabR g T t GT) : List va_W), ⟨(sh_201 g x (A 0) (T 0) rs rp rh rl A d G T t GT), rfl, rfl⟩, ?_⟩
      exact HR 177 dX6_ride_177 r15 _ _ _ _ (rfl) (Nat.le_of_ble_eq_true rfl) (Nat.le_of_ble_eq_true rfl) ⟨by rw [h], t, GT, by rw [h], rfl⟩
    refine y_tabOut (tgt := 178) C dX6_ride_14 (by have q0 := lv_neT c14_0 (show (0 : Int32).toInt = 0 by decide); have q1 := lv_neT c14_1 (show (1 : Int32).toInt = 1 by decide); have q2 := lv_neT c14_2 (show (2 : Int32).toInt = 2 by decide); have q3 := lv_neT c14_3 (show (3 : Int32).toInt = 3 by decide); have q4 := lv_neT c14_4 (show (4 : Int32).toInt = 4 by decide); have q5 := lv_neT c14_5 (show (5 : Int32).toInt = 5 by decide); have q6 := lv_neT c14_6 (show (6 : Int32).toInt = 6 by decide); have q7 := lv_neT c14_7 (show (7 : Int32).toInt = 7 by decide); omega) rfl ?_
    refine y_bipush (v := -2) C dX6_ride_178 (by decide) ?_
    exact HR 180 dX6_ride_180 (-2 : Int32) _ _ _ _ (rfl) (Nat.le_of_ble_eq_true rfl) (Nat.le_of_ble_eq_true rfl) ⟨by rw [h], t, GT, by rw [h], rfl⟩
  · refine y_iconst (v := -1) C dX6_ride_11 (by decide) ?_
    exact HR 12 dX6_ride_12 (-1 : Int32) _ _ _ _ (rfl) (Nat.le_of_ble_eq_true rfl) (Nat.le_of_ble_eq_true rfl) ⟨by rw [h], t, GT, by rw [h], rfl⟩
