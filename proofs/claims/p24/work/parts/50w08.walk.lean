theorem dX6_count_0 : decode cX6_count 0 = .ok (.iload_n 1, 1) := by decide +kernel
theorem dX6_count_1 : decode cX6_count 1 = .ok (.tableswitch 232 0 13 #[71, 82, 93, 104, 112, 121, 130, 139, 158, 177, 189, 201, 213, 224], 71) := by decide +kernel
theorem dX6_count_72 : decode cX6_count 72 = .ok (.aload_n 0, 1) := by decide +kernel
theorem dX6_count_73 : decode cX6_count 73 = .ok (.getfield 12, 3) := by decide +kernel
theorem dX6_count_76 : decode cX6_count 76 = .ok (.getfield 79, 3) := by decide +kernel
theorem dX6_count_79 : decode cX6_count 79 = .ok (.invokevirtual 59, 3) := by decide +kernel
theorem dX6_count_82 : decode cX6_count 82 = .ok (.ireturn, 1) := by decide +kernel
theorem dX6_count_83 : decode cX6_count 83 = .ok (.aload_n 0, 1) := by decide +kernel
theorem dX6_count_84 : decode cX6_count 84 = .ok (.getfield 12, 3) := by decide +kernel
theorem dX6_count_87 : decode cX6_count 87 = .ok (.getfield 100, 3) := by decide +kernel
theorem dX6_count_90 : decode cX6_count 90 = .ok (.invokevirtual 59, 3) := by decide +kernel
theorem dX6_count_93 : decode cX6_count 93 = .ok (.ireturn, 1) := by decide +kernel
theorem dX6_count_94 : decode cX6_count 94 = .ok (.aload_n 0, 1) := by decide +kernel
theorem dX6_count_95 : decode cX6_count 95 = .ok (.getfield 12, 3) := by decide +kernel
theorem dX6_count_98 : decode cX6_count 98 = .ok (.getfield 55, 3) := by decide +kernel
theorem dX6_count_101 : decode cX6_count 101 = .ok (.invokevirtual 59, 3) := by decide +kernel
theorem dX6_count_104 : decode cX6_count 104 = .ok (.ireturn, 1) := by decide +kernel
theorem dX6_count_105 : decode cX6_count 105 = .ok (.aload_n 0, 1) := by decide +kernel
theorem dX6_count_106 : decode cX6_count 106 = .ok (.getfield 12, 3) := by decide +kernel
theorem dX6_count_109 : decode cX6_count 109 = .ok (.getfield 106, 3) := by decide +kernel
theorem dX6_count_112 : decode cX6_count 112 = .ok (.ireturn, 1) := by decide +kernel
theorem dX6_count_113 : decode cX6_count 113 = .ok (.aload_n 0, 1) := by decide +kernel
theorem dX6_count_114 : decode cX6_count 114 = .ok (.aload_n 0, 1) := by decide +kernel
theorem dX6_count_115 : decode cX6_count 115 = .ok (.getfield 12, 3) := by decide +kernel
theorem dX6_count_118 : decode cX6_count 118 = .ok (.invokevirtual 171, 3) := by decide +kernel
theorem dX6_count_121 : decode cX6_count 121 = .ok (.ireturn, 1) := by decide +kernel
theorem dX6_count_122 : decode cX6_count 122 = .ok (.aload_n 0, 1) := by decide +kernel
theorem dX6_count_123 : decode cX6_count 123 = .ok (.getfield 12, 3) := by decide +kernel
theorem dX6_count_126 : decode cX6_count 126 = .ok (.iconst 1, 1) := by decide +kernel
theorem dX6_count_127 : decode cX6_count 127 = .ok (.invokevirtual 175, 3) := by decide +kernel
theorem dX6_count_130 : decode cX6_count 130 = .ok (.ireturn, 1) := by decide +kernel
theorem dX6_count_131 : decode cX6_count 131 = .ok (.aload_n 0, 1) := by decide +kernel
theorem dX6_count_132 : decode cX6_count 132 = .ok (.getfield 12, 3) := by decide +kernel
theorem dX6_count_135 : decode cX6_count 135 = .ok (.iconst 2, 1) := by decide +kernel
theorem dX6_count_136 : decode cX6_count 136 = .ok (.invokevirtual 175, 3) := by decide +kernel
theorem dX6_count_139 : decode cX6_count 139 = .ok (.ireturn, 1) := by decide +kernel
theorem dX6_count_140 : decode cX6_count 140 = .ok (.aload_n 0, 1) := by decide +kernel
theorem dX6_count_141 : decode cX6_count 141 = .ok (.getfield 19, 3) := by decide +kernel
theorem dX6_count_144 : decode cX6_count 144 = .ok (.aload_n 0, 1) := by decide +kernel
theorem dX6_count_145 : decode cX6_count 145 = .ok (.getfield 12, 3) := by decide +kernel
theorem dX6_count_148 : decode cX6_count 148 = .ok (.invokevirtual 110, 3) := by decide +kernel
theorem dX6_count_151 : decode cX6_count 151 = .ok (.aload_n 0, 1) := by decide +kernel
theorem dX6_count_152 : decode cX6_count 152 = .ok (.getfield 19, 3) := by decide +kernel
theorem dX6_count_155 : decode cX6_count 155 = .ok (.getfield 178, 3) := by decide +kernel
theorem dX6_count_158 : decode cX6_count 158 = .ok (.ireturn, 1) := by decide +kernel
theorem dX6_count_159 : decode cX6_count 159 = .ok (.aload_n 0, 1) := by decide +kernel
theorem dX6_count_160 : decode cX6_count 160 = .ok (.getfield 19, 3) := by decide +kernel
theorem dX6_count_163 : decode cX6_count 163 = .ok (.aload_n 0, 1) := by decide +kernel
theorem dX6_count_164 : decode cX6_count 164 = .ok (.getfield 12, 3) := by decide +kernel
theorem dX6_count_167 : decode cX6_count 167 = .ok (.invokevirtual 110, 3) := by decide +kernel
theorem dX6_count_170 : decode cX6_count 170 = .ok (.aload_n 0, 1) := by decide +kernel
theorem dX6_count_171 : decode cX6_count 171 = .ok (.getfield 19, 3) := by decide +kernel
theorem dX6_count_174 : decode cX6_count 174 = .ok (.getfield 181, 3) := by decide +kernel
theorem dX6_count_177 : decode cX6_count 177 = .ok (.ireturn, 1) := by decide +kernel
theorem dX6_count_178 : decode cX6_count 178 = .ok (.aload_n 0, 1) := by decide +kernel
theorem dX6_count_179 : decode cX6_count 179 = .ok (.getfield 12, 3) := by decide +kernel
theorem dX6_count_182 : decode cX6_count 182 = .ok (.getfield 69, 3) := by decide +kernel
theorem dX6_count_185 : decode cX6_count 185 = .ok (.iconst 0, 1) := by decide +kernel
theorem dX6_count_186 : decode cX6_count 186 = .ok (.invokevirtual 72, 3) := by decide +kernel
theorem dX6_count_189 : decode cX6_count 189 = .ok (.ireturn, 1) := by decide +kernel
theorem dX6_count_190 : decode cX6_count 190 = .ok (.aload_n 0, 1) := by decide +kernel
theorem dX6_count_191 : decode cX6_count 191 = .ok (.getfield 12, 3) := by decide +kernel
theorem dX6_count_194 : decode cX6_count 194 = .ok (.getfield 69, 3) := by decide +kernel
theorem dX6_count_197 : decode cX6_count 197 = .ok (.iconst 1, 1) := by decide +kernel
theorem dX6_count_198 : decode cX6_count 198 = .ok (.invokevirtual 72, 3) := by decide +kernel
theorem dX6_count_201 : decode cX6_count 201 = .ok (.ireturn, 1) := by decide +kernel
theorem dX6_count_202 : decode cX6_count 202 = .ok (.aload_n 0, 1) := by decide +kernel
theorem dX6_count_203 : decode cX6_count 203 = .ok (.getfield 12, 3) := by decide +kernel
theorem dX6_count_206 : decode cX6_count 206 = .ok (.getfield 69, 3) := by decide +kernel
theorem dX6_count_209 : decode cX6_count 209 = .ok (.iconst 2, 1) := by decide +kernel
theorem dX6_count_210 : decode cX6_count 210 = .ok (.invokevirtual 72, 3) := by decide +kernel
theorem dX6_count_213 : decode cX6_count 213 = .ok (.ireturn, 1) := by decide +kernel
theorem dX6_count_214 : decode cX6_count 214 = .ok (.aload_n 0, 1) := by decide +kernel
theorem dX6_count_215 : decode cX6_count 215 = .ok (.getfield 33, 3) := by decide +kernel
theorem dX6_count_218 : decode cX6_count 218 = .ok (.getfield 123, 3) := by decide +kernel
theorem dX6_count_221 : decode cX6_count 221 = .ok (.invokevirtual 59, 3) := by decide +kernel
theorem dX6_count_224 : decode cX6_count 224 = .ok (.ireturn, 1) := by decide +kernel
theorem dX6_count_225 : decode cX6_count 225 = .ok (.aload_n 0, 1) := by decide +kernel
theorem dX6_count_226 : decode cX6_count 226 = .ok (.getfield 40, 3) := by decide +kernel
theorem dX6_count_229 : decode cX6_count 229 = .ok (.getfield 184, 3) := by decide +kernel
theorem dX6_count_232 : decode cX6_count 232 = .ok (.ireturn, 1) := by decide +kernel
theorem dX6_count_233 : decode cX6_count 233 = .ok (.bipush (-2), 2) := by decide +kernel
theorem dX6_count_235 : decode cX6_count 235 = .ok (.ireturn, 1) := by decide +kernel
set_option maxRecDepth 20000 in
theorem ggX6_count_X3_length : GoodIn wsX6_count wsX3_length := goodIn_r _ [18, 19, 159, 160] (by decide +kernel) (by decide +kernel)
set_option maxRecDepth 20000 in
theorem gX6_count_X3_length : GoodIn wsX6_count (wsV RX6 59 RX3 yX3_length wsX3_length) := goodIn_app (goodIn_of _ (by decide +kernel)) ggX6_count_X3_length
set_option maxRecDepth 20000 in
theorem ggX6_count_X6_overOf : GoodIn wsX6_count wsX6_overOf := goodIn_r _ [24, 6, 25, 26, 27, 28, 29, 30, 31, 32, 33, 34, 35, 36, 37, 38, 39, 40, 41, 42, 43, 44, 45, 46, 47, 48, 49, 50, 51, 52, 17, 53, 19, 54, 55, 56, 57, 58, 59, 60, 61, 62, 63, 64, 65, 66, 67, 68, 69, 15, 16, 18, 70, 71, 72, 73, 74, 75, 76, 77, 78, 79, 80, 81, 82, 83, 84, 85, 86, 23, 87, 88, 89, 90, 91, 92, 93, 94, 95, 96, 97, 98, 99, 100, 101, 102, 103, 104, 105, 106, 107, 108, 109, 110, 111, 112, 113, 114, 115, 116, 117, 118, 119, 120, 121, 124, 125, 126, 127, 128, 129, 145, 146, 147, 148, 149, 150, 151, 152, 153, 154, 130, 131, 132, 133, 134, 135, 136, 137, 138, 139, 140, 141, 142, 143, 144, 159, 160] (by decide +kernel) (by decide +kernel)
set_option maxRecDepth 20000 in
theorem gX6_count_X6_overOf : GoodIn wsX6_count (wsV RX6 171 RX6 yX6_overOf wsX6_overOf) := goodIn_app (goodIn_of _ (by decide +kernel)) ggX6_count_X6_overOf
set_option maxRecDepth 20000 in
theorem ggX6_count_X0_ridesThatStand : GoodIn wsX6_count wsX0_ridesThatStand := goodIn_r _ [67, 68, 69, 15, 16, 17, 18, 19, 70, 71, 72, 73, 58, 130, 131, 132, 133, 134, 135, 136, 137, 138, 139, 140, 141, 142, 143, 144, 159, 160] (by decide +kernel) (by decide +kernel)
set_option maxRecDepth 20000 in
theorem gX6_count_X0_ridesThatStand : GoodIn wsX6_count (wsV RX6 175 RX0 yX0_ridesThatStand wsX0_ridesThatStand) := goodIn_app (goodIn_of _ (by decide +kernel)) ggX6_count_X0_ridesThatStand
set_option maxRecDepth 20000 in
theorem ggX6_count_X5_follow : GoodIn wsX6_count wsX5_follow := goodIn_r _ [30, 31, 32, 33, 34, 29, 35, 36, 37, 38, 39, 40, 41, 42, 43, 44, 45, 46, 47, 48, 49, 50, 51, 52, 17, 53, 19, 54, 55, 56, 57, 58, 59, 60, 61, 62, 63, 64, 65, 66, 67, 68, 69, 15, 16, 18, 70, 71, 72, 73, 74, 75, 76, 77, 78, 79, 80, 81, 82, 83, 84, 85, 86, 23, 87, 88, 89, 90, 91, 92, 93, 94, 95, 96, 97, 98, 99, 100, 101, 102, 103, 104, 105, 106, 107, 108, 109, 110, 111, 112, 113, 114, 115, 116, 117, 118, 119, 120, 121, 130, 131, 132, 133, 134, 135, 136, 137, 138, 139, 140, 141, 142, 143, 144, 145, 146, 147, 148, 149, 150, 151, 152, 153, 154, 159, 160] (by decide +kernel) (by decide +kernel)
set_option maxRecDepth 20000 in
theorem gX6_count_X5_follow : GoodIn wsX6_count (wsV RX6 110 RX5 yX5_follow wsX5_follow) := goodIn_app (goodIn_of _ (by decide +kernel)) ggX6_count_X5_follow
set_option maxRecDepth 20000 in
theorem ggX6_count_X3_at : GoodIn wsX6_count wsX3_at := goodIn_r _ [73, 19, 58, 159, 160] (by decide +kernel) (by decide +kernel)
set_option maxRecDepth 20000 in
theorem gX6_count_X3_at : GoodIn wsX6_count (wsV RX6 72 RX3 yX3_at wsX3_at) := goodIn_app (goodIn_of _ (by decide +kernel)) ggX6_count_X3_at
theorem kX6_count_1 : Cond.fieldLink RX6 12 "BookedDetours" "day" "LBookedDetours$Day;" ∈ wsX6_count := List.mem_of_getElem? (i := 1) (by decide +kernel)
theorem kX6_count_2 : Cond.fieldLink RX6 79 "BookedDetours$Day" "xs" "LBookedDetours$Row;" ∈ wsX6_count := List.mem_of_getElem? (i := 2) (by decide +kernel)
theorem kX6_count_3 : Cond.fieldLink RX6 100 "BookedDetours$Day" "stands" "LBookedDetours$Row;" ∈ wsX6_count := List.mem_of_getElem? (i := 3) (by decide +kernel)
theorem kX6_count_4 : Cond.fieldLink RX6 55 "BookedDetours$Day" "route" "LBookedDetours$Row;" ∈ wsX6_count := List.mem_of_getElem? (i := 4) (by decide +kernel)
theorem kX6_count_5 : Cond.fieldLink RX6 106 "BookedDetours$Day" "now" "I" ∈ wsX6_count := List.mem_of_getElem? (i := 5) (by decide +kernel)
theorem kX6_count_6 : Cond.fieldLink RX6 19 "BookedDetours" "table" "LBookedDetours$Timetable;" ∈ wsX6_count := List.mem_of_getElem? (i := 6) (by decide +kernel)
theorem kX6_count_7 : Cond.fieldLink RX6 178 "BookedDetours$Timetable" "driving" "I" ∈ wsX6_count := List.mem_of_getElem? (i := 7) (by decide +kernel)
theorem kX6_count_8 : Cond.fieldLink RX6 181 "BookedDetours$Timetable" "waiting" "I" ∈ wsX6_count := List.mem_of_getElem? (i := 8) (by decide +kernel)
theorem kX6_count_9 : Cond.fieldLink RX6 69 "BookedDetours$Day" "settings" "LBookedDetours$Row;" ∈ wsX6_count := List.mem_of_getElem? (i := 9) (by decide +kernel)
theorem kX6_count_10 : Cond.fieldLink RX6 33 "BookedDetours" "pad" "LBookedDetours$Pad;" ∈ wsX6_count := List.mem_of_getElem? (i := 10) (by decide +kernel)
theorem kX6_count_11 : Cond.fieldLink RX6 123 "BookedDetours$Pad" "signs" "LBookedDetours$Row;" ∈ wsX6_count := List.mem_of_getElem? (i := 11) (by decide +kernel)
theorem kX6_count_12 : Cond.fieldLink RX6 40 "BookedDetours" "history" "LBookedDetours$History;" ∈ wsX6_count := List.mem_of_getElem? (i := 12) (by decide +kernel)
theorem kX6_count_13 : Cond.fieldLink RX6 184 "BookedDetours$History" "length" "I" ∈ wsX6_count := List.mem_of_getElem? (i := 13) (by decide +kernel)
theorem hX6_count_X6 : ∀ w ∈ u_ws RX6 TX6 6, w ∈ wsX6_count := fun _ h => List.mem_cons_of_mem _ (List.mem_append_left _ (List.mem_append_left _ (List.mem_append_left _ (List.mem_append_left _ (List.mem_append_left _ (List.mem_append_right _ h))))))
theorem hX6_count_X0 : ∀ w ∈ u_ws RX0 TX0 15, w ∈ wsX6_count := fun _ h => List.mem_cons_of_mem _ (List.mem_append_left _ (List.mem_append_left _ (List.mem_append_left _ (List.mem_append_left _ (List.mem_append_right _ h)))))
theorem hX6_count_X5 : ∀ w ∈ u_ws RX5 TX5 10, w ∈ wsX6_count := fun _ h => List.mem_cons_of_mem _ (List.mem_append_left _ (List.mem_append_left _ (List.mem_append_left _ (List.mem_append_right _ h))))
theorem hX6_count_X2 : ∀ w ∈ u_ws RX2 TX2 2, w ∈ wsX6_count := fun _ h => List.mem_cons_of_mem _ (List.mem_append_left _ (List.mem_append_left _ (List.mem_append_right _ h)))
theorem hX6_count_X1 : ∀ w ∈ u_ws RX1 TX1 2, w ∈ wsX6_count := fun _ h => List.mem_cons_of_mem _ (List.mem_append_left _ (List.mem_append_right _ h))
set_option maxHeartbeats 4000000 in
set_option maxRecDepth 100000 in
theorem c_X6_count (g : yG) (x rs rl : Nat) (A : Nat → Nat) (d : RV) (G : Nat → Nat → Int32) (T : Nat → Nat) (t : RV) (GT : Nat → Nat → Int32) (P : Nat → Nat) (p : RV) (GP : Nat → Nat → Int32) (hst arr : Nat) (hn : Int32) (wh : Int32) : yM g yX6_count wsX6_count ({ frames := 5, cells := 0, slots := 0, locals := 115 } : Room) [.ref x, .int wh] ([mnC x (A 0) (T 0) rs (P 0) hst rl, dayC A d, tabC T t, padC P p, hcC hst arr hn] ++ (dayR g A d G ++ (tabR g T t GT ++ padR g P p GP)) : List va_W) (fun r w => r = (f_X6_count d t p hn wh).1 ∧ ∃ t' : RV, ∃ GT' : Nat → Nat → Int32, t' = (f_X6_count d t p hn wh).2 ∧ w = ([mnC x (A 0) (T 0) rs (P 0) hst rl, dayC A d, tabC T t', padC P p, hcC hst arr hn] ++ (dayR g A d G ++ (tabR g T t' GT' ++ padR g P p GP)) : List va_W)) 0 0 := by
  refine y_entryI (cc := cX6_count) (maxL := 2) (by decide +kernel) rfl (Nat.le_of_ble_eq_true rfl) (fun Z C HR => ?_)
  have C : yC Z g cX6_count 2 wsX6_count RX6 := C
  have h := f_X6_count.eq_1 d t p hn wh
  show yJ Z _ 0 0 _ 0 [(0, .ref x), (1, .int wh)] []
  refine y_iload_n C dX6_count_0 1 rfl rfl ?_
  refine y_if (y_e h) (fun c1_0 h => ?_) (fun c1_0 h => ?_)
  · refine y_tabIn (tgt := 72) C dX6_count_1 c1_0 (by decide) (by decide) rfl rfl ?_
    refine y_aload_n C dX6_count_72 0 rfl rfl ?_
    refine y_get (Cn := RX6) (T := TX6) (N := 6) (v := .ref (A 0)) C dX6_count_73 hX6_count_X6 0 (sh_210 g x (A 0) (T 0) rs (P 0) hst rl A d G T t GT P p GP hst arr hn) rfl 0 (Nat.le_of_ble_eq_true rfl) kX6_count_1 rfl ?_
    refine y_get (Cn := RX0) (T := TX0) (N := 15) (v := .ref (A 3)) C dX6_count_76 hX6_count_X0 1 (sh_211 g x (A 0) (T 0) rs (P 0) hst rl A d G T t GT P p GP hst arr hn) rfl 1 (Nat.le_of_ble_eq_true rfl) kX6_count_2 rfl ?_
    refine y_callV (As := []) (rest := []) C dX6_count_79 (c_X3_length g (A 3) (A 4) 12 (d.1 1) (G 1) (by decide)) rfl rfl rfl rfl ⟨Nat.le_of_ble_eq_true rfl, Nat.le_of_ble_eq_true rfl⟩ gX6_count_X3_length (nA := 0) (by decide +kernel) rfl (rowW_recv ⟨_, rfl⟩) (Nat.le_of_ble_eq_true rfl) ⟨Nat.le_of_ble_eq_true rfl, Nat.le_of_ble_eq_true rfl⟩ [6] [0, 1, 2, 3, 4, 5, 7, 8, 9, 10, 11, 12, 13, 14, 15, 16, 17, 18, 19, 20, 21, 22, 23] (nB := 24) rfl (by decide +kernel) (sh_212 g x (A 0) (T 0) rs (P 0) hst rl A d G T t GT P p GP hst arr hn) (fun r1 w9 hw => ?_)
    obtain ⟨er1, rfl⟩ := hw
    have h := y_letF h er1
    refine ⟨([mnC x (A 0) (T 0) rs (P 0) hst rl, dayC A d, tabC T t, padC P p, hcC hst arr hn] ++ (dayR g A d G ++ (tabR g T t GT ++ padR g P p GP)) : List va_W), ⟨(sh_212 g x (A 0) (T 0) rs (P 0) hst rl A d G T t GT P p GP hst arr hn), rfl, rfl⟩, ?_⟩
    exact HR 82 dX6_count_82 r1 _ _ _ _ (rfl) (Nat.le_of_ble_eq_true rfl) (Nat.le_of_ble_eq_true rfl) ⟨by rw [h], t, GT, by rw [h], rfl⟩
  refine y_if (y_e h) (fun c1_1 h => ?_) (fun c1_1 h => ?_)
  · refine y_tabIn (tgt := 83) C dX6_count_1 c1_1 (by decide) (by decide) rfl rfl ?_
    refine y_aload_n C dX6_count_83 0 rfl rfl ?_
    refine y_get (Cn := RX6) (T := TX6) (N := 6) (v := .ref (A 0)) C dX6_count_84 hX6_count_X6 0 (sh_210 g x (A 0) (T 0) rs (P 0) hst rl A d G T t GT P p GP hst arr hn) rfl 0 (Nat.le_of_ble_eq_true rfl) kX6_count_1 rfl ?_
    refine y_get (Cn := RX0) (T := TX0) (N := 15) (v := .ref (A 17)) C dX6_count_87 hX6_count_X0 1 (sh_211 g x (A 0) (T 0) rs (P 0) hst rl A d G T t GT P p GP hst arr hn) rfl 8 (Nat.le_of_ble_eq_true rfl) kX6_count_3 rfl ?_
    refine y_callV (As := []) (rest := []) C dX6_count_90 (c_X3_length g (A 17) (A 18) 17 (d.1 8) (G 8) (by decide)) rfl rfl rfl rfl ⟨Nat.le_of_ble_eq_true rfl, Nat.le_of_ble_eq_true rfl⟩ gX6_count_X3_length (nA := 0) (by decide +kernel) rfl (rowW_recv ⟨_, rfl⟩) (Nat.le_of_ble_eq_true rfl) ⟨Nat.le_of_ble_eq_true rfl, Nat.le_of_ble_eq_true rfl⟩ [13] [0, 1, 2, 3, 4, 5, 6, 7, 8, 9, 10, 11, 12, 14, 15, 16, 17, 18, 19, 20, 21, 22, 23] (nB := 24) rfl (by decide +kernel) (sh_213 g x (A 0) (T 0) rs (P 0) hst rl A d G T t GT P p GP hst arr hn) (fun r2 w9 hw => ?_)
    obtain ⟨er2, rfl⟩ := hw
    have h := y_letF h er2
    refine ⟨([mnC x (A 0) (T 0) rs (P 0) hst rl, dayC A d, tabC T t, padC P p, hcC hst arr hn] ++ (dayR g A d G ++ (tabR g T t GT ++ padR g P p GP)) : List va_W), ⟨(sh_213 g x (A 0) (T 0) rs (P 0) hst rl A d G T t GT P p GP hst arr hn), rfl, rfl⟩, ?_⟩
    exact HR 93 dX6_count_93 r2 _ _ _ _ (rfl) (Nat.le_of_ble_eq_true rfl) (Nat.le_of_ble_eq_true rfl) ⟨by rw [h], t, GT, by rw [h], rfl⟩
  refine y_if (y_e h) (fun c1_2 h => ?_) (fun c1_2 h => ?_)
  · refine y_tabIn (tgt := 94) C dX6_count_1 c1_2 (by decide) (by decide) rfl rfl ?_
    refine y_aload_n C dX6_count_94 0 rfl rfl ?_
    refine y_get (Cn := RX6) (T := TX6) (N := 6) (v := .ref (A 0)) C dX6_count_95 hX6_count_X6 0 (sh_210 g x (A 0) (T 0) rs (P 0) hst rl A d G T t GT P p GP hst arr hn) rfl 0 (Nat.le_of_ble_eq_true rfl) kX6_count_1 rfl ?_
    refine y_get (Cn := RX0) (T := TX0) (N := 15) (v := .ref (A 23)) C dX6_count_98 hX6_count_X0 1 (sh_211 g x (A 0) (T 0) rs (P 0) hst rl A d G T t GT P p GP hst arr hn) rfl 11 (Nat.le_of_ble_eq_true rfl) kX6_count_4 rfl ?_
    refine y_callV (As := []) (rest := []) C dX6_count_101 (c_X3_length g (A 23) (A 24) 34 (d.1 11) (G 11) (by decide)) rfl rfl rfl rfl ⟨Nat.le_of_ble_eq_true rfl, Nat.le_of_ble_eq_true rfl⟩ gX6_count_X3_length (nA := 0) (by decide +kernel) rfl (rowW_recv ⟨_, rfl⟩) (Nat.le_of_ble_eq_true rfl) ⟨Nat.le_of_ble_eq_true rfl, Nat.le_of_ble_eq_true rfl⟩ [16] [0, 1, 2, 3, 4, 5, 6, 7, 8, 9, 10, 11, 12, 13, 14, 15, 17, 18, 19, 20, 21, 22, 23] (nB := 24) rfl (by decide +kernel) (sh_214 g x (A 0) (T 0) rs (P 0) hst rl A d G T t GT P p GP hst arr hn) (fun r3 w9 hw => ?_)
    obtain ⟨er3, rfl⟩ := hw
    have h := y_letF h er3
    refine ⟨([mnC x (A 0) (T 0) rs (P 0) hst rl, dayC A d, tabC T t, padC P p, hcC hst arr hn] ++ (dayR g A d G ++ (tabR g T t GT ++ padR g P p GP)) : List va_W), ⟨(sh_214 g x (A 0) (T 0) rs (P 0) hst rl A d G T t GT P p GP hst arr hn), rfl, rfl⟩, ?_⟩
    exact HR 104 dX6_count_104 r3 _ _ _ _ (rfl) (Nat.le_of_ble_eq_true rfl) (Nat.le_of_ble_eq_true rfl) ⟨by rw [h], t, GT, by rw [h], rfl⟩
  refine y_if (y_e h) (fun c1_3 h => ?_) (fun c1_3 h => ?_)
  · refine y_tabIn (tgt := 105) C dX6_count_1 c1_3 (by decide) (by decide) rfl rfl ?_
    refine y_aload_n C dX6_count_105 0 rfl rfl ?_
    refine y_get (Cn := RX6) (T := TX6) (N := 6) (v := .ref (A 0)) C dX6_count_106 hX6_count_X6 0 (sh_210 g x (A 0) (T 0) rs (P 0) hst rl A d G T t GT P p GP hst arr hn) rfl 0 (Nat.le_of_ble_eq_true rfl) kX6_count_1 rfl ?_
    refine y_get (Cn := RX0) (T := TX0) (N := 15) (v := .int (d.2 0)) C dX6_count_109 hX6_count_X0 1 (sh_211 g x (A 0) (T 0) rs (P 0) hst rl A d G T t GT P p GP hst arr hn) rfl 12 (Nat.le_of_ble_eq_true rfl) kX6_count_5 rfl ?_
    exact HR 112 dX6_count_112 (d.2 0) _ _ _ _ (rfl) (Nat.le_of_ble_eq_true rfl) (Nat.le_of_ble_eq_true rfl) ⟨by rw [h], t, GT, by rw [h], rfl⟩
  refine y_if (y_e h) (fun c1_4 h => ?_) (fun c1_4 h => ?_)
  · refine y_tabIn (tgt := 113) C dX6_count_1 c1_4 (by decide) (by decide) rfl rfl ?_
    refine y_aload_n C dX6_count_113 0 rfl rfl ?_
    refine y_aload_n C dX6_count_114 0 rfl rfl ?_
    refine y_get (Cn := RX6) (T := TX6) (N := 6) (v := .ref (A 0)) C dX6_count_115 hX6_count_X6 0 (sh_210 g x (A 0) (T 0) rs (P 0) hst rl A d G T t GT P p GP hst arr hn) rfl 0 (Nat.le_of_ble_eq_true rfl) kX6_count_1 rfl ?_
    refine y_callV (As := [.ref (A 0)]) (rest := []) C dX6_count_118 (c_X6_overOf g x (A 0) rs (P 0) hst rl T t GT A d G) rfl rfl rfl rfl ⟨Nat.le_of_ble_eq_true rfl, Nat.le_of_ble_eq_true rfl⟩ gX6_count_X6_overOf (nA := 1) (by decide +kernel) rfl (sh_216 g x (A 0) (T 0) rs (P 0) hst rl T t GT A d G) (Nat.le_of_ble_eq_true rfl) ⟨Nat.le_of_ble_eq_true rfl, Nat.le_of_ble_eq_true rfl⟩ [0, 2, 1, 17, 18, 19, 20, 21, 5, 6, 7, 8, 9, 10, 11, 12, 13, 14, 15, 16] [3, 4, 22, 23] (nB := 24) rfl (by decide +kernel) (sh_215 g x (A 0) (T 0) rs (P 0) hst rl A d G T t GT P p GP hst arr hn) (fun r7 w9 hw => ?_)
    obtain ⟨er7, t4, G5, e6, rfl⟩ := hw
    have h := y_letF h er7
    have h := y_letF h e6
    refine ⟨([mnC x (A 0) (T 0) rs (P 0) hst rl, dayC A d, tabC T t4, padC P p, hcC hst arr hn] ++ (dayR g A d G ++ (tabR g T t4 G5 ++ padR g P p GP)) : List va_W), (sh_217 g x (A 0) (T 0) rs (P 0) hst rl A d G T t GT P p GP hst arr hn t4 G5), ?_⟩
    exact HR 121 dX6_count_121 r7 _ _ _ _ (rfl) (Nat.le_of_ble_eq_true rfl) (Nat.le_of_ble_eq_true rfl) ⟨by rw [h], t4, G5, by rw [h], rfl⟩
  refine y_if (y_e h) (fun c1_5 h => ?_) (fun c1_5 h => ?_)
  · refine y_tabIn (tgt := 122) C dX6_count_1 c1_5 (by decide) (by decide) rfl rfl ?_
    refine y_aload_n C dX6_count_122 0 rfl rfl ?_
    refine y_get (Cn := RX6) (T := TX6) (N := 6) (v := .ref (A 0)) C dX6_count_123 hX6_count_X6 0 (sh_210 g x (A 0) (T 0) rs (P 0) hst rl A d G T t GT P p GP hst arr hn) rfl 0 (Nat.le_of_ble_eq_true rfl) kX6_count_1 rfl ?_
    refine y_iconst (v := 1) C dX6_count_126 (by decide) ?_
    refine y_callV (As := [.int (1 : Int32)]) (rest := []) C dX6_count_127 (c_X0_ridesThatStand g A d G (1 : Int32)) rfl rfl rfl rfl ⟨Nat.le_of_ble_eq_true rfl, Nat.le_of_ble_eq_true rfl⟩ gX6_count_X0_ridesThatStand (nA := 1) (by decide +kernel) rfl (sh_18 g A d G) (Nat.le_of_ble_eq_true rfl) ⟨Nat.le_of_ble_eq_true rfl, Nat.le_of_ble_eq_true rfl⟩ [1, 5, 6, 7, 8, 9, 10, 11, 12, 13, 14, 15, 16] [0, 2, 3, 4, 17, 18, 19, 20, 21, 22, 23] (nB := 24) rfl (by decide +kernel) (sh_218 g x (A 0) (T 0) rs (P 0) hst rl A d G T t GT P p GP hst arr hn) (fun r8 w9 hw => ?_)
    obtain ⟨er8, rfl⟩ := hw
    have h := y_letF h er8
    refine ⟨([mnC x (A 0) (T 0) rs (P 0) hst rl, dayC A d, tabC T t, padC P p, hcC hst arr hn] ++ (dayR g A d G ++ (tabR g T t GT ++ padR g P p GP)) : List va_W), ⟨(sh_218 g x (A 0) (T 0) rs (P 0) hst rl A d G T t GT P p GP hst arr hn), rfl, rfl⟩, ?_⟩
    exact HR 130 dX6_count_130 r8 _ _ _ _ (rfl) (Nat.le_of_ble_eq_true rfl) (Nat.le_of_ble_eq_true rfl) ⟨by rw [h], t, GT, by rw [h], rfl⟩
  refine y_if (y_e h) (fun c1_6 h => ?_) (fun c1_6 h => ?_)
  · refine y_tabIn (tgt := 131) C dX6_count_1 c1_6 (by decide) (by decide) rfl rfl ?_
    refine y_aload_n C dX6_count_131 0 rfl rfl ?_
    refine y_get (Cn := RX6) (T := TX6) (N := 6) (v := .ref (A 0)) C dX6_count_132 hX6_count_X6 0 (sh_210 g x (A 0) (T 0) rs (P 0) hst rl A d G T t GT P p GP hst arr hn) rfl 0 (Nat.le_of_ble_eq_true rfl) kX6_count_1 rfl ?_
    refine y_iconst (v := 2) C dX6_count_135 (by decide) ?_
    refine y_callV (As := [.int (2 : Int32)]) (rest := []) C dX6_count_136 (c_X0_ridesThatStand g A d G (2 : Int32)) rfl rfl rfl rfl ⟨Nat.le_of_ble_eq_true rfl, Nat.le_of_ble_eq_true rfl⟩ gX6_count_X0_ridesThatStand (nA := 1) (by decide +kernel) rfl (sh_18 g A d G) (Nat.le_of_ble_eq_true rfl) ⟨Nat.le_of_ble_eq_true rfl, Nat.le_of_ble_eq_true rfl⟩ [1, 5, 6, 7, 8, 9, 10, 11, 12, 13, 14, 15, 16] [0, 2, 3, 4, 17, 18, 19, 20, 21, 22, 23] (nB := 24) rfl (by decide +kernel) (sh_218 g x (A 0) (T 0) rs (P 0) hst rl A d G T t GT P p GP hst arr hn) (fun r9 w9 hw => ?_)
    obtain ⟨er9, rfl⟩ := hw
    have h := y_letF h er9
    refine ⟨([mnC x (A 0) (T 0) rs (P 0) hst rl, dayC A d, tabC T t, padC P p, hcC hst arr hn] ++ (dayR g A d G ++ (tabR g T t GT ++ padR g P p GP)) : List va_W), ⟨(sh_218 g x (A 0) (T 0) rs (P 0) hst rl A d G T t GT P p GP hst arr hn), rfl, rfl⟩, ?_⟩
    exact HR 139 dX6_count_139 r9 _ _ _ _ (rfl) (Nat.le_of_ble_eq_true rfl) (Nat.le_of_ble_eq_true rfl) ⟨by rw [h], t, GT, by rw [h], rfl⟩
  refine y_if (y_e h) (fun c1_7 h => ?_) (fun c1_7 h => ?_)
  · refine y_tabIn (tgt := 140) C dX6_count_1 c1_7 (by decide) (by decide) rfl rfl ?_
    refine y_aload_n C dX6_count_140 0 rfl rfl ?_
    refine y_get (Cn := RX6) (T := TX6) (N := 6) (v := .ref (T 0)) C dX6_count_141 hX6_count_X6 0 (sh_210 g x (A 0) (T 0) rs (P 0) hst rl A d G T t GT P p GP hst arr hn) rfl 1 (Nat.le_of_ble_eq_true rfl) kX6_count_6 rfl ?_
    refine y_aload_n C dX6_count_144 0 rfl rfl ?_
    refine y_get (Cn := RX6) (T := TX6) (N := 6) (v := .ref (A 0)) C dX6_count_145 hX6_count_X6 0 (sh_210 g x (A 0) (T 0) rs (P 0) hst rl A d G T t GT P p GP hst arr hn) rfl 0 (Nat.le_of_ble_eq_true rfl) kX6_count_1 rfl ?_
    refine y_callVv (As := [.ref (A 0)]) (rest := []) C dX6_count_148 (k_X5_follow g T t GT A d G) rfl rfl rfl rfl ⟨Nat.le_of_ble_eq_true rfl, Nat.le_of_ble_eq_true rfl⟩ gX6_count_X5_follow (nA := 1) (by decide +kernel) rfl (sh_95 g T t GT A d G) (Nat.le_of_ble_eq_true rfl) ⟨Nat.le_of_ble_eq_true rfl, Nat.le_of_ble_eq_true rfl⟩ [2, 1, 17, 18, 19, 20, 21, 5, 6, 7, 8, 9, 10, 11, 12, 13, 14, 15, 16] [0, 3, 4, 22, 23] (nB := 24) rfl (by decide +kernel) (sh_219 g x (A 0) (T 0) rs (P 0) hst rl A d G T t GT P p GP hst arr hn) (fun w9 hw => ?_)
    obtain ⟨t10, G11, e12, rfl⟩ := hw
    have h := y_letF h e12
    refine ⟨([mnC x (A 0) (T 0) rs (P 0) hst rl, dayC A d, tabC T t10, padC P p, hcC hst arr hn] ++ (dayR g A d G ++ (tabR g T t10 G11 ++ padR g P p GP)) : List va_W), (sh_220 g x (A 0) (T 0) rs (P 0) hst rl A d G T t GT P p GP hst arr hn t10 G11), ?_⟩
    refine y_aload_n C dX6_count_151 0 rfl rfl ?_
    refine y_get (Cn := RX6) (T := TX6) (N := 6) (v := .ref (T 0)) C dX6_count_152 hX6_count_X6 0 (sh_210 g x (A 0) (T 0) rs (P 0) hst rl A d G T t10 G11 P p GP hst arr hn) rfl 1 (Nat.le_of_ble_eq_true rfl) kX6_count_6 rfl ?_
    refine y_get (Cn := RX5) (T := TX5) (N := 10) (v := .int (t10.2 3)) C dX6_count_155 hX6_count_X5 2 (sh_221 g x (A 0) (T 0) rs (P 0) hst rl A d G T t10 G11 P p GP hst arr hn) rfl 8 (Nat.le_of_ble_eq_true rfl) kX6_count_7 rfl ?_
    exact HR 158 dX6_count_158 (t10.2 3) _ _ _ _ (rfl) (Nat.le_of_ble_eq_true rfl) (Nat.le_of_ble_eq_true rfl) ⟨by rw [h], t10, G11, by rw [h], rfl⟩
  refine y_if (y_e h) (fun c1_8 h => ?_) (fun c1_8 h => ?_)
  · refine y_tabIn (tgt := 159) C dX6_count_1 c1_8 (by decide) (by decide) rfl rfl ?_
    refine y_aload_n C dX6_count_159 0 rfl rfl ?_
    refine y_get (Cn := RX6) (T := TX6) (N := 6) (v := .ref (T 0)) C dX6_count_160 hX6_count_X6 0 (sh_210 g x (A 0) (T 0) rs (P 0) hst rl A d G T t GT P p GP hst arr hn) rfl 1 (Nat.le_of_ble_eq_true rfl) kX6_count_6 rfl ?_
    refine y_aload_n C dX6_count_163 0 rfl rfl ?_
    refine y_get (Cn := RX6) (T := TX6) (N := 6) (v := .ref (A 0)) C dX6_count_164 hX6_count_X6 0 (sh_210 g x (A 0) (T 0) rs (P 0) hst rl A d G T t GT P p GP hst arr hn) rfl 0 (Nat.le_of_ble_eq_true rfl) kX6_count_1 rfl ?_
    refine y_callVv (As := [.ref (A 0)]) (rest := []) C dX6_count_167 (k_X5_follow g T t GT A d G) rfl rfl rfl rfl ⟨Nat.le_of_ble_eq_true rfl, Nat.le_of_ble_eq_true rfl⟩ gX6_count_X5_follow (nA := 1) (by decide +kernel) rfl (sh_95 g T t GT A d G) (Nat.le_of_ble_eq_true rfl) ⟨Nat.le_of_ble_eq_true rfl, Nat.le_of_ble_eq_true rfl⟩ [2, 1, 17, 18, 19, 20, 21, 5, 6, 7, 8, 9, 10, 11, 12, 13, 14, 15, 16] [0, 3, 4, 22, 23] (nB := 24) rfl (by decide +kernel) (sh_219 g x (A 0) (T 0) rs (P 0) hst rl A d G T t GT P p GP hst arr hn) (fun w9 hw => ?_)
    obtain ⟨t13, G14, e15, rfl⟩ := hw
    have h := y_letF h e15
    refine ⟨([mnC x (A 0) (T 0) rs (P 0) hst rl, dayC A d, tabC T t13, padC P p, hcC hst arr hn] ++ (dayR g A d G ++ (tabR g T t13 G14 ++ padR g P p GP)) : List va_W), (sh_220 g x (A 0) (T 0) rs (P 0) hst rl A d G T t GT P p GP hst arr hn t13 G14), ?_⟩
    refine y_aload_n C dX6_count_170 0 rfl rfl ?_
    refine y_get (Cn := RX6) (T := TX6) (N := 6) (v := .ref (T 0)) C dX6_count_171 hX6_count_X6 0 (sh_210 g x (A 0) (T 0) rs (P 0) hst rl A d G T t13 G14 P p GP hst arr hn) rfl 1 (Nat.le_of_ble_eq_true rfl) kX6_count_6 rfl ?_
    refine y_get (Cn := RX5) (T := TX5) (N := 10) (v := .int (t13.2 4)) C dX6_count_174 hX6_count_X5 2 (sh_221 g x (A 0) (T 0) rs (P 0) hst rl A d G T t13 G14 P p GP hst arr hn) rfl 9 (Nat.le_of_ble_eq_true rfl) kX6_count_8 rfl ?_
    exact HR 177 dX6_count_177 (t13.2 4) _ _ _ _ (rfl) (Nat.le_of_ble_eq_true rfl) (Nat.le_of_ble_eq_true rfl) ⟨by rw [h], t13, G14, by rw [h], rfl⟩
  refine y_if (y_e h) (fun c1_9 h => ?_) (fun c1_9 h => ?_)
  · refine y_tabIn (tgt := 178) C dX6_count_1 c1_9 (by decide) (by decide) rfl rfl ?_
    refine y_aload_n C dX6_count_178 0 rfl rfl ?_
    refine y_get (Cn := RX6) (T := TX6) (N := 6) (v := .ref (A 0)) C dX6_count_179 hX6_count_X6 0 (sh_210 g x (A 0) (T 0) rs (P 0) hst rl A d G T t GT P p GP hst arr hn) rfl 0 (Nat.le_of_ble_eq_true rfl) kX6_count_1 rfl ?_
    refine y_get (Cn := RX0) (T := TX0) (N := 15) (v := .ref (A 1)) C dX6_count_182 hX6_count_X0 1 (sh_211 g x (A 0) (T 0) rs (P 0) hst rl A d G T t GT P p GP hst arr hn) rfl 0 (Nat.le_of_ble_eq_true rfl) kX6_count_9 rfl ?_
    refine y_iconst (v := 0) C dX6_count_185 (by decide) ?_
    refine y_callV (As := [.int (0 : Int32)]) (rest := []) C dX6_count_186 (c_X3_at g (A 1) (A 2) 3 (d.1 0) (G 0) (0 : Int32) (by decide)) rfl rfl rfl rfl ⟨Nat.le_of_ble_eq_true rfl, Nat.le_of_ble_eq_true rfl⟩ gX6_count_X3_at (nA := 1) (by decide +kernel) rfl (rowW_recv ⟨_, rfl⟩) (Nat.le_of_ble_eq_true rfl) ⟨Nat.le_of_ble_eq_true rfl, Nat.le_of_ble_eq_true rfl⟩ [5] [0, 1, 2, 3, 4, 6, 7, 8, 9, 10, 11, 12, 13, 14, 15, 16, 17, 18, 19, 20, 21, 22, 23] (nB := 24) rfl (by decide +kernel) (sh_222 g x (A 0) (T 0) rs (P 0) hst rl A d G T t GT P p GP hst arr hn) (fun r16 w9 hw => ?_)
    obtain ⟨er16, rfl⟩ := hw
    have h := y_letF h er16
    refine ⟨([mnC x (A 0) (T 0) rs (P 0) hst rl, dayC A d, tabC T t, padC P p, hcC hst arr hn] ++ (dayR g A d G ++ (tabR g T t GT ++ padR g P p GP)) : List va_W), ⟨(sh_222 g x (A 0) (T 0) rs (P 0) hst rl A d G T t GT P p GP hst arr hn), rfl, rfl⟩, ?_⟩
    exact HR 189 dX6_count_189 r16 _ _ _ _ (rfl) (Nat.le_of_ble_eq_true rfl) (Nat.le_of_ble_eq_true rfl) ⟨by rw [h], t, GT, by rw [h], rfl⟩
  refine y_if (y_e h) (fun c1_10 h => ?_) (fun c1_10 h => ?_)
  · refine y_tabIn (tgt := 190) C dX6_count_1 c1_10 (by decide) (by decide) rfl rfl ?_
    refine y_aload_n C dX6_count_190 0 rfl rfl ?_
    refine y_get (Cn := RX6) (T := TX6) (N := 6) (v := .ref (A 0)) C dX6_count_191 hX6_count_X6 0 (sh_210 g x (A 0) (T 0) rs (P 0) hst rl A d G T t GT P p GP hst arr hn) rfl 0 (Nat.le_of_ble_eq_true rfl) kX6_count_1 rfl ?_
    refine y_get (Cn := RX0) (T := TX0) (N := 15) (v := .ref (A 1)) C dX6_count_194 hX6_count_X0 1 (sh_211 g x (A 0) (T 0) rs (P 0) hst rl A d G T t GT P p GP hst arr hn) rfl 0 (Nat.le_of_ble_eq_true rfl) kX6_count_9 rfl ?_
    refine y_iconst (v := 1) C dX6_count_197 (by decide) ?_
    refine y_callV (As := [.int (1 : Int32)]) (rest := []) C dX6_count_198 (c_X3_at g (A 1) (A 2) 3 (d.1 0) (G 0) (1 : Int32) (by decide)) rfl rfl rfl rfl ⟨Nat.le_of_ble_eq_true rfl, Nat.le_of_ble_eq_true rfl⟩ gX6_count_X3_at (nA := 1) (by decide +kernel) rfl (rowW_recv ⟨_, rfl⟩) (Nat.le_of_ble_eq_true rfl) ⟨Nat.le_of_ble_eq_true rfl, Nat.le_of_ble_eq_true rfl⟩ [5] [0, 1, 2, 3, 4, 6, 7, 8, 9, 10, 11, 12, 13, 14, 15, 16, 17, 18, 19, 20, 21, 22, 23] (nB := 24) rfl (by decide +kernel) (sh_222 g x (A 0) (T 0) rs (P 0) hst rl A d G T t GT P p GP hst arr hn) (fun r17 w9 hw => ?_)
    obtain ⟨er17, rfl⟩ := hw
    have h := y_letF h er17
    refine ⟨([mnC x (A 0) (T 0) rs (P 0) hst rl, dayC A d, tabC T t, padC P p, hcC hst arr hn] ++ (dayR g A d G ++ (tabR g T t GT ++ padR g P p GP)) : List va_W), ⟨(sh_222 g x (A 0) (T 0) rs (P 0) hst rl A d G T t GT P p GP hst arr hn), rfl, rfl⟩, ?_⟩
    exact HR 201 dX6_count_201 r17 _ _ _ _ (rfl) (Nat.le_of_ble_eq_true rfl) (Nat.le_of_ble_eq_true rfl) ⟨by rw [h], t, GT, by rw [h], rfl⟩
  refine y_if (y_e h) (fun c1_11 h => ?_) (fun c1_11 h => ?_)
  · refine y_tabIn (tgt := 202) C dX6_count_1 c1_11 (by decide) (by decide) rfl rfl ?_
    refine y_aload_n C dX6_count_202 0 rfl rfl ?_
    refine y_get (Cn := RX6) (T := TX6) (N := 6) (v := .ref (A 0)) C dX6_count_203 hX6_count_X6 0 (sh_210 g x (A 0) (T 0) rs (P 0) hst rl A d G T t GT P p GP hst arr hn) rfl 0 (Nat.le_of_ble_eq_true rfl) kX6_count_1 rfl ?_
    refine y_get (Cn := RX0) (T := TX0) (N := 15) (v := .ref (A 1)) C dX6_count_206 hX6_count_X0 1 (sh_211 g x (A 0) (T 0) rs (P 0) hst rl A d G T t GT P p GP hst arr hn) rfl 0 (Nat.le_of_ble_eq_true rfl) kX6_count_9 rfl ?_
    refine y_iconst (v := 2) C dX6_count_209 (by decide) ?_
    refine y_callV (As := [.int (2 : Int32)]) (rest := []) C dX6_count_210 (c_X3_at g (A 1) (A 2) 3 (d.1 0) (G 0) (2 : Int32) (by decide)) rfl rfl rfl rfl ⟨Nat.le_of_ble_eq_true rfl, Nat.le_of_ble_eq_true rfl⟩ gX6_count_X3_at (nA := 1) (by decide +kernel) rfl (rowW_recv ⟨_, rfl⟩) (Nat.le_of_ble_eq_true rfl) ⟨Nat.le_of_ble_eq_true rfl, Nat.le_of_ble_eq_true rfl⟩ [5] [0, 1, 2, 3, 4, 6, 7, 8, 9, 10, 11, 12, 13, 14, 15, 16, 17, 18, 19, 20, 21, 22, 23] (nB := 24) rfl (by decide +kernel) (sh_222 g x (A 0) (T 0) rs (P 0) hst rl A d G T t GT P p GP hst arr hn) (fun r18 w9 hw => ?_)
    obtain ⟨er18, rfl⟩ := hw
    have h := y_letF h er18
    refine ⟨([mnC x (A 0) (T 0) rs (P 0) hst rl, dayC A d, tabC T t, padC P p, hcC hst arr hn] ++ (dayR g A d G ++ (tabR g T t GT ++ padR g P p GP)) : List va_W), ⟨(sh_222 g x (A 0) (T 0) rs (P 0) hst rl A d G T t GT P p GP hst arr hn), rfl, rfl⟩, ?_⟩
    exact HR 213 dX6_count_213 r18 _ _ _ _ (rfl) (Nat.le_of_ble_eq_true rfl) (Nat.le_of_ble_eq_true rfl) ⟨by rw [h], t, GT, by rw [h], rfl⟩
  refine y_if (y_e h) (fun c1_12 h => ?_) (fun c1_12 h => ?_)
  · refine y_tabIn (tgt := 214) C dX6_count_1 c1_12 (by decide) (by decide) rfl rfl ?_
    refine y_aload_n C dX6_count_214 0 rfl rfl ?_
    refine y_get (Cn := RX6) (T := TX6) (N := 6) (v := .ref (P 0)) C dX6_count_215 hX6_count_X6 0 (sh_210 g x (A 0) (T 0) rs (P 0) hst rl A d G T t GT P p GP hst arr hn) rfl 3 (Nat.le_of_ble_eq_true rfl) kX6_count_10 rfl ?_
    refine y_get (Cn := RX2) (T := TX2) (N := 2) (v := .ref (P 1)) C dX6_count_218 hX6_count_X2 3 (sh_223 g x (A 0) (T 0) rs (P 0) hst rl A d G T t GT P p GP hst arr hn) rfl 0 (Nat.le_of_ble_eq_true rfl) kX6_count_11 rfl ?_
    refine y_callV (As := []) (rest := []) C dX6_count_221 (c_X3_length g (P 1) (P 2) 60 (p.1 0) (GP 0) (by decide)) rfl rfl rfl rfl ⟨Nat.le_of_ble_eq_true rfl, Nat.le_of_ble_eq_true rfl⟩ gX6_count_X3_length (nA := 0) (by decide +kernel) rfl (rowW_recv ⟨_, rfl⟩) (Nat.le_of_ble_eq_true rfl) ⟨Nat.le_of_ble_eq_true rfl, Nat.le_of_ble_eq_true rfl⟩ [22] [0, 1, 2, 3, 4, 5, 6, 7, 8, 9, 10, 11, 12, 13, 14, 15, 16, 17, 18, 19, 20, 21, 23] (nB := 24) rfl (by decide +kernel) (sh_224 g x (A 0) (T 0) rs (P 0) hst rl A d G T t GT P p GP hst arr hn) (fun r19 w9 hw => ?_)
    obtain ⟨er19, rfl⟩ := hw
    have h := y_letF h er19
    refine ⟨([mnC x (A 0) (T 0) rs (P 0) hst rl, dayC A d, tabC T t, padC P p, hcC hst arr hn] ++ (dayR g A d G ++ (tabR g T t GT ++ padR g P p GP)) : List va_W), ⟨(sh_224 g x (A 0) (T 0) rs (P 0) hst rl A d G T t GT P p GP hst arr hn), rfl, rfl⟩, ?_⟩
    exact HR 224 dX6_count_224 r19 _ _ _ _ (rfl) (Nat.le_of_ble_eq_true rfl) (Nat.le_of_ble_eq_true rfl) ⟨by rw [h], t, GT, by rw [h], rfl⟩
  refine y_if (y_e h) (fun c1_13 h => ?_) (fun c1_13 h => ?_)
  · refine y_tabIn (tgt := 225) C dX6_count_1 c1_13 (by decide) (by decide) rfl rfl ?_
    refine y_aload_n C dX6_count_225 0 rfl rfl ?_
    refine y_get (Cn := RX6) (T := TX6) (N := 6) (v := .ref hst) C dX6_count_226 hX6_count_X6 0 (sh_210 g x (A 0) (T 0) rs (P 0) hst rl A d G T t GT P p GP hst arr hn) rfl 4 (Nat.le_of_ble_eq_true rfl) kX6_count_12 rfl ?_
    refine y_get (Cn := RX1) (T := TX1) (N := 2) (v := .int hn) C dX6_count_229 hX6_count_X1 4 (sh_225 g x (A 0) (T 0) rs (P 0) hst rl A d G T t GT P p GP hst arr hn) rfl 1 (Nat.le_of_ble_eq_true rfl) kX6_count_13 rfl ?_
    exact HR 232 dX6_count_232 hn _ _ _ _ (rfl) (Nat.le_of_ble_eq_true rfl) (Nat.le_of_ble_eq_true rfl) ⟨by rw [h], t, GT, by rw [h], rfl⟩
  refine y_tabOut (tgt := 233) C dX6_count_1 (by have q0 := lv_neT c1_0 (show (0 : Int32).toInt = 0 by decide); have q1 := lv_neT c1_1 (show (1 : Int32).toInt = 1 by decide); have q2 := lv_neT c1_2 (show (2 : Int32).toInt = 2 by decide); have q3 := lv_neT c1_3 (show (3 : Int32).toInt = 3 by decide); have q4 := lv_neT c1_4 (show (4 : Int32).toInt = 4 by decide); have q5 := lv_neT c1_5 (show (5 : Int32).toInt = 5 by decide); have q6 := lv_neT c1_6 (show (6 : Int32).toInt = 6 by decide); have q7 := lv_neT c1_7 (show (7 : Int32).toInt = 7 by decide); have q8 := lv_neT c1_8 (show (8 : Int32).toInt = 8 by decide); have q9 := lv_neT c1_9 (show (9 : Int32).toInt = 9 by decide); have q10 := lv_neT c1_10 (show (10 : Int32).toInt = 10 by decide); have q11 := lv_neT c1_11 (show (11 : Int32).toInt = 11 by decide); have q12 := lv_neT c1_12 (show (12 : Int32).toInt = 12 by decide); have q13 := lv_neT c1_13 (show (13 : Int32).toInt = 13 by decide); omega) rfl ?_
  refine y_bipush (v := -2) C dX6_count_233 (by decide) ?_
  exact HR 235 dX6_count_235 (-2 : Int32) _ _ _ _ (rfl) (Nat.le_of_ble_eq_true rfl) (Nat.le_of_ble_eq_true rfl) ⟨by rw [h], t, GT, by rw [h], rfl⟩
