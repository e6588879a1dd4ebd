theorem dX5_step_0 : decode cX5_step 0 = .ok (.iload_n 2, 1) := by decide +kernel
theorem dX5_step_1 : decode cX5_step 1 = .ok (.invokestatic 87, 3) := by decide +kernel
theorem dX5_step_4 : decode cX5_step 4 = .ok (.istore_n 3, 1) := by decide +kernel
theorem dX5_step_5 : decode cX5_step 5 = .ok (.iload_n 2, 1) := by decide +kernel
theorem dX5_step_6 : decode cX5_step 6 = .ok (.invokestatic 90, 3) := by decide +kernel
theorem dX5_step_9 : decode cX5_step 9 = .ok (.istore 4, 2) := by decide +kernel
theorem dX5_step_11 : decode cX5_step 11 = .ok (.aload_n 1, 1) := by decide +kernel
theorem dX5_step_12 : decode cX5_step 12 = .ok (.iload_n 2, 1) := by decide +kernel
theorem dX5_step_13 : decode cX5_step 13 = .ok (.invokevirtual 94, 3) := by decide +kernel
theorem dX5_step_16 : decode cX5_step 16 = .ok (.istore 5, 2) := by decide +kernel
theorem dX5_step_18 : decode cX5_step 18 = .ok (.aload_n 1, 1) := by decide +kernel
theorem dX5_step_19 : decode cX5_step 19 = .ok (.aload_n 0, 1) := by decide +kernel
theorem dX5_step_20 : decode cX5_step 20 = .ok (.getfield 66, 3) := by decide +kernel
theorem dX5_step_23 : decode cX5_step 23 = .ok (.iload 5, 2) := by decide +kernel
theorem dX5_step_25 : decode cX5_step 25 = .ok (.invokevirtual 97, 3) := by decide +kernel
theorem dX5_step_28 : decode cX5_step 28 = .ok (.istore 6, 2) := by decide +kernel
theorem dX5_step_30 : decode cX5_step 30 = .ok (.aload_n 0, 1) := by decide +kernel
theorem dX5_step_31 : decode cX5_step 31 = .ok (.getfield 72, 3) := by decide +kernel
theorem dX5_step_34 : decode cX5_step 34 = .ok (.iload 6, 2) := by decide +kernel
theorem dX5_step_36 : decode cX5_step 36 = .ok (.iadd, 1) := by decide +kernel
theorem dX5_step_37 : decode cX5_step 37 = .ok (.istore 7, 2) := by decide +kernel
theorem dX5_step_39 : decode cX5_step 39 = .ok (.iload 4, 2) := by decide +kernel
theorem dX5_step_41 : decode cX5_step 41 = .ok (.ifCond .eq 8, 3) := by decide +kernel
theorem dX5_step_44 : decode cX5_step 44 = .ok (.iload 7, 2) := by decide +kernel
theorem dX5_step_46 : decode cX5_step 46 = .ok (.goto 16, 3) := by decide +kernel
theorem dX5_step_49 : decode cX5_step 49 = .ok (.iload 7, 2) := by decide +kernel
theorem dX5_step_51 : decode cX5_step 51 = .ok (.aload_n 1, 1) := by decide +kernel
theorem dX5_step_52 : decode cX5_step 52 = .ok (.getfield 101, 3) := by decide +kernel
theorem dX5_step_55 : decode cX5_step 55 = .ok (.iload_n 3, 1) := by decide +kernel
theorem dX5_step_56 : decode cX5_step 56 = .ok (.invokevirtual 45, 3) := by decide +kernel
theorem dX5_step_59 : decode cX5_step 59 = .ok (.invokestatic 104, 3) := by decide +kernel
theorem dX5_step_62 : decode cX5_step 62 = .ok (.istore 8, 2) := by decide +kernel
theorem dX5_step_64 : decode cX5_step 64 = .ok (.aload_n 0, 1) := by decide +kernel
theorem dX5_step_65 : decode cX5_step 65 = .ok (.iload 5, 2) := by decide +kernel
theorem dX5_step_67 : decode cX5_step 67 = .ok (.putfield 66, 3) := by decide +kernel
theorem dX5_step_70 : decode cX5_step 70 = .ok (.aload_n 0, 1) := by decide +kernel
theorem dX5_step_71 : decode cX5_step 71 = .ok (.iload 8, 2) := by decide +kernel
theorem dX5_step_73 : decode cX5_step 73 = .ok (.aload_n 1, 1) := by decide +kernel
theorem dX5_step_74 : decode cX5_step 74 = .ok (.getfield 109, 3) := by decide +kernel
theorem dX5_step_77 : decode cX5_step 77 = .ok (.iconst 2, 1) := by decide +kernel
theorem dX5_step_78 : decode cX5_step 78 = .ok (.invokevirtual 45, 3) := by decide +kernel
theorem dX5_step_81 : decode cX5_step 81 = .ok (.iadd, 1) := by decide +kernel
theorem dX5_step_82 : decode cX5_step 82 = .ok (.putfield 72, 3) := by decide +kernel
theorem dX5_step_85 : decode cX5_step 85 = .ok (.aload_n 0, 1) := by decide +kernel
theorem dX5_step_86 : decode cX5_step 86 = .ok (.dup, 1) := by decide +kernel
theorem dX5_step_87 : decode cX5_step 87 = .ok (.getfield 78, 3) := by decide +kernel
theorem dX5_step_90 : decode cX5_step 90 = .ok (.iload 4, 2) := by decide +kernel
theorem dX5_step_92 : decode cX5_step 92 = .ok (.ifCond .eq 7, 3) := by decide +kernel
theorem dX5_step_95 : decode cX5_step 95 = .ok (.iconst (-1), 1) := by decide +kernel
theorem dX5_step_96 : decode cX5_step 96 = .ok (.goto 4, 3) := by decide +kernel
theorem dX5_step_99 : decode cX5_step 99 = .ok (.iconst 1, 1) := by decide +kernel
theorem dX5_step_100 : decode cX5_step 100 = .ok (.iadd, 1) := by decide +kernel
theorem dX5_step_101 : decode cX5_step 101 = .ok (.putfield 78, 3) := by decide +kernel
theorem dX5_step_104 : decode cX5_step 104 = .ok (.aload_n 0, 1) := by decide +kernel
theorem dX5_step_105 : decode cX5_step 105 = .ok (.dup, 1) := by decide +kernel
theorem dX5_step_106 : decode cX5_step 106 = .ok (.getfield 81, 3) := by decide +kernel
theorem dX5_step_109 : decode cX5_step 109 = .ok (.iload 6, 2) := by decide +kernel
theorem dX5_step_111 : decode cX5_step 111 = .ok (.iadd, 1) := by decide +kernel
theorem dX5_step_112 : decode cX5_step 112 = .ok (.putfield 81, 3) := by decide +kernel
theorem dX5_step_115 : decode cX5_step 115 = .ok (.aload_n 0, 1) := by decide +kernel
theorem dX5_step_116 : decode cX5_step 116 = .ok (.dup, 1) := by decide +kernel
theorem dX5_step_117 : decode cX5_step 117 = .ok (.getfield 84, 3) := by decide +kernel
theorem dX5_step_120 : decode cX5_step 120 = .ok (.iload 8, 2) := by decide +kernel
theorem dX5_step_122 : decode cX5_step 122 = .ok (.iload 7, 2) := by decide +kernel
theorem dX5_step_124 : decode cX5_step 124 = .ok (.isub, 1) := by decide +kernel
theorem dX5_step_125 : decode cX5_step 125 = .ok (.iadd, 1) := by decide +kernel
theorem dX5_step_126 : decode cX5_step 126 = .ok (.putfield 84, 3) := by decide +kernel
theorem dX5_step_129 : decode cX5_step 129 = .ok (.aload_n 0, 1) := by decide +kernel
theorem dX5_step_130 : decode cX5_step 130 = .ok (.getfield 14, 3) := by decide +kernel
theorem dX5_step_133 : decode cX5_step 133 = .ok (.iload 8, 2) := by decide +kernel
theorem dX5_step_135 : decode cX5_step 135 = .ok (.invokevirtual 112, 3) := by decide +kernel
theorem dX5_step_138 : decode cX5_step 138 = .ok (.aload_n 0, 1) := by decide +kernel
theorem dX5_step_139 : decode cX5_step 139 = .ok (.getfield 20, 3) := by decide +kernel
theorem dX5_step_142 : decode cX5_step 142 = .ok (.aload_n 0, 1) := by decide +kernel
theorem dX5_step_143 : decode cX5_step 143 = .ok (.getfield 78, 3) := by decide +kernel
theorem dX5_step_146 : decode cX5_step 146 = .ok (.invokevirtual 112, 3) := by decide +kernel
theorem dX5_step_149 : decode cX5_step 149 = .ok (.aload_n 0, 1) := by decide +kernel
theorem dX5_step_150 : decode cX5_step 150 = .ok (.getfield 23, 3) := by decide +kernel
theorem dX5_step_153 : decode cX5_step 153 = .ok (.iload 8, 2) := by decide +kernel
theorem dX5_step_155 : decode cX5_step 155 = .ok (.iload 7, 2) := by decide +kernel
theorem dX5_step_157 : decode cX5_step 157 = .ok (.isub, 1) := by decide +kernel
theorem dX5_step_158 : decode cX5_step 158 = .ok (.invokevirtual 112, 3) := by decide +kernel
theorem dX5_step_161 : decode cX5_step 161 = .ok (.iload 4, 2) := by decide +kernel
theorem dX5_step_163 : decode cX5_step 163 = .ok (.ifCond .ne 34, 3) := by decide +kernel
theorem dX5_step_166 : decode cX5_step 166 = .ok (.aload_n 0, 1) := by decide +kernel
theorem dX5_step_167 : decode cX5_step 167 = .ok (.getfield 26, 3) := by decide +kernel
theorem dX5_step_170 : decode cX5_step 170 = .ok (.iload_n 3, 1) := by decide +kernel
theorem dX5_step_171 : decode cX5_step 171 = .ok (.iload 8, 2) := by decide +kernel
theorem dX5_step_173 : decode cX5_step 173 = .ok (.invokevirtual 115, 3) := by decide +kernel
theorem dX5_step_176 : decode cX5_step 176 = .ok (.aload_n 0, 1) := by decide +kernel
theorem dX5_step_177 : decode cX5_step 177 = .ok (.getfield 78, 3) := by decide +kernel
theorem dX5_step_180 : decode cX5_step 180 = .ok (.aload_n 1, 1) := by decide +kernel
theorem dX5_step_181 : decode cX5_step 181 = .ok (.getfield 109, 3) := by decide +kernel
theorem dX5_step_184 : decode cX5_step 184 = .ok (.iconst 0, 1) := by decide +kernel
theorem dX5_step_185 : decode cX5_step 185 = .ok (.invokevirtual 45, 3) := by decide +kernel
theorem dX5_step_188 : decode cX5_step 188 = .ok (.if_icmp .gt 7, 3) := by decide +kernel
theorem dX5_step_191 : decode cX5_step 191 = .ok (.iconst 1, 1) := by decide +kernel
theorem dX5_step_192 : decode cX5_step 192 = .ok (.goto 4, 3) := by decide +kernel
theorem dX5_step_195 : decode cX5_step 195 = .ok (.iconst 0, 1) := by decide +kernel
theorem dX5_step_196 : decode cX5_step 196 = .ok (.ireturn, 1) := by decide +kernel
theorem dX5_step_197 : decode cX5_step 197 = .ok (.aload_n 0, 1) := by decide +kernel
theorem dX5_step_198 : decode cX5_step 198 = .ok (.getfield 29, 3) := by decide +kernel
theorem dX5_step_201 : decode cX5_step 201 = .ok (.iload_n 3, 1) := by decide +kernel
theorem dX5_step_202 : decode cX5_step 202 = .ok (.iload 8, 2) := by decide +kernel
theorem dX5_step_204 : decode cX5_step 204 = .ok (.invokevirtual 115, 3) := by decide +kernel
theorem dX5_step_207 : decode cX5_step 207 = .ok (.iload 8, 2) := by decide +kernel
theorem dX5_step_209 : decode cX5_step 209 = .ok (.aload_n 1, 1) := by decide +kernel
theorem dX5_step_210 : decode cX5_step 210 = .ok (.getfield 119, 3) := by decide +kernel
theorem dX5_step_213 : decode cX5_step 213 = .ok (.iload_n 3, 1) := by decide +kernel
theorem dX5_step_214 : decode cX5_step 214 = .ok (.invokevirtual 45, 3) := by decide +kernel
theorem dX5_step_217 : decode cX5_step 217 = .ok (.if_icmp .gt 18, 3) := by decide +kernel
theorem dX5_step_220 : decode cX5_step 220 = .ok (.iload 8, 2) := by decide +kernel
theorem dX5_step_222 : decode cX5_step 222 = .ok (.aload_n 0, 1) := by decide +kernel
theorem dX5_step_223 : decode cX5_step 223 = .ok (.aload_n 1, 1) := by decide +kernel
theorem dX5_step_224 : decode cX5_step 224 = .ok (.iload_n 3, 1) := by decide +kernel
theorem dX5_step_225 : decode cX5_step 225 = .ok (.invokevirtual 122, 3) := by decide +kernel
theorem dX5_step_228 : decode cX5_step 228 = .ok (.if_icmp .gt 7, 3) := by decide +kernel
theorem dX5_step_231 : decode cX5_step 231 = .ok (.iconst 1, 1) := by decide +kernel
theorem dX5_step_232 : decode cX5_step 232 = .ok (.goto 4, 3) := by decide +kernel
theorem dX5_step_235 : decode cX5_step 235 = .ok (.iconst 0, 1) := by decide +kernel
theorem dX5_step_236 : decode cX5_step 236 = .ok (.ireturn, 1) := by decide +kernel
set_option maxRecDepth 20000 in
theorem ggX5_step_X6_rideOf : GoodIn wsX5_step wsX6_rideOf := goodIn_r _ [20] (by decide +kernel) (by decide +kernel)
set_option maxRecDepth 20000 in
theorem gX5_step_X6_rideOf_n87 : GoodIn wsX5_step (wsX6_rideOf) := ggX5_step_X6_rideOf
set_option maxRecDepth 20000 in
theorem ggX5_step_X6_setsDown : GoodIn wsX5_step wsX6_setsDown := goodIn_r _ [22] (by decide +kernel) (by decide +kernel)
set_option maxRecDepth 20000 in
theorem gX5_step_X6_setsDown_n90 : GoodIn wsX5_step (wsX6_setsDown) := ggX5_step_X6_setsDown
set_option maxRecDepth 20000 in
theorem ggX5_step_X0_stopOf : GoodIn wsX5_step wsX0_stopOf := goodIn_r _ [27, 28, 29, 18, 19, 20, 21, 22, 30, 31, 32, 33, 34, 35, 36, 75, 76, 77, 78, 79, 80, 81, 82, 83, 84, 85, 86, 87, 88, 89, 90, 91] (by decide +kernel) (by decide +kernel)
set_option maxRecDepth 20000 in
theorem gX5_step_X0_stopOf : GoodIn wsX5_step (wsV RX5 94 RX0 yX0_stopOf wsX0_stopOf) := goodIn_app (goodIn_of _ (by decide +kernel)) ggX5_step_X0_stopOf
set_option maxRecDepth 20000 in
theorem ggX5_step_X0_minutes : GoodIn wsX5_step wsX0_minutes := goodIn_r _ [40, 41, 42, 43, 6, 44, 45, 30, 31, 32, 33, 34, 35, 36, 75, 76, 77, 78, 79, 80, 81, 82, 83, 84, 85, 86, 87, 88, 89, 90, 91] (by decide +kernel) (by decide +kernel)
set_option maxRecDepth 20000 in
theorem gX5_step_X0_minutes : GoodIn wsX5_step (wsV RX5 97 RX0 yX0_minutes wsX0_minutes) := goodIn_app (goodIn_of _ (by decide +kernel)) ggX5_step_X0_minutes
set_option maxRecDepth 20000 in
theorem ggX5_step_X3_at : GoodIn wsX5_step wsX3_at := goodIn_r _ [34, 35, 36, 90, 91] (by decide +kernel) (by decide +kernel)
set_option maxRecDepth 20000 in
theorem gX5_step_X3_at : GoodIn wsX5_step (wsV RX5 45 RX3 yX3_at wsX3_at) := goodIn_app (goodIn_of _ (by decide +kernel)) ggX5_step_X3_at
set_option maxRecDepth 20000 in
theorem ggX5_step_X3_add : GoodIn wsX5_step wsX3_add := goodIn_r _ [50, 35, 51, 52, 53, 33, 54, 36, 90, 91] (by decide +kernel) (by decide +kernel)
set_option maxRecDepth 20000 in
theorem gX5_step_X3_add : GoodIn wsX5_step (wsV RX5 112 RX3 yX3_add wsX3_add) := goodIn_app (goodIn_of _ (by decide +kernel)) ggX5_step_X3_add
set_option maxRecDepth 20000 in
theorem ggX5_step_X3_change : GoodIn wsX5_step wsX3_change := goodIn_r _ [58, 35, 36, 90, 91] (by decide +kernel) (by decide +kernel)
set_option maxRecDepth 20000 in
theorem gX5_step_X3_change : GoodIn wsX5_step (wsV RX5 115 RX3 yX3_change wsX3_change) := goodIn_app (goodIn_of _ (by decide +kernel)) ggX5_step_X3_change
set_option maxRecDepth 20000 in
theorem ggX5_step_X5_latestByDetour : GoodIn wsX5_step wsX5_latestByDetour := goodIn_r _ [63, 15, 8, 64, 46, 31, 32, 33, 34, 35, 36, 65, 66, 67, 68, 69, 70, 71, 72, 73, 74, 75, 76, 77, 78, 79, 80, 81, 82, 83, 84, 85, 86, 87, 88, 89, 90, 91] (by decide +kernel) (by decide +kernel)
set_option maxRecDepth 20000 in
theorem gX5_step_X5_latestByDetour : GoodIn wsX5_step (wsV RX5 122 RX5 yX5_latestByDetour wsX5_latestByDetour) := goodIn_app (goodIn_of _ (by decide +kernel)) ggX5_step_X5_latestByDetour
theorem kX5_step_19 : Cond.initialized RX6 ∈ wsX5_step := List.mem_of_getElem? (i := 19) (by decide +kernel)
theorem kX5_step_18 : Cond.static yX6_rideOf ∈ wsX5_step := List.mem_of_getElem? (i := 18) (by decide +kernel)
theorem kX5_step_21 : Cond.static yX6_setsDown ∈ wsX5_step := List.mem_of_getElem? (i := 21) (by decide +kernel)
theorem kX5_step_1 : Cond.fieldLink RX5 66 "BookedDetours$Timetable" "stop" "I" ∈ wsX5_step := List.mem_of_getElem? (i := 1) (by decide +kernel)
theorem kX5_step_2 : Cond.fieldLink RX5 72 "BookedDetours$Timetable" "free" "I" ∈ wsX5_step := List.mem_of_getElem? (i := 2) (by decide +kernel)
theorem kX5_step_3 : Cond.fieldLink RX5 101 "BookedDetours$Day" "waits" "LBookedDetours$Row;" ∈ wsX5_step := List.mem_of_getElem? (i := 3) (by decide +kernel)
theorem kX5_step_4 : Cond.methodLink RX5 104 Lib.Math.max.name ∈ wsX5_step := List.mem_of_getElem? (i := 4) (by decide +kernel)
theorem kX5_step_5 : Cond.static Lib.Math.max.name ∈ wsX5_step := List.mem_of_getElem? (i := 5) (by decide +kernel)
theorem kX5_step_6 : Cond.initialized "java/lang/Math" ∈ wsX5_step := List.mem_of_getElem? (i := 6) (by decide +kernel)
theorem kX5_step_7 : Cond.code Lib.Math.max.name Lib.Math.max.code 2 (some .int) ∈ wsX5_step := List.mem_of_getElem? (i := 7) (by decide +kernel)
theorem kX5_step_8 : Cond.fieldLink RX5 109 "BookedDetours$Day" "settings" "LBookedDetours$Row;" ∈ wsX5_step := List.mem_of_getElem? (i := 8) (by decide +kernel)
theorem kX5_step_9 : Cond.fieldLink RX5 78 "BookedDetours$Timetable" "aboard" "I" ∈ wsX5_step := List.mem_of_getElem? (i := 9) (by decide +kernel)
theorem kX5_step_10 : Cond.fieldLink RX5 81 "BookedDetours$Timetable" "driving" "I" ∈ wsX5_step := List.mem_of_getElem? (i := 10) (by decide +kernel)
theorem kX5_step_11 : Cond.fieldLink RX5 84 "BookedDetours$Timetable" "waiting" "I" ∈ wsX5_step := List.mem_of_getElem? (i := 11) (by decide +kernel)
theorem kX5_step_12 : Cond.fieldLink RX5 14 "BookedDetours$Timetable" "times" "LBookedDetours$Row;" ∈ wsX5_step := List.mem_of_getElem? (i := 12) (by decide +kernel)
theorem kX5_step_13 : Cond.fieldLink RX5 20 "BookedDetours$Timetable" "loads" "LBookedDetours$Row;" ∈ wsX5_step := List.mem_of_getElem? (i := 13) (by decide +kernel)
theorem kX5_step_14 : Cond.fieldLink RX5 23 "BookedDetours$Timetable" "delays" "LBookedDetours$Row;" ∈ wsX5_step := List.mem_of_getElem? (i := 14) (by decide +kernel)
theorem kX5_step_15 : Cond.fieldLink RX5 26 "BookedDetours$Timetable" "picks" "LBookedDetours$Row;" ∈ wsX5_step := List.mem_of_getElem? (i := 15) (by decide +kernel)
theorem kX5_step_16 : Cond.fieldLink RX5 29 "BookedDetours$Timetable" "downs" "LBookedDetours$Row;" ∈ wsX5_step := List.mem_of_getElem? (i := 16) (by decide +kernel)
theorem kX5_step_17 : Cond.fieldLink RX5 119 "BookedDetours$Day" "bys" "LBookedDetours$Row;" ∈ wsX5_step := List.mem_of_getElem? (i := 17) (by decide +kernel)
theorem hX5_step_X5 : ∀ w ∈ u_ws RX5 TX5 10, w ∈ wsX5_step := fun _ h => List.mem_cons_of_mem _ (List.mem_append_left _ (List.mem_append_left _ (List.mem_append_right _ h)))
theorem hX5_step_X0 : ∀ w ∈ u_ws RX0 TX0 15, w ∈ wsX5_step := fun _ h => List.mem_cons_of_mem _ (List.mem_append_left _ (List.mem_append_right _ h))
set_option maxHeartbeats 4000000 in
set_option maxRecDepth 100000 in
theorem c_X5_step (g : yG) (T : Nat → Nat) (t : RV) (GT : Nat → Nat → Int32) (A : Nat → Nat) (d : RV) (G : Nat → Nat → Int32) (v : Int32) : yM g yX5_step wsX5_step ({ frames := 2, cells := 0, slots := 0, locals := 44 } : Room) [.ref (T 0), .ref (A 0), .int v] ([tabC T t, dayC A d] ++ (tabR g T t GT ++ dayR g A d G) : List va_W) (fun r w => r = (f_X5_step t d v).1 ∧ ∃ t' : RV, ∃ GT' : Nat → Nat → Int32, t' = (f_X5_step t d v).2 ∧ w = ([tabC T t', dayC A d] ++ (tabR g T t' GT' ++ dayR g A d G) : List va_W)) 0 0 := by
  refine y_entryI (cc := cX5_step) (maxL := 9) (by decide +kernel) rfl (Nat.le_of_ble_eq_true rfl) (fun Z C HR => ?_)
  have C : yC Z g cX5_step 9 wsX5_step RX5 := C
  have h := f_X5_step.eq_1 t d v
  show yJ Z _ 0 0 _ 0 [(0, .ref (T 0)), (1, .ref (A 0)), (2, .int v)] []
  refine y_iload_n C dX5_step_0 2 rfl rfl ?_
  refine y_callSN (host := RX6) (As := [.int v]) (rest := []) C dX5_step_1 (c_X6_rideOf g v) rfl rfl rfl rfl ⟨Nat.le_of_ble_eq_true rfl, Nat.le_of_ble_eq_true rfl⟩ gX5_step_X6_rideOf_n87 (List.mem_of_getElem? (i := 9) rfl) kX5_step_19 kX5_step_18 (nA := 1) (by decide +kernel) rfl (Nat.le_of_ble_eq_true rfl) ⟨Nat.le_of_ble_eq_true rfl, Nat.le_of_ble_eq_true rfl⟩ [] [0, 1, 2, 3, 4, 5, 6, 7, 8, 9, 10, 11, 12, 13, 14, 15, 16, 17, 18] (nB := 19) rfl (by decide +kernel) (sh_88 g T t GT A d G) (fun r1 w9 hw => ?_)
  obtain ⟨er1, rfl⟩ := hw
  have h := y_letF h er1
  refine ⟨([tabC T t, dayC A d] ++ (tabR g T t GT ++ dayR g A d G) : List va_W), ⟨(sh_88 g T t GT A d G), rfl, rfl⟩, ?_⟩
  refine y_istore_n (lv' := [(3, .int r1), (0, .ref (T 0)), (1, .ref (A 0)), (2, .int v)]) C dX5_step_4 rfl (Nat.le_of_ble_eq_true rfl) rfl ?_
  refine y_iload_n C dX5_step_5 3 rfl rfl ?_
  refine y_callSN (host := RX6) (As := [.int v]) (rest := []) C dX5_step_6 (c_X6_setsDown g v) rfl rfl rfl rfl ⟨Nat.le_of_ble_eq_true rfl, Nat.le_of_ble_eq_true rfl⟩ gX5_step_X6_setsDown_n90 (List.mem_of_getElem? (i := 10) rfl) kX5_step_19 kX5_step_21 (nA := 1) (by decide +kernel) rfl (Nat.le_of_ble_eq_true rfl) ⟨Nat.le_of_ble_eq_true rfl, Nat.le_of_ble_eq_true rfl⟩ [] [0, 1, 2, 3, 4, 5, 6, 7, 8, 9, 10, 11, 12, 13, 14, 15, 16, 17, 18] (nB := 19) rfl (by decide +kernel) (sh_88 g T t GT A d G) (fun r2 w9 hw => ?_)
  obtain ⟨er2, rfl⟩ := hw
  have h := y_letF h er2
  refine ⟨([tabC T t, dayC A d] ++ (tabR g T t GT ++ dayR g A d G) : List va_W), ⟨(sh_88 g T t GT A d G), rfl, rfl⟩, ?_⟩
  refine y_istore (lv' := [(4, .int r2), (3, .int r1), (0, .ref (T 0)), (1, .ref (A 0)), (2, .int v)]) C dX5_step_9 (Nat.le_of_ble_eq_true rfl) rfl ?_
  refine y_aload_n C dX5_step_11 3 rfl rfl ?_
  refine y_iload_n C dX5_step_12 4 rfl rfl ?_
  refine y_callV (As := [.int v]) (rest := []) C dX5_step_13 (c_X0_stopOf g A d G v) rfl rfl rfl rfl ⟨Nat.le_of_ble_eq_true rfl, Nat.le_of_ble_eq_true rfl⟩ gX5_step_X0_stopOf (nA := 1) (by decide +kernel) rfl (sh_18 g A d G) (Nat.le_of_ble_eq_true rfl) ⟨Nat.le_of_ble_eq_true rfl, Nat.le_of_ble_eq_true rfl⟩ [1, 7, 8, 9, 10, 11, 12, 13, 14, 15, 16, 17, 18] [0, 2, 3, 4, 5, 6] (nB := 19) rfl (by decide +kernel) (sh_81 g T t GT A d G) (fun r3 w9 hw => ?_)
  obtain ⟨er3, rfl⟩ := hw
  have h := y_letF h er3
  refine ⟨([tabC T t, dayC A d] ++ (tabR g T t GT ++ dayR g A d G) : List va_W), ⟨(sh_81 g T t GT A d G), rfl, rfl⟩, ?_⟩
  refine y_istore (lv' := [(5, .int r3), (4, .int r2), (3, .int r1), (0, .ref (T 0)), (1, .ref (A 0)), (2, .int v)]) C dX5_step_16 (Nat.le_of_ble_eq_true rfl) rfl ?_
  refine y_aload_n C dX5_step_18 4 rfl rfl ?_
  refine y_aload_n C dX5_step_19 3 rfl rfl ?_
  refine y_get (Cn := RX5) (T := TX5) (N := 10) (v := .int (t.2 0)) C dX5_step_20 hX5_step_X5 0 (sh_67 g T t GT A d G) rfl 5 (Nat.le_of_ble_eq_true rfl) kX5_step_1 rfl ?_
  refine y_iload C dX5_step_23 0 rfl ?_
  refine y_callV (As := [.int (t.2 0), .int r3]) (rest := []) C dX5_step_25 (c_X0_minutes g A d G (t.2 0) r3) rfl rfl rfl rfl ⟨Nat.le_of_ble_eq_true rfl, Nat.le_of_ble_eq_true rfl⟩ gX5_step_X0_minutes (nA := 2) (by decide +kernel) rfl (sh_18 g A d G) (Nat.le_of_ble_eq_true rfl) ⟨Nat.le_of_ble_eq_true rfl, Nat.le_of_ble_eq_true rfl⟩ [1, 7, 8, 9, 10, 11, 12, 13, 14, 15, 16, 17, 18] [0, 2, 3, 4, 5, 6] (nB := 19) rfl (by decide +kernel) (sh_81 g T t GT A d G) (fun r4 w9 hw => ?_)
  obtain ⟨er4, rfl⟩ := hw
  have h := y_letF h er4
  refine ⟨([tabC T t, dayC A d] ++ (tabR g T t GT ++ dayR g A d G) : List va_W), ⟨(sh_81 g T t GT A d G), rfl, rfl⟩, ?_⟩
  refine y_istore (lv' := [(6, .int r4), (5, .int r3), (4, .int r2), (3, .int r1), (0, .ref (T 0)), (1, .ref (A 0)), (2, .int v)]) C dX5_step_28 (Nat.le_of_ble_eq_true rfl) rfl ?_
  refine y_aload_n C dX5_step_30 4 rfl rfl ?_
  refine y_get (Cn := RX5) (T := TX5) (N := 10) (v := .int (t.2 1)) C dX5_step_31 hX5_step_X5 0 (sh_67 g T t GT A d G) rfl 6 (Nat.le_of_ble_eq_true rfl) kX5_step_2 rfl ?_
  refine y_iload C dX5_step_34 0 rfl ?_
  refine y_iadd C dX5_step_36 ?_
  refine y_istore (lv' := [(7, .int ((t.2 1) + r4)), (6, .int r4), (5, .int r3), (4, .int r2), (3, .int r1), (0, .ref (T 0)), (1, .ref (A 0)), (2, .int v)]) C dX5_step_37 (Nat.le_of_ble_eq_true rfl) rfl ?_
  refine y_iload C dX5_step_39 3 rfl ?_
  refine y_if_eq (tgt := 49) C dX5_step_41 rfl (y_e h) (fun c41 h => ?_) (fun c41 h => ?_)
  · refine y_iload C dX5_step_49 0 rfl ?_
    refine y_aload_n C dX5_step_51 6 rfl rfl ?_
    refine y_get (Cn := RX0) (T := TX0) (N := 15) (v := .ref (A 11)) C dX5_step_52 hX5_step_X0 1 (sh_74 g T t GT A d G) rfl 5 (Nat.le_of_ble_eq_true rfl) kX5_step_3 rfl ?_
    refine y_iload_n C dX5_step_55 4 rfl rfl ?_
    refine y_callV (As := [.int r1]) (rest := [.int ((t.2 1) + r4)]) C dX5_step_56 (c_X3_at g (A 11) (A 12) 17 (d.1 5) (G 5) r1 (by decide)) rfl rfl rfl rfl ⟨Nat.le_of_ble_eq_true rfl, Nat.le_of_ble_eq_true rfl⟩ gX5_step_X3_at (nA := 1) (by decide +kernel) rfl (rowW_recv ⟨_, rfl⟩) (Nat.le_of_ble_eq_true rfl) ⟨Nat.le_of_ble_eq_true rfl, Nat.le_of_ble_eq_true rfl⟩ [12] [0, 1, 2, 3, 4, 5, 6, 7, 8, 9, 10, 11, 13, 14, 15, 16, 17, 18] (nB := 19) rfl (by decide +kernel) (sh_89 g T t GT A d G) (fun r5 w9 hw => ?_)
    obtain ⟨er5, rfl⟩ := hw
    have h := y_letF h er5
    refine ⟨([tabC T t, dayC A d] ++ (tabR g T t GT ++ dayR g A d G) : List va_W), ⟨(sh_89 g T t GT A d G), rfl, rfl⟩, ?_⟩
    refine y_mmax C dX5_step_59 kX5_step_4 kX5_step_5 kX5_step_6 kX5_step_7 (Nat.le_of_ble_eq_true rfl) (Nat.le_of_ble_eq_true rfl) (Nat.le_of_ble_eq_true rfl) (Nat.le_of_ble_eq_true rfl) ?_
    refine y_topi (fun m6 em6 => ?_)
    have h := y_letF h em6
    refine y_istore (lv' := [(8, .int m6), (7, .int ((t.2 1) + r4)), (6, .int r4), (5, .int r3), (4, .int r2), (3, .int r1), (0, .ref (T 0)), (1, .ref (A 0)), (2, .int v)]) C dX5_step_62 (Nat.le_of_ble_eq_true rfl) rfl ?_
    refine y_aload_n C dX5_step_64 6 rfl rfl ?_
    refine y_iload C dX5_step_65 3 rfl ?_
    obtain ⟨t7, et7⟩ : ∃ z : RV, z = rvI t 0 r3 := ⟨_, rfl⟩
    have h := y_letF h et7
    refine y_put (Cn := RX5) (T := TX5) (N := 10) (v := .int r3) (ty0 := tyX5) (L1 := ([tabC T t7, dayC A d] ++ (tabR g T t7 GT ++ dayR g A d G) : List va_W)) C dX5_step_67 hX5_step_X5 0 (sh_67 g T t GT A d G) rfl 5 (Nat.le_of_ble_eq_true rfl) kX5_step_1 tyX5_ok nmX5 rfl rfl rfl (Nat.le_of_ble_eq_true rfl) (sh_79 g T t GT A d G r3 t7 et7) ?_
    refine y_aload_n C dX5_step_70 6 rfl rfl ?_
    refine y_iload C dX5_step_71 0 rfl ?_
    refine y_aload_n C dX5_step_73 7 rfl rfl ?_
    refine y_get (Cn := RX0) (T := TX0) (N := 15) (v := .ref (A 1)) C dX5_step_74 hX5_step_X0 1 (sh_74 g T t7 GT A d G) rfl 0 (Nat.le_of_ble_eq_true rfl) kX5_step_8 rfl ?_
    refine y_iconst (v := 2) C dX5_step_77 (by decide) ?_
    refine y_callV (As := [.int (2 : Int32)]) (rest := [.int m6, .ref (T 0)]) C dX5_step_78 (c_X3_at g (A 1) (A 2) 3 (d.1 0) (G 0) (2 : Int32) (by decide)) rfl rfl rfl rfl ⟨Nat.le_of_ble_eq_true rfl, Nat.le_of_ble_eq_true rfl⟩ gX5_step_X3_at (nA := 1) (by decide +kernel) rfl (rowW_recv ⟨_, rfl⟩) (Nat.le_of_ble_eq_true rfl) ⟨Nat.le_of_ble_eq_true rfl, Nat.le_of_ble_eq_true rfl⟩ [7] [0, 1, 2, 3, 4, 5, 6, 8, 9, 10, 11, 12, 13, 14, 15, 16, 17, 18] (nB := 19) rfl (by decide +kernel) (sh_86 g T t7 GT A d G) (fun r8 w9 hw => ?_)
    obtain ⟨er8, rfl⟩ := hw
    have h := y_letF h er8
    refine ⟨([tabC T t7, dayC A d] ++ (tabR g T t7 GT ++ dayR g A d G) : List va_W), ⟨(sh_86 g T t7 GT A d G), rfl, rfl⟩, ?_⟩
    refine y_iadd C dX5_step_81 ?_
    obtain ⟨t9, et9⟩ : ∃ z : RV, z = rvI t7 1 (m6 + r8) := ⟨_, rfl⟩
    have h := y_letF h et9
    refine y_put (Cn := RX5) (T := TX5) (N := 10) (v := .int (m6 + r8)) (ty0 := tyX5) (L1 := ([tabC T t9, dayC A d] ++ (tabR g T t9 GT ++ dayR g A d G) : List va_W)) C dX5_step_82 hX5_step_X5 0 (sh_67 g T t7 GT A d G) rfl 6 (Nat.le_of_ble_eq_true rfl) kX5_step_2 tyX5_ok nmX5 rfl rfl rfl (Nat.le_of_ble_eq_true rfl) (sh_80 g T t7 GT A d G (m6 + r8) t9 et9) ?_
    refine y_aload_n C dX5_step_85 6 rfl rfl ?_
    refine y_dup C dX5_step_86 rfl ?_
    refine y_get (Cn := RX5) (T := TX5) (N := 10) (v := .int (t9.2 2)) C dX5_step_87 hX5_step_X5 0 (sh_67 g T t9 GT A d G) rfl 7 (Nat.le_of_ble_eq_true rfl) kX5_step_9 rfl ?_
    refine y_iload C dX5_step_90 4 rfl ?_
    refine y_if_eq (tgt := 99) C dX5_step_92 rfl (y_same (c := r2 = 0) h) (fun c92 h => ?_) (fun c92 h => ?_)
    · refine y_iconst (v := 1) C dX5_step_99 (by decide) ?_
      refine y_iadd C dX5_step_100 ?_
      obtain ⟨t10, et10⟩ : ∃ z : RV, z = rvI t9 2 ((t9.2 2) + (1 : Int32)) := ⟨_, rfl⟩
      have h := y_letF h et10
      refine y_put (Cn := RX5) (T := TX5) (N := 10) (v := .int ((t9.2 2) + (1 : Int32))) (ty0 := tyX5) (L1 := ([tabC T t10, dayC A d] ++ (tabR g T t10 GT ++ dayR g A d G) : List va_W)) C dX5_step_101 hX5_step_X5 0 (sh_67 g T t9 GT A d G) rfl 7 (Nat.le_of_ble_eq_true rfl) kX5_step_9 tyX5_ok nmX5 rfl rfl rfl (Nat.le_of_ble_eq_true rfl) (sh_82 g T t9 GT A d G ((t9.2 2) + (1 : Int32)) t10 et10) ?_
      refine y_aload_n C dX5_step_104 6 rfl rfl ?_
      refine y_dup C dX5_step_105 rfl ?_
      refine y_get (Cn := RX5) (T := TX5) (N := 10) (v := .int (t10.2 3)) C dX5_step_106 hX5_step_X5 0 (sh_67 g T t10 GT A d G) rfl 8 (Nat.le_of_ble_eq_true rfl) kX5_step_10 rfl ?_
      refine y_iload C dX5_step_109 2 rfl ?_
      refine y_iadd C dX5_step_111 ?_
      obtain ⟨t11, et11⟩ : ∃ z : RV, z = rvI t10 3 ((t10.2 3) + r4) := ⟨_, rfl⟩
      have h := y_letF h et11
      refine y_put (Cn := RX5) (T := TX5) (N := 10) (v := .int ((t10.2 3) + r4)) (ty0 := tyX5) (L1 := ([tabC T t11, dayC A d] ++ (tabR g T t11 GT ++ dayR g A d G) : List va_W)) C dX5_step_112 hX5_step_X5 0 (sh_67 g T t10 GT A d G) rfl 8 (Nat.le_of_ble_eq_true rfl) kX5_step_10 tyX5_ok nmX5 rfl rfl rfl (Nat.le_of_ble_eq_true rfl) (sh_83 g T t10 GT A d G ((t10.2 3) + r4) t11 et11) ?_
      refine y_aload_n C dX5_step_115 6 rfl rfl ?_
      refine y_dup C dX5_step_116 rfl ?_
      refine y_get (Cn := RX5) (T := TX5) (N := 10) (v := .int (t11.2 4)) C dX5_step_117 hX5_step_X5 0 (sh_67 g T t11 GT A d G) rfl 9 (Nat.le_of_ble_eq_true rfl) kX5_step_11 rfl ?_
      refine y_iload C dX5_step_120 0 rfl ?_
      refine y_iload C dX5_step_122 1 rfl ?_
      refine y_isub C dX5_step_124 ?_
      refine y_iadd C dX5_step_125 ?_
      obtain ⟨t12, et12⟩ : ∃ z : RV, z = rvI t11 4 ((t11.2 4) + (m6 - ((t.2 1) + r4))) := ⟨_, rfl⟩
      have h := y_letF h et12
      refine y_put (Cn := RX5) (T := TX5) (N := 10) (v := .int ((t11.2 4) + (m6 - ((t.2 1) + r4)))) (ty0 := tyX5) (L1 := ([tabC T t12, dayC A d] ++ (tabR g T t12 GT ++ dayR g A d G) : List va_W)) C dX5_step_126 hX5_step_X5 0 (sh_67 g T t11 GT A d G) rfl 9 (Nat.le_of_ble_eq_true rfl) kX5_step_11 tyX5_ok nmX5 rfl rfl rfl (Nat.le_of_ble_eq_true rfl) (sh_84 g T t11 GT A d G ((t11.2 4) + (m6 - ((t.2 1) + r4))) t12 et12) ?_
      refine y_aload_n C dX5_step_129 6 rfl rfl ?_
      refine y_get (Cn := RX5) (T := TX5) (N := 10) (v := .ref (T 1)) C dX5_step_130 hX5_step_X5 0 (sh_67 g T t12 GT A d G) rfl 0 (Nat.le_of_ble_eq_true rfl) kX5_step_12 rfl ?_
      refine y_iload C dX5_step_133 0 rfl ?_
      refine y_callVv (As := [.int m6]) (rest := []) C dX5_step_135 (c_X3_add g (T 1) (T 2) 34 (t12.1 0) (GT 0) m6 (by decide)) rfl rfl rfl rfl ⟨Nat.le_of_ble_eq_true rfl, Nat.le_of_ble_eq_true rfl⟩ gX5_step_X3_add (nA := 1) (by decide +kernel) rfl (rowW_recv ⟨_, rfl⟩) (Nat.le_of_ble_eq_true rfl) ⟨Nat.le_of_ble_eq_true rfl, Nat.le_of_ble_eq_true rfl⟩ [2] [0, 1, 3, 4, 5, 6, 7, 8, 9, 10, 11, 12, 13, 14, 15, 16, 17, 18] (nB := 19) rfl (by decide +kernel) (sh_68 g T t12 GT A d G) (fun w9 hw => ?_)
      obtain ⟨y13, G14, e15, rfl⟩ := hw
      obtain ⟨t16, et16⟩ : ∃ z : RV, z = rvR t12 0 y13 := ⟨_, rfl⟩
      obtain ⟨G17, eG17⟩ : ∃ z : Nat → Nat → Int32, z = gs GT 0 G14 := ⟨_, rfl⟩
      have h := y_letF h (show t16 = rvR t12 0 (rAdd 34 (t12.1 0) m6) by rw [et16, e15])
      refine ⟨([tabC T t16, dayC A d] ++ (tabR g T t16 G17 ++ dayR g A d G) : List va_W), (sh_69 g T t12 GT A d G y13 G14 t16 G17 et16 eG17), ?_⟩
      refine y_aload_n C dX5_step_138 6 rfl rfl ?_
      refine y_get (Cn := RX5) (T := TX5) (N := 10) (v := .ref (T 3)) C dX5_step_139 hX5_step_X5 0 (sh_67 g T t16 G17 A d G) rfl 1 (Nat.le_of_ble_eq_true rfl) kX5_step_13 rfl ?_
      refine y_aload_n C dX5_step_142 6 rfl rfl ?_
      refine y_get (Cn := RX5) (T := TX5) (N := 10) (v := .int (t16.2 2)) C dX5_step_143 hX5_step_X5 0 (sh_67 g T t16 G17 A d G) rfl 7 (Nat.le_of_ble_eq_true rfl) kX5_step_9 rfl ?_
      refine y_callVv (As := [.int (t16.2 2)]) (rest := []) C dX5_step_146 (c_X3_add g (T 3) (T 4) 34 (t16.1 1) (G17 1) (t16.2 2) (by decide)) rfl rfl rfl rfl ⟨Nat.le_of_ble_eq_true rfl, Nat.le_of_ble_eq_true rfl⟩ gX5_step_X3_add (nA := 1) (by decide +kernel) rfl (rowW_recv ⟨_, rfl⟩) (Nat.le_of_ble_eq_true rfl) ⟨Nat.le_of_ble_eq_true rfl, Nat.le_of_ble_eq_true rfl⟩ [3] [0, 1, 2, 4, 5, 6, 7, 8, 9, 10, 11, 12, 13, 14, 15, 16, 17, 18] (nB := 19) rfl (by decide +kernel) (sh_70 g T t16 G17 A d G) (fun w9 hw => ?_)
      obtain ⟨y18, G19, e20, rfl⟩ := hw
      obtain ⟨t21, et21⟩ : ∃ z : RV, z = rvR t16 1 y18 := ⟨_, rfl⟩
      obtain ⟨G22, eG22⟩ : ∃ z : Nat → Nat → Int32, z = gs G17 1 G19 := ⟨_, rfl⟩
      have h := y_letF h (show t21 = rvR t16 1 (rAdd 34 (t16.1 1) (t16.2 2)) by rw [et21, e20])
      refine ⟨([tabC T t21, dayC A d] ++ (tabR g T t21 G22 ++ dayR g A d G) : List va_W), (sh_71 g T t16 G17 A d G y18 G19 t21 G22 et21 eG22), ?_⟩
      refine y_aload_n C dX5_step_149 6 rfl rfl ?_
      refine y_get (Cn := RX5) (T := TX5) (N := 10) (v := .ref (T 5)) C dX5_step_150 hX5_step_X5 0 (sh_67 g T t21 G22 A d G) rfl 2 (Nat.le_of_ble_eq_true rfl) kX5_step_14 rfl ?_
      refine y_iload C dX5_step_153 0 rfl ?_
      refine y_iload C dX5_step_155 1 rfl ?_
      refine y_isub C dX5_step_157 ?_
      refine y_callVv (As := [.int (m6 - ((t.2 1) + r4))]) (rest := []) C dX5_step_158 (c_X3_add g (T 5) (T 6) 34 (t21.1 2) (G22 2) (m6 - ((t.2 1) + r4)) (by decide)) rfl rfl rfl rfl ⟨Nat.le_of_ble_eq_true rfl, Nat.le_of_ble_eq_true rfl⟩ gX5_step_X3_add (nA := 1) (by decide +kernel) rfl (rowW_recv ⟨_, rfl⟩) (Nat.le_of_ble_eq_true rfl) ⟨Nat.le_of_ble_eq_true rfl, Nat.le_of_ble_eq_true rfl⟩ [4] [0, 1, 2, 3, 5, 6, 7, 8, 9, 10, 11, 12, 13, 14, 15, 16, 17, 18] (nB := 19) rfl (by decide +kernel) (sh_72 g T t21 G22 A d G) (fun w9 hw => ?_)
      obtain ⟨y23, G24, e25, rfl⟩ := hw
      obtain ⟨t26, et26⟩ : ∃ z : RV, z = rvR t21 2 y23 := ⟨_, rfl⟩
      obtain ⟨G27, eG27⟩ : ∃ z : Nat → Nat → Int32, z = gs G22 2 G24 := ⟨_, rfl⟩
      have h := y_letF h (show t26 = rvR t21 2 (rAdd 34 (t21.1 2) (m6 - ((t.2 1) + r4))) by rw [et26, e25])
      refine ⟨([tabC T t26, dayC A d] ++ (tabR g T t26 G27 ++ dayR g A d G) : List va_W), (sh_73 g T t21 G22 A d G y23 G24 t26 G27 et26 eG27), ?_⟩
      refine y_iload C dX5_step_161 4 rfl ?_
      refine y_if_ne (tgt := 197) C dX5_step_163 rfl (y_same (c := r2 = 0) h) (fun c163 h => ?_) (fun c163 h => ?_)
      · exact absurd c41 c163
      · refine y_aload_n C dX5_step_166 6 rfl rfl ?_
        refine y_get (Cn := RX5) (T := TX5) (N := 10) (v := .ref (T 7)) C dX5_step_167 hX5_step_X5 0 (sh_67 g T t26 G27 A d G) rfl 3 (Nat.le_of_ble_eq_true rfl) kX5_step_15 rfl ?_
        refine y_iload_n C dX5_step_170 5 rfl rfl ?_
        refine y_iload C dX5_step_171 0 rfl ?_
        refine y_callVv (As := [.int r1, .int m6]) (rest := []) C dX5_step_173 (c_X3_change g (T 7) (T 8) 17 (t26.1 3) (G27 3) r1 m6 (by decide)) rfl rfl rfl rfl ⟨Nat.le_of_ble_eq_true rfl, Nat.le_of_ble_eq_true rfl⟩ gX5_step_X3_change (nA := 2) (by decide +kernel) rfl (rowW_recv ⟨_, rfl⟩) (Nat.le_of_ble_eq_true rfl) ⟨Nat.le_of_ble_eq_true rfl, Nat.le_of_ble_eq_true rfl⟩ [5] [0, 1, 2, 3, 4, 6, 7, 8, 9, 10, 11, 12, 13, 14, 15, 16, 17, 18] (nB := 19) rfl (by decide +kernel) (sh_85 g T t26 G27 A d G) (fun w9 hw => ?_)
        obtain ⟨y28, G29, e30, rfl⟩ := hw
        obtain ⟨t31, et31⟩ : ∃ z : RV, z = rvR t26 3 y28 := ⟨_, rfl⟩
        obtain ⟨G32, eG32⟩ : ∃ z : Nat → Nat → Int32, z = gs G27 3 G29 := ⟨_, rfl⟩
        have h := y_letF h (show t31 = rvR t26 3 (rSet (t26.1 3) r1 m6) by rw [et31, e30])
        refine ⟨([tabC T t31, dayC A d] ++ (tabR g T t31 G32 ++ dayR g A d G) : List va_W), (sh_90 g T t26 G27 A d G y28 G29 t31 G32 et31 eG32), ?_⟩
        refine y_aload_n C dX5_step_176 6 rfl rfl ?_
        refine y_get (Cn := RX5) (T := TX5) (N := 10) (v := .int (t31.2 2)) C dX5_step_177 hX5_step_X5 0 (sh_67 g T t31 G32 A d G) rfl 7 (Nat.le_of_ble_eq_true rfl) kX5_step_9 rfl ?_
        refine y_aload_n C dX5_step_180 7 rfl rfl ?_
        refine y_get (Cn := RX0) (T := TX0) (N := 15) (v := .ref (A 1)) C dX5_step_181 hX5_step_X0 1 (sh_74 g T t31 G32 A d G) rfl 0 (Nat.le_of_ble_eq_true rfl) kX5_step_8 rfl ?_
        refine y_iconst (v := 0) C dX5_step_184 (by decide) ?_
        refine y_callV (As := [.int (0 : Int32)]) (rest := [.int (t31.2 2)]) C dX5_step_185 (c_X3_at g (A 1) (A 2) 3 (d.1 0) (G 0) (0 : Int32) (by decide)) rfl rfl rfl rfl ⟨Nat.le_of_ble_eq_true rfl, Nat.le_of_ble_eq_true rfl⟩ gX5_step_X3_at (nA := 1) (by decide +kernel) rfl (rowW_recv ⟨_, rfl⟩) (Nat.le_of_ble_eq_true rfl) ⟨Nat.le_of_ble_eq_true rfl, Nat.le_of_ble_eq_true rfl⟩ [7] [0, 1, 2, 3, 4, 5, 6, 8, 9, 10, 11, 12, 13, 14, 15, 16, 17, 18] (nB := 19) rfl (by decide +kernel) (sh_86 g T t31 G32 A d G) (fun r33 w9 hw => ?_)
        obtain ⟨er33, rfl⟩ := hw
        have h := y_letF h er33
        refine ⟨([tabC T t31, dayC A d] ++ (tabR g T t31 G32 ++ dayR g A d G) : List va_W), ⟨(sh_86 g T t31 G32 A d G), rfl, rfl⟩, ?_⟩
        refine y_icmp_gt (tgt := 195) C dX5_step_188 rfl (y_e h) (fun c188 h => ?_) (fun c188 h => ?_)
        · refine y_iconst (v := 0) C dX5_step_195 (by decide) ?_
          exact HR 196 dX5_step_196 (0 : Int32) _ _ _ _ (rfl) (Nat.le_of_ble_eq_true rfl) (Nat.le_of_ble_eq_true rfl) ⟨by rw [h], t31, G32, by rw [h], rfl⟩
        · refine y_iconst (v := 1) C dX5_step_191 (by decide) ?_
          refine y_goto (tgt := 196) C dX5_step_192 rfl ?_
          exact HR 196 dX5_step_196 (1 : Int32) _ _ _ _ (rfl) (Nat.le_of_ble_eq_true rfl) (Nat.le_of_ble_eq_true rfl) ⟨by rw [h], t31, G32, by rw [h], rfl⟩
    · exact absurd c41 c92
  · refine y_iload C dX5_step_44 0 rfl ?_
    refine y_goto (tgt := 62) C dX5_step_46 rfl ?_
    refine y_istore (lv' := [(8, .int ((t.2 1) + r4)), (7, .int ((t.2 1) + r4)), (6, .int r4), (5, .int r3), (4, .int r2), (3, .int r1), (0, .ref (T 0)), (1, .ref (A 0)), (2, .int v)]) C dX5_step_62 (Nat.le_of_ble_eq_true rfl) rfl ?_
    refine y_aload_n C dX5_step_64 6 rfl rfl ?_
    refine y_iload C dX5_step_65 3 rfl ?_
    obtain ⟨t34, et34⟩ : ∃ z : RV, z = rvI t 0 r3 := ⟨_, rfl⟩
    have h := y_letF h et34
    refine y_put (Cn := RX5) (T := TX5) (N := 10) (v := .int r3) (ty0 := tyX5) (L1 := ([tabC T t34, dayC A d] ++ (tabR g T t34 GT ++ dayR g A d G) : List va_W)) C dX5_step_67 hX5_step_X5 0 (sh_67 g T t GT A d G) rfl 5 (Nat.le_of_ble_eq_true rfl) kX5_step_1 tyX5_ok nmX5 rfl rfl rfl (Nat.le_of_ble_eq_true rfl) (sh_79 g T t GT A d G r3 t34 et34) ?_
    refine y_aload_n C dX5_step_70 6 rfl rfl ?_
    refine y_iload C dX5_step_71 0 rfl ?_
    refine y_aload_n C dX5_step_73 7 rfl rfl ?_
    refine y_get (Cn := RX0) (T := TX0) (N := 15) (v := .ref (A 1)) C dX5_step_74 hX5_step_X0 1 (sh_74 g T t34 GT A d G) rfl 0 (Nat.le_of_ble_eq_true rfl) kX5_step_8 rfl ?_
    refine y_iconst (v := 2) C dX5_step_77 (by decide) ?_
    refine y_callV (As := [.int (2 : Int32)]) (rest := [.int ((t.2 1) + r4), .ref (T 0)]) C dX5_step_78 (c_X3_at g (A 1) (A 2) 3 (d.1 0) (G 0) (2 : Int32) (by decide)) rfl rfl rfl rfl ⟨Nat.le_of_ble_eq_true rfl, Nat.le_of_ble_eq_true rfl⟩ gX5_step_X3_at (nA := 1) (by decide +kernel) rfl (rowW_recv ⟨_, rfl⟩) (Nat.le_of_ble_eq_true rfl) ⟨Nat.le_of_ble_eq_true rfl, Nat.le_of_ble_eq_true rfl⟩ [7] [0, 1, 2, 3, 4, 5, 6, 8, 9, 10, 11, 12, 13, 14, 15, 16, 17, 18] (nB := 19) rfl (by decide +kernel) (sh_86 g T t34 GT A d G) (fun r35 w9 hw => ?_)
    obtain ⟨er35, rfl⟩ := hw
    have h := y_letF h er35
    refine ⟨([tabC T t34, dayC A d] ++ (tabR g T t34 GT ++ dayR g A d G) : List va_W), ⟨(sh_86 g T t34 GT A d G), rfl, rfl⟩, ?_⟩
    refine y_iadd C dX5_step_81 ?_
    obtain ⟨t36, et36⟩ : ∃ z : RV, z = rvI t34 1 (((t.2 1) + r4) + r35) := ⟨_, rfl⟩
    have h := y_letF h et36
    refine y_put (Cn := RX5) (T := TX5) (N := 10) (v := .int (((t.2 1) + r4) + r35)) (ty0 := tyX5) (L1 := ([tabC T t36, dayC A d] ++ (tabR g T t36 GT ++ dayR g A d G) : List va_W)) C dX5_step_82 hX5_step_X5 0 (sh_67 g T t34 GT A d G) rfl 6 (Nat.le_of_ble_eq_true rfl) kX5_step_2 tyX5_ok nmX5 rfl rfl rfl (Nat.le_of_ble_eq_true rfl) (sh_80 g T t34 GT A d G (((t.2 1) + r4) + r35) t36 et36) ?_
    refine y_aload_n C dX5_step_85 6 rfl rfl ?_
    refine y_dup C dX5_step_86 rfl ?_
    refine y_get (Cn := RX5) (T := TX5) (N := 10) (v := .int (t36.2 2)) C dX5_step_87 hX5_step_X5 0 (sh_67 g T t36 GT A d G) rfl 7 (Nat.le_of_ble_eq_true rfl) kX5_step_9 rfl ?_
    refine y_iload C dX5_step_90 4 rfl ?_
    refine y_if_eq (tgt := 99) C dX5_step_92 rfl (y_same (c := r2 = 0) h) (fun c92 h => ?_) (fun c92 h => ?_)
    · exact absurd c92 c41
    · refine y_iconst (v := -1) C dX5_step_95 (by decide) ?_
      refine y_goto (tgt := 100) C dX5_step_96 rfl ?_
      refine y_iadd C dX5_step_100 ?_
      obtain ⟨t37, et37⟩ : ∃ z : RV, z = rvI t36 2 ((t36.2 2) + (-1 : Int32)) := ⟨_, rfl⟩
      have h := y_letF h et37
      refine y_put (Cn := RX5) (T := TX5) (N := 10) (v := .int ((t36.2 2) + (-1 : Int32))) (ty0 := tyX5) (L1 := ([tabC T t37, dayC A d] ++ (tabR g T t37 GT ++ dayR g A d G) : List va_W)) C dX5_step_101 hX5_step_X5 0 (sh_67 g T t36 GT A d G) rfl 7 (Nat.le_of_ble_eq_true rfl) kX5_step_9 tyX5_ok nmX5 rfl rfl rfl (Nat.le_of_ble_eq_true rfl) (sh_82 g T t36 GT A d G ((t36.2 2) + (-1 : Int32)) t37 et37) ?_
      refine y_aload_n C dX5_step_104 6 rfl rfl ?_
      refine y_dup C dX5_step_105 rfl ?_
      refine y_get (Cn := RX5) (T := TX5) (N := 10) (v := .int (t37.2 3)) C dX5_step_106 hX5_step_X5 0 (sh_67 g T t37 GT A d G) rfl 8 (Nat.le_of_ble_eq_true rfl) kX5_step_10 rfl ?_
      refine y_iload C dX5_step_109 2 rfl ?_
      refine y_iadd C dX5_step_111 ?_
      obtain ⟨t38, et38⟩ : ∃ z : RV, z = rvI t37 3 ((t37.2 3) + r4) := ⟨_, rfl⟩
      have h := y_letF h et38
      refine y_put (Cn := RX5) (T := TX5) (N := 10) (v := .int ((t37.2 3) + r4)) (ty0 := tyX5) (L1 := ([tabC T t38, dayC A d] ++ (tabR g T t38 GT ++ dayR g A d G) : List va_W)) C dX5_step_112 hX5_step_X5 0 (sh_67 g T t37 GT A d G) rfl 8 (Nat.le_of_ble_eq_true rfl) kX5_step_10 tyX5_ok nmX5 rfl rfl rfl (Nat.le_of_ble_eq_true rfl) (sh_83 g T t37 GT A d G ((t37.2 3) + r4) t38 et38) ?_
      refine y_aload_n C dX5_step_115 6 rfl rfl ?_
      refine y_dup C dX5_step_116 rfl ?_
      refine y_get (Cn := RX5) (T := TX5) (N := 10) (v := .int (t38.2 4)) C dX5_step_117 hX5_step_X5 0 (sh_67 g T t38 GT A d G) rfl 9 (Nat.le_of_ble_eq_true rfl) kX5_step_11 rfl ?_
      refine y_iload C dX5_step_120 0 rfl ?_
      refine y_iload C dX5_step_122 1 rfl ?_
      refine y_isub C dX5_step_124 ?_
      refine y_iadd C dX5_step_125 ?_
      obtain ⟨t39, et39⟩ : ∃ z : RV, z = rvI t38 4 ((t38.2 4) + (((t.2 1) + r4) - ((t.2 1) + r4))) := ⟨_, rfl⟩
      have h := y_letF h et39
      refine y_put (Cn := RX5) (T := TX5) (N := 10) (v := .int ((t38.2 4) + (((t.2 1) + r4) - ((t.2 1) + r4)))) (ty0 := tyX5) (L1 := ([tabC T t39, dayC A d] ++ (tabR g T t39 GT ++ dayR g A d G) : List va_W)) C dX5_step_126 hX5_step_X5 0 (sh_67 g T t38 GT A d G) rfl 9 (Nat.le_of_ble_eq_true rfl) kX5_step_11 tyX5_ok nmX5 rfl rfl rfl (Nat.le_of_ble_eq_true rfl) (sh_84 g T t38 GT A d G ((t38.2 4) + (((t.2 1) + r4) - ((t.2 1) + r4))) t39 et39) ?_
      refine y_aload_n C dX5_step_129 6 rfl rfl ?_
      refine y_get (Cn := RX5) (T := TX5) (N := 10) (v := .ref (T 1)) C dX5_step_130 hX5_step_X5 0 (sh_67 g T t39 GT A d G) rfl 0 (Nat.le_of_ble_eq_true rfl) kX5_step_12 rfl ?_
      refine y_iload C dX5_step_133 0 rfl ?_
      refine y_callVv (As := [.int ((t.2 1) + r4)]) (rest := []) C dX5_step_135 (c_X3_add g (T 1) (T 2) 34 (t39.1 0) (GT 0) ((t.2 1) + r4) (by decide)) rfl rfl rfl rfl ⟨Nat.le_of_ble_eq_true rfl, Nat.le_of_ble_eq_true rfl⟩ gX5_step_X3_add (nA := 1) (by decide +kernel) rfl (rowW_recv ⟨_, rfl⟩) (Nat.le_of_ble_eq_true rfl) ⟨Nat.le_of_ble_eq_true rfl, Nat.le_of_ble_eq_true rfl⟩ [2] [0, 1, 3, 4, 5, 6, 7, 8, 9, 10, 11, 12, 13, 14, 15, 16, 17, 18] (nB := 19) rfl (by decide +kernel) (sh_68 g T t39 GT A d G) (fun w9 hw => ?_)
      obtain ⟨y40, G41, e42, rfl⟩ := hw
      obtain ⟨t43, et43⟩ : ∃ z : RV, z = rvR t39 0 y40 := ⟨_, rfl⟩
      obtain ⟨G44, eG44⟩ : ∃ z : Nat → Nat → Int32, z = gs GT 0 G41 := ⟨_, rfl⟩
      have h := y_letF h (show t43 = rvR t39 0 (rAdd 34 (t39.1 0) ((t.2 1) + r4)) by rw [et43, e42])
      refine ⟨([tabC T t43, dayC A d] ++ (tabR g T t43 G44 ++ dayR g A d G) : List va_W), (sh_69 g T t39 GT A d G y40 G41 t43 G44 et43 eG44), ?_⟩
      refine y_aload_n C dX5_step_138 6 rfl rfl ?_
      refine y_get (Cn := RX5) (T := TX5) (N := 10) (v := .ref (T 3)) C dX5_step_139 hX5_step_X5 0 (sh_67 g T t43 G44 A d G) rfl 1 (Nat.le_of_ble_eq_true rfl) kX5_step_13 rfl ?_
      refine y_aload_n C dX5_step_142 6 rfl rfl ?_
      refine y_get (Cn := RX5) (T := TX5) (N := 10) (v := .int (t43.2 2)) C dX5_step_143 hX5_step_X5 0 (sh_67 g T t43 G44 A d G) rfl 7 (Nat.le_of_ble_eq_true rfl) kX5_step_9 rfl ?_
      refine y_callVv (As := [.int (t43.2 2)]) (rest := []) C dX5_step_146 (c_X3_add g (T 3) (T 4) 34 (t43.1 1) (G44 1) (t43.2 2) (by decide)) rfl rfl rfl rfl ⟨Nat.le_of_ble_eq_true rfl, Nat.le_of_ble_eq_true rfl⟩ gX5_step_X3_add (nA := 1) (by decide +kernel) rfl (rowW_recv ⟨_, rfl⟩) (Nat.le_of_ble_eq_true rfl) ⟨Nat.le_of_ble_eq_true rfl, Nat.le_of_ble_eq_true rfl⟩ [3] [0, 1, 2, 4, 5, 6, 7, 8, 9, 10, 11, 12, 13, 14, 15, 16, 17, 18] (nB := 19) rfl (by decide +kernel) (sh_70 g T t43 G44 A d G) (fun w9 hw => ?_)
      obtain ⟨y45, G46, e47, rfl⟩ := hw
      obtain ⟨t48, et48⟩ : ∃ z : RV, z = rvR t43 1 y45 := ⟨_, rfl⟩
      obtain ⟨G49, eG49⟩ : ∃ z : Nat → Nat → Int32, z = gs G44 1 G46 := ⟨_, rfl⟩
      have h := y_letF h (show t48 = rvR t43 1 (rAdd 34 (t43.1 1) (t43.2 2)) by rw [et48, e47])
      refine ⟨([tabC T t48, dayC A d] ++ (tabR g T t48 G49 ++ dayR g A d G) : List va_W), (sh_71 g T t43 G44 A d G y45 G46 t48 G49 et48 eG49), ?_⟩
      refine y_aload_n C dX5_step_149 6 rfl rfl ?_
      refine y_get (Cn := RX5) (T := TX5) (N := 10) (v := .ref (T 5)) C dX5_step_150 hX5_step_X5 0 (sh_67 g T t48 G49 A d G) rfl 2 (Nat.le_of_ble_eq_true rfl) kX5_step_14 rfl ?_
      refine y_iload C dX5_step_153 0 rfl ?_
      refine y_iload C dX5_step_155 1 rfl ?_
      refine y_isub C dX5_step_157 ?_
      refine y_callVv (As := [.int (((t.2 1) + r4) - ((t.2 1) + r4))]) (rest := []) C dX5_step_158 (c_X3_add g (T 5) (T 6) 34 (t48.1 2) (G49 2) (((t.2 1) + r4) - ((t.2 1) + r4)) (by decide)) rfl rfl rfl rfl ⟨Nat.le_of_ble_eq_true rfl, Nat.le_of_ble_eq_true rfl⟩ gX5_step_X3_add (nA := 1) (by decide +kernel) rfl (rowW_recv ⟨_, rfl⟩) (Nat.le_of_ble_eq_true rfl) ⟨Nat.le_of_ble_eq_true rfl, Nat.le_of_ble_eq_true rfl⟩ [4] [0, 1, 2, 3, 5, 6, 7, 8, 9, 10, 11, 12, 13, 14, 15, 16, 17, 18] (nB := 19) rfl (by decide +kernel) (sh_72 g T t48 G49 A d G) (fun w9 hw => ?_)
      obtain ⟨y50, G51, e52, rfl⟩ := hw
      obtain ⟨t53, et53⟩ : ∃ z : RV, z = rvR t48 2 y50 := ⟨_, rfl⟩
      obtain ⟨G54, eG54⟩ : ∃ z : Nat → Nat → Int32, z = gs G49 2 G51 := ⟨_, rfl⟩
      have h := y_letF h (show t53 = rvR t48 2 (rAdd 34 (t48.1 2) (((t.2 1) + r4) - ((t.2 1) + r4))) by rw [et53, e52])
      refine ⟨([tabC T t53, dayC A d] ++ (tabR g T t53 G54 ++ dayR g A d G) : List va_W), (sh_73 g T t48 G49 A d G y50 G51 t53 G54 et53 eG54), ?_⟩
      refine y_iload C dX5_step_161 4 rfl ?_
      refine y_if_ne (tgt := 197) C dX5_step_163 rfl (y_same (c := r2 = 0) h) (fun c163 h => ?_) (fun c163 h => ?_)
      · refine y_aload_n C dX5_step_197 6 rfl rfl ?_
        refine y_get (Cn := RX5) (T := TX5) (N := 10) (v := .ref (T 9)) C dX5_step_198 hX5_step_X5 0 (sh_67 g T t53 G54 A d G) rfl 4 (Nat.le_of_ble_eq_true rfl) kX5_step_16 rfl ?_
        refine y_iload_n C dX5_step_201 5 rfl rfl ?_
        refine y_iload C dX5_step_202 0 rfl ?_
        refine y_callVv (As := [.int r1, .int ((t.2 1) + r4)]) (rest := []) C dX5_step_204 (c_X3_change g (T 9) (T 10) 17 (t53.1 4) (G54 4) r1 ((t.2 1) + r4) (by decide)) rfl rfl rfl rfl ⟨Nat.le_of_ble_eq_true rfl, Nat.le_of_ble_eq_true rfl⟩ gX5_step_X3_change (nA := 2) (by decide +kernel) rfl (rowW_recv ⟨_, rfl⟩) (Nat.le_of_ble_eq_true rfl) ⟨Nat.le_of_ble_eq_true rfl, Nat.le_of_ble_eq_true rfl⟩ [6] [0, 1, 2, 3, 4, 5, 7, 8, 9, 10, 11, 12, 13, 14, 15, 16, 17, 18] (nB := 19) rfl (by decide +kernel) (sh_91 g T t53 G54 A d G) (fun w9 hw => ?_)
        obtain ⟨y55, G56, e57, rfl⟩ := hw
        obtain ⟨t58, et58⟩ : ∃ z : RV, z = rvR t53 4 y55 := ⟨_, rfl⟩
        obtain ⟨G59, eG59⟩ : ∃ z : Nat → Nat → Int32, z = gs G54 4 G56 := ⟨_, rfl⟩
        have h := y_letF h (show t58 = rvR t53 4 (rSet (t53.1 4) r1 ((t.2 1) + r4)) by rw [et58, e57])
        refine ⟨([tabC T t58, dayC A d] ++ (tabR g T t58 G59 ++ dayR g A d G) : List va_W), (sh_92 g T t53 G54 A d G y55 G56 t58 G59 et58 eG59), ?_⟩
        refine y_iload C dX5_step_207 0 rfl ?_
        refine y_aload_n C dX5_step_209 7 rfl rfl ?_
        refine y_get (Cn := RX0) (T := TX0) (N := 15) (v := .ref (A 13)) C dX5_step_210 hX5_step_X0 1 (sh_74 g T t58 G59 A d G) rfl 6 (Nat.le_of_ble_eq_true rfl) kX5_step_17 rfl ?_
        refine y_iload_n C dX5_step_213 5 rfl rfl ?_
        refine y_callV (As := [.int r1]) (rest := [.int ((t.2 1) + r4)]) C dX5_step_214 (c_X3_at g (A 13) (A 14) 17 (d.1 6) (G 6) r1 (by decide)) rfl rfl rfl rfl ⟨Nat.le_of_ble_eq_true rfl, Nat.le_of_ble_eq_true rfl⟩ gX5_step_X3_at (nA := 1) (by decide +kernel) rfl (rowW_recv ⟨_, rfl⟩) (Nat.le_of_ble_eq_true rfl) ⟨Nat.le_of_ble_eq_true rfl, Nat.le_of_ble_eq_true rfl⟩ [13] [0, 1, 2, 3, 4, 5, 6, 7, 8, 9, 10, 11, 12, 14, 15, 16, 17, 18] (nB := 19) rfl (by decide +kernel) (sh_93 g T t58 G59 A d G) (fun r60 w9 hw => ?_)
        obtain ⟨er60, rfl⟩ := hw
        have h := y_letF h er60
        refine ⟨([tabC T t58, dayC A d] ++ (tabR g T t58 G59 ++ dayR g A d G) : List va_W), ⟨(sh_93 g T t58 G59 A d G), rfl, rfl⟩, ?_⟩
        refine y_icmp_gt (tgt := 235) C dX5_step_217 rfl (y_e h) (fun c217 h => ?_) (fun c217 h => ?_)
        · refine y_iconst (v := 0) C dX5_step_235 (by decide) ?_
          exact HR 236 dX5_step_236 (0 : Int32) _ _ _ _ (rfl) (Nat.le_of_ble_eq_true rfl) (Nat.le_of_ble_eq_true rfl) ⟨by rw [h], t58, G59, by rw [h], rfl⟩
        · refine y_iload C dX5_step_220 0 rfl ?_
          refine y_aload_n C dX5_step_222 6 rfl rfl ?_
          refine y_aload_n C dX5_step_223 7 rfl rfl ?_
          refine y_iload_n C dX5_step_224 5 rfl rfl ?_
          refine y_callV (As := [.ref (A 0), .int r1]) (rest := [.int ((t.2 1) + r4)]) C dX5_step_225 (c_X5_latestByDetour g T t58 G59 A d G r1) rfl rfl rfl rfl ⟨Nat.le_of_ble_eq_true rfl, Nat.le_of_ble_eq_true rfl⟩ gX5_step_X5_latestByDetour (nA := 2) (by decide +kernel) rfl (sh_95 g T t58 G59 A d G) (Nat.le_of_ble_eq_true rfl) ⟨Nat.le_of_ble_eq_true rfl, Nat.le_of_ble_eq_true rfl⟩ [0, 1, 2, 3, 4, 5, 6, 7, 8, 9, 10, 11, 12, 13, 14, 15, 16, 17, 18] [] (nB := 19) rfl (by decide +kernel) (sh_94 g T t58 G59 A d G) (fun r61 w9 hw => ?_)
          obtain ⟨er61, rfl⟩ := hw
          have h := y_letF h er61
          refine ⟨([tabC T t58, dayC A d] ++ (tabR g T t58 G59 ++ dayR g A d G) : List va_W), ⟨(sh_94 g T t58 G59 A d G), rfl, rfl⟩, ?_⟩
          refine y_icmp_gt (tgt := 235) C dX5_step_228 rfl (y_e h) (fun c228 h => ?_) (fun c228 h => ?_)
          · refine y_iconst (v := 0) C dX5_step_235 (by decide) ?_
            exact HR 236 dX5_step_236 (0 : Int32) _ _ _ _ (rfl) (Nat.le_of_ble_eq_true rfl) (Nat.le_of_ble_eq_true rfl) ⟨by rw [h], t58, G59, by rw [h], rfl⟩
          · refine y_iconst (v := 1) C dX5_step_231 (by decide) ?_
            refine y_goto (tgt := 236) C dX5_step_232 rfl ?_
            exact HR 236 dX5_step_236 (1 : Int32) _ _ _ _ (rfl) (Nat.le_of_ble_eq_true rfl) (Nat.le_of_ble_eq_true rfl) ⟨by rw [h], t58, G59, by rw [h], rfl⟩
      · exact absurd c163 c41
