theorem dX4_find_0 : decode cX4_find 0 = .ok (.aload_n 0, 1) := by decide +kernel
theorem dX4_find_1 : decode cX4_find 1 = .ok (.getfield 10, 3) := by decide +kernel
theorem dX4_find_4 : decode cX4_find 4 = .ok (.aload_n 1, 1) := by decide +kernel
theorem dX4_find_5 : decode cX4_find 5 = .ok (.invokevirtual 23, 3) := by decide +kernel
theorem dX4_find_8 : decode cX4_find 8 = .ok (.aload_n 0, 1) := by decide +kernel
theorem dX4_find_9 : decode cX4_find 9 = .ok (.getfield 10, 3) := by decide +kernel
theorem dX4_find_12 : decode cX4_find 12 = .ok (.invokevirtual 27, 3) := by decide +kernel
theorem dX4_find_15 : decode cX4_find 15 = .ok (.aload_n 0, 1) := by decide +kernel
theorem dX4_find_16 : decode cX4_find 16 = .ok (.getfield 10, 3) := by decide +kernel
theorem dX4_find_19 : decode cX4_find 19 = .ok (.iload_n 2, 1) := by decide +kernel
theorem dX4_find_20 : decode cX4_find 20 = .ok (.iload_n 3, 1) := by decide +kernel
theorem dX4_find_21 : decode cX4_find 21 = .ok (.iload 4, 2) := by decide +kernel
theorem dX4_find_23 : decode cX4_find 23 = .ok (.iload 5, 2) := by decide +kernel
theorem dX4_find_25 : decode cX4_find 25 = .ok (.invokevirtual 30, 3) := by decide +kernel
theorem dX4_find_28 : decode cX4_find 28 = .ok (.istore 6, 2) := by decide +kernel
theorem dX4_find_30 : decode cX4_find 30 = .ok (.aload_n 0, 1) := by decide +kernel
theorem dX4_find_31 : decode cX4_find 31 = .ok (.iconst 0, 1) := by decide +kernel
theorem dX4_find_32 : decode cX4_find 32 = .ok (.putfield 34, 3) := by decide +kernel
theorem dX4_find_35 : decode cX4_find 35 = .ok (.aload_n 1, 1) := by decide +kernel
theorem dX4_find_36 : decode cX4_find 36 = .ok (.getfield 38, 3) := by decide +kernel
theorem dX4_find_39 : decode cX4_find 39 = .ok (.invokevirtual 42, 3) := by decide +kernel
theorem dX4_find_42 : decode cX4_find 42 = .ok (.istore 7, 2) := by decide +kernel
theorem dX4_find_44 : decode cX4_find 44 = .ok (.aload_n 1, 1) := by decide +kernel
theorem dX4_find_45 : decode cX4_find 45 = .ok (.invokevirtual 48, 3) := by decide +kernel
theorem dX4_find_48 : decode cX4_find 48 = .ok (.ifCond .eq 7, 3) := by decide +kernel
theorem dX4_find_51 : decode cX4_find 51 = .ok (.iconst 1, 1) := by decide +kernel
theorem dX4_find_52 : decode cX4_find 52 = .ok (.goto 4, 3) := by decide +kernel
theorem dX4_find_55 : decode cX4_find 55 = .ok (.iconst 0, 1) := by decide +kernel
theorem dX4_find_56 : decode cX4_find 56 = .ok (.istore 8, 2) := by decide +kernel
theorem dX4_find_58 : decode cX4_find 58 = .ok (.iload 8, 2) := by decide +kernel
theorem dX4_find_60 : decode cX4_find 60 = .ok (.iload 7, 2) := by decide +kernel
theorem dX4_find_62 : decode cX4_find 62 = .ok (.if_icmp .gt 68, 3) := by decide +kernel
theorem dX4_find_65 : decode cX4_find 65 = .ok (.iload 8, 2) := by decide +kernel
theorem dX4_find_67 : decode cX4_find 67 = .ok (.iconst 1, 1) := by decide +kernel
theorem dX4_find_68 : decode cX4_find 68 = .ok (.iadd, 1) := by decide +kernel
theorem dX4_find_69 : decode cX4_find 69 = .ok (.istore 9, 2) := by decide +kernel
theorem dX4_find_71 : decode cX4_find 71 = .ok (.iload 9, 2) := by decide +kernel
theorem dX4_find_73 : decode cX4_find 73 = .ok (.iload 7, 2) := by decide +kernel
theorem dX4_find_75 : decode cX4_find 75 = .ok (.iconst 1, 1) := by decide +kernel
theorem dX4_find_76 : decode cX4_find 76 = .ok (.iadd, 1) := by decide +kernel
theorem dX4_find_77 : decode cX4_find 77 = .ok (.if_icmp .gt 47, 3) := by decide +kernel
theorem dX4_find_80 : decode cX4_find 80 = .ok (.aload_n 0, 1) := by decide +kernel
theorem dX4_find_81 : decode cX4_find 81 = .ok (.aload_n 1, 1) := by decide +kernel
theorem dX4_find_82 : decode cX4_find 82 = .ok (.getfield 38, 3) := by decide +kernel
theorem dX4_find_85 : decode cX4_find 85 = .ok (.iload 6, 2) := by decide +kernel
theorem dX4_find_87 : decode cX4_find 87 = .ok (.iload 8, 2) := by decide +kernel
theorem dX4_find_89 : decode cX4_find 89 = .ok (.iload 9, 2) := by decide +kernel
theorem dX4_find_91 : decode cX4_find 91 = .ok (.invokevirtual 52, 3) := by decide +kernel
theorem dX4_find_94 : decode cX4_find 94 = .ok (.aload_n 0, 1) := by decide +kernel
theorem dX4_find_95 : decode cX4_find 95 = .ok (.getfield 19, 3) := by decide +kernel
theorem dX4_find_98 : decode cX4_find 98 = .ok (.aload_n 0, 1) := by decide +kernel
theorem dX4_find_99 : decode cX4_find 99 = .ok (.getfield 10, 3) := by decide +kernel
theorem dX4_find_102 : decode cX4_find 102 = .ok (.invokevirtual 56, 3) := by decide +kernel
theorem dX4_find_105 : decode cX4_find 105 = .ok (.ifCond .eq 13, 3) := by decide +kernel
theorem dX4_find_108 : decode cX4_find 108 = .ok (.aload_n 0, 1) := by decide +kernel
theorem dX4_find_109 : decode cX4_find 109 = .ok (.iload 6, 2) := by decide +kernel
theorem dX4_find_111 : decode cX4_find 111 = .ok (.iload 8, 2) := by decide +kernel
theorem dX4_find_113 : decode cX4_find 113 = .ok (.iload 9, 2) := by decide +kernel
theorem dX4_find_115 : decode cX4_find 115 = .ok (.invokevirtual 60, 3) := by decide +kernel
theorem dX4_find_118 : decode cX4_find 118 = .ok (.iinc 9 1, 3) := by decide +kernel
theorem dX4_find_121 : decode cX4_find 121 = .ok (.goto (-50), 3) := by decide +kernel
theorem dX4_find_124 : decode cX4_find 124 = .ok (.iinc 8 1, 3) := by decide +kernel
theorem dX4_find_127 : decode cX4_find 127 = .ok (.goto (-69), 3) := by decide +kernel
theorem dX4_find_130 : decode cX4_find 130 = .ok (.aload_n 0, 1) := by decide +kernel
theorem dX4_find_131 : decode cX4_find 131 = .ok (.getfield 34, 3) := by decide +kernel
theorem dX4_find_134 : decode cX4_find 134 = .ok (.ifCond .le 21, 3) := by decide +kernel
theorem dX4_find_137 : decode cX4_find 137 = .ok (.aload_n 0, 1) := by decide +kernel
theorem dX4_find_138 : decode cX4_find 138 = .ok (.aload_n 1, 1) := by decide +kernel
theorem dX4_find_139 : decode cX4_find 139 = .ok (.getfield 38, 3) := by decide +kernel
theorem dX4_find_142 : decode cX4_find 142 = .ok (.iload 6, 2) := by decide +kernel
theorem dX4_find_144 : decode cX4_find 144 = .ok (.aload_n 0, 1) := by decide +kernel
theorem dX4_find_145 : decode cX4_find 145 = .ok (.getfield 64, 3) := by decide +kernel
theorem dX4_find_148 : decode cX4_find 148 = .ok (.aload_n 0, 1) := by decide +kernel
theorem dX4_find_149 : decode cX4_find 149 = .ok (.getfield 67, 3) := by decide +kernel
theorem dX4_find_152 : decode cX4_find 152 = .ok (.invokevirtual 52, 3) := by decide +kernel
theorem dX4_find_155 : decode cX4_find 155 = .ok (.aload_n 0, 1) := by decide +kernel
theorem dX4_find_156 : decode cX4_find 156 = .ok (.getfield 34, 3) := by decide +kernel
theorem dX4_find_159 : decode cX4_find 159 = .ok (.ifCond .le 7, 3) := by decide +kernel
theorem dX4_find_162 : decode cX4_find 162 = .ok (.iconst 1, 1) := by decide +kernel
theorem dX4_find_163 : decode cX4_find 163 = .ok (.goto 4, 3) := by decide +kernel
theorem dX4_find_166 : decode cX4_find 166 = .ok (.iconst 0, 1) := by decide +kernel
theorem dX4_find_167 : decode cX4_find 167 = .ok (.ireturn, 1) := by decide +kernel
set_option maxRecDepth 20000 in
theorem ggX4_find_X4_lay : GoodIn wsX4_find wsX4_lay := goodIn_r _ [81, 1, 3, 82, 28, 29, 30, 31, 32, 33, 34, 35, 36, 37, 83, 84, 85, 86, 58, 59, 60, 87, 88, 164, 165, 166, 167, 168, 169, 170, 171, 172, 173, 174, 175, 176, 177, 178, 179, 180, 181, 182, 183, 184, 185, 186, 187, 188, 189] (by decide +kernel) (by decide +kernel)
set_option maxRecDepth 20000 in
theorem gX4_find_X4_lay : GoodIn wsX4_find (wsV RX4 52 RX4 yX4_lay wsX4_lay) := goodIn_app (goodIn_of _ (by decide +kernel)) ggX4_find_X4_lay
set_option maxRecDepth 20000 in
theorem ggX4_find_X5_keepsAll : GoodIn wsX4_find wsX5_keepsAll := goodIn_r _ [93, 94, 95, 96, 97, 92, 98, 99, 100, 101, 102, 103, 104, 105, 106, 107, 108, 109, 110, 111, 112, 113, 114, 115, 30, 116, 32, 117, 28, 29, 31, 33, 34, 35, 36, 37, 118, 119, 120, 10, 121, 20, 45, 46, 47, 48, 68, 69, 70, 71, 122, 123, 124, 125, 126, 127, 128, 129, 43, 44, 130, 131, 132, 84, 133, 134, 135, 136, 137, 138, 139, 16, 15, 140, 62, 63, 64, 13, 65, 66, 67, 14, 141, 54, 55, 56, 57, 58, 59, 60, 142, 143, 144, 145, 146, 147, 148, 149, 150, 173, 174, 175, 176, 177, 178, 179, 180, 181, 182, 183, 184, 185, 186, 187, 190, 191, 192, 193, 194, 195, 196, 197, 198, 199, 188, 189] (by decide +kernel) (by decide +kernel)
set_option maxRecDepth 20000 in
theorem gX4_find_X5_keepsAll : GoodIn wsX4_find (wsV RX4 56 RX5 yX5_keepsAll wsX5_keepsAll) := goodIn_app (goodIn_of _ (by decide +kernel)) ggX4_find_X5_keepsAll
set_option maxRecDepth 20000 in
theorem ggX4_find_X4_takeWay : GoodIn wsX4_find wsX4_takeWay := goodIn_r _ [154, 4, 155, 2, 156, 157, 35, 36, 37, 158, 159, 5, 6, 160, 161, 162, 163, 69, 70, 30, 71, 32, 33, 164, 165, 166, 167, 168, 169, 170, 171, 172, 190, 191, 192, 193, 194, 195, 196, 197, 198, 199, 188, 189] (by decide +kernel) (by decide +kernel)
set_option maxRecDepth 20000 in
theorem gX4_find_X4_takeWay : GoodIn wsX4_find (wsV RX4 60 RX4 yX4_takeWay wsX4_takeWay) := goodIn_app (goodIn_of _ (by decide +kernel)) ggX4_find_X4_takeWay
set_option maxRecDepth 20000 in
theorem ggX4_find_X0_copy : GoodIn wsX4_find wsX0_copy := goodIn_r _ [11, 12, 13, 14, 15, 16, 17, 18, 19, 20, 21, 22, 23, 24, 25, 26, 27, 28, 29, 30, 31, 32, 33, 34, 35, 36, 37, 173, 174, 175, 176, 177, 178, 179, 180, 181, 182, 183, 184, 185, 186, 187, 188, 189] (by decide +kernel) (by decide +kernel)
set_option maxRecDepth 20000 in
theorem gX4_find_X0_copy : GoodIn wsX4_find (wsV RX4 23 RX0 yX0_copy wsX0_copy) := goodIn_app (goodIn_of _ (by decide +kernel)) ggX4_find_X0_copy
set_option maxRecDepth 20000 in
theorem ggX4_find_X0_beReady : GoodIn wsX4_find wsX0_beReady := goodIn_r _ [41, 23, 26, 24, 42, 43, 36, 44, 45, 46, 47, 30, 48, 32, 173, 174, 175, 176, 177, 178, 179, 180, 181, 182, 183, 184, 185, 186, 187, 188, 189] (by decide +kernel) (by decide +kernel)
set_option maxRecDepth 20000 in
theorem gX4_find_X0_beReady : GoodIn wsX4_find (wsV RX4 27 RX0 yX0_beReady wsX0_beReady) := goodIn_app (goodIn_of _ (by decide +kernel)) ggX4_find_X0_beReady
set_option maxRecDepth 20000 in
theorem ggX4_find_X0_addRide : GoodIn wsX4_find wsX0_addRide := goodIn_r _ [52, 15, 16, 17, 18, 19, 20, 21, 22, 53, 54, 55, 30, 56, 32, 57, 58, 59, 60, 33, 61, 62, 63, 10, 64, 13, 65, 66, 36, 67, 14, 68, 69, 70, 71, 45, 46, 47, 48, 173, 174, 175, 176, 177, 178, 179, 180, 181, 182, 183, 184, 185, 186, 187, 188, 189] (by decide +kernel) (by decide +kernel)
set_option maxRecDepth 20000 in
theorem gX4_find_X0_addRide : GoodIn wsX4_find (wsV RX4 30 RX0 yX0_addRide wsX0_addRide) := goodIn_app (goodIn_of _ (by decide +kernel)) ggX4_find_X0_addRide
set_option maxRecDepth 20000 in
theorem ggX4_find_X3_length : GoodIn wsX4_find wsX3_length := goodIn_r _ [48, 32, 188, 189] (by decide +kernel) (by decide +kernel)
set_option maxRecDepth 20000 in
theorem gX4_find_X3_length : GoodIn wsX4_find (wsV RX4 42 RX3 yX3_length wsX3_length) := goodIn_app (goodIn_of _ (by decide +kernel)) ggX4_find_X3_length
set_option maxRecDepth 20000 in
theorem ggX4_find_X0_isOnItsWay : GoodIn wsX4_find wsX0_isOnItsWay := goodIn_r _ [76, 23, 24, 26, 45, 46, 47, 30, 48, 32, 173, 174, 175, 176, 177, 178, 179, 180, 181, 182, 183, 184, 185, 186, 187, 188, 189] (by decide +kernel) (by decide +kernel)
set_option maxRecDepth 20000 in
theorem gX4_find_X0_isOnItsWay : GoodIn wsX4_find (wsV RX4 48 RX0 yX0_isOnItsWay wsX0_isOnItsWay) := goodIn_app (goodIn_of _ (by decide +kernel)) ggX4_find_X0_isOnItsWay
theorem kX4_find_2 : Cond.fieldLink RX4 34 "BookedDetours$Search" "ways" "I" ∈ wsX4_find := List.mem_of_getElem? (i := 2) (by decide +kernel)
theorem kX4_find_3 : Cond.fieldLink RX4 38 "BookedDetours$Day" "route" "LBookedDetours$Row;" ∈ wsX4_find := List.mem_of_getElem? (i := 3) (by decide +kernel)
theorem kX4_find_5 : Cond.fieldLink RX4 64 "BookedDetours$Search" "pickPlace" "I" ∈ wsX4_find := List.mem_of_getElem? (i := 5) (by decide +kernel)
theorem kX4_find_6 : Cond.fieldLink RX4 67 "BookedDetours$Search" "downPlace" "I" ∈ wsX4_find := List.mem_of_getElem? (i := 6) (by decide +kernel)
theorem kX4_find_4 : Cond.fieldLink RX4 19 "BookedDetours$Search" "table" "LBookedDetours$Timetable;" ∈ wsX4_find := List.mem_of_getElem? (i := 4) (by decide +kernel)
theorem kX4_find_1 : Cond.fieldLink RX4 10 "BookedDetours$Search" "day" "LBookedDetours$Day;" ∈ wsX4_find := List.mem_of_getElem? (i := 1) (by decide +kernel)
theorem hX4_find_X4 : ∀ w ∈ u_ws RX4 TX4 9, w ∈ wsX4_find := fun _ h => List.mem_cons_of_mem _ (List.mem_append_left _ (List.mem_append_left _ (List.mem_append_left _ (List.mem_append_right _ h))))
theorem hX4_find_X0 : ∀ w ∈ u_ws RX0 TX0 15, w ∈ wsX4_find := fun _ h => List.mem_cons_of_mem _ (List.mem_append_left _ (List.mem_append_left _ (List.mem_append_right _ h)))
set_option maxHeartbeats 4000000 in
set_option maxRecDepth 100000 in
theorem w_X4_find_58 {Z : yZ} (g : yG) (S : Nat) (SA : Nat → Nat) (ST : Nat → Nat) (A : Nat → Nat) (d : RV) (G : Nat → Nat → Int32) (fr : Int32) (to : Int32) (wa : Int32) (bt : Int32) (C : yC Z g cX4_find 10 wsX4_find RX4) {post : Int32 → List va_W → Prop} (HR : yRi Z ({ frames := 4, cells := 0, slots := 0, locals := 94 } : Room) cX4_find .boolean post 0 0) {X58 : RV → RV → RV → Int32 → Int32 → Int32 → Prop} {X71 : RV → RV → RV → Int32 → Int32 → Int32 → Int32 → Prop} (hX58 : ∀ (sv : RV) (sd : RV) (st : RV) (x6 : Int32) (x7 : Int32) (x8 : Int32) (SG : Nat → Nat → Int32) (SGT : Nat → Nat → Int32), X58 sv sd st x6 x7 x8 → yJ Z ({ frames := 4, cells := 0, slots := 0, locals := 94 } : Room) 0 0 ([seaC S (SA 0) (ST 0) sv, dayC SA sd, tabC ST st, dayC A d] ++ (dayR g SA sd SG ++ (tabR g ST st SGT ++ dayR g A d G)) : List va_W) 58 [(0, .ref S), (1, .ref (A 0)), (6, .int x6), (7, .int x7), (8, .int x8)] []) (hX71 : ∀ (sv : RV) (sd : RV) (st : RV) (x6 : Int32) (x7 : Int32) (x8 : Int32) (x9 : Int32) (SG : Nat → Nat → Int32) (SGT : Nat → Nat → Int32), X71 sv sd st x6 x7 x8 x9 → yJ Z ({ frames := 4, cells := 0, slots := 0, locals := 94 } : Room) 0 0 ([seaC S (SA 0) (ST 0) sv, dayC SA sd, tabC ST st, dayC A d] ++ (dayR g SA sd SG ++ (tabR g ST st SGT ++ dayR g A d G)) : List va_W) 71 [(0, .ref S), (1, .ref (A 0)), (6, .int x6), (7, .int x7), (8, .int x8), (9, .int x9)] []) {K : Int32 → RV → RV → RV → Prop} (hK : ∀ (r0 : Int32) (sv : RV) (sd : RV) (st : RV) (SG : Nat → Nat → Int32) (SGT : Nat → Nat → Int32), K r0 sv sd st → post r0 ([seaC S (SA 0) (ST 0) sv, dayC SA sd, tabC ST st, dayC A d] ++ (dayR g SA sd SG ++ (tabR g ST st SGT ++ dayR g A d G)) : List va_W)) (sv : RV) (sd : RV) (st : RV) (x6 : Int32) (x7 : Int32) (x8 : Int32) (SG : Nat → Nat → Int32) (SGT : Nat → Nat → Int32) (h : wp_X4_find_58 d fr to wa bt X58 X71 K sv sd st x6 x7 x8) : yJ Z ({ frames := 4, cells := 0, slots := 0, locals := 94 } : Room) 0 0 ([seaC S (SA 0) (ST 0) sv, dayC SA sd, tabC ST st, dayC A d] ++ (dayR g SA sd SG ++ (tabR g ST st SGT ++ dayR g A d G)) : List va_W) 58 [(0, .ref S), (1, .ref (A 0)), (6, .int x6), (7, .int x7), (8, .int x8)] [] := by
  unfold wp_X4_find_58 at h
  refine y_iload C dX4_find_58 4 rfl ?_
  refine y_iload C dX4_find_60 3 rfl ?_
  refine y_icmp_gt (tgt := 130) C dX4_find_62 rfl h (fun c62 h => ?_) (fun c62 h => ?_)
  · refine y_aload_n C dX4_find_130 0 rfl rfl ?_
    refine y_get (Cn := RX4) (T := TX4) (N := 9) (v := .int (sv.2 0)) C dX4_find_131 hX4_find_X4 0 (sh_116 g S (SA 0) (ST 0) sv SA sd SG ST st SGT A d G) rfl 2 (Nat.le_of_ble_eq_true rfl) kX4_find_2 rfl ?_
    refine y_if_le (tgt := 155) C dX4_find_134 rfl h (fun c134 h => ?_) (fun c134 h => ?_)
    · refine y_aload_n C dX4_find_155 0 rfl rfl ?_
      refine y_get (Cn := RX4) (T := TX4) (N := 9) (v := .int (sv.2 0)) C dX4_find_156 hX4_find_X4 0 (sh_116 g S (SA 0) (ST 0) sv SA sd SG ST st SGT A d G) rfl 2 (Nat.le_of_ble_eq_true rfl) kX4_find_2 rfl ?_
      refine y_if_le (tgt := 166) C dX4_find_159 rfl (y_same (c := (sv.2 0) ≤ 0) h) (fun c159 h => ?_) (fun c159 h => ?_)
      · refine y_iconst (v := 0) C dX4_find_166 (by decide) ?_
        exact HR 167 dX4_find_167 (0 : Int32) _ _ _ _ (rfl) (Nat.le_of_ble_eq_true rfl) (Nat.le_of_ble_eq_true rfl) (hK _ _ _ _ _ _ h)
      · exact absurd c134 c159
    · refine y_aload_n C dX4_find_137 0 rfl rfl ?_
      refine y_aload_n C dX4_find_138 1 rfl rfl ?_
      refine y_get (Cn := RX0) (T := TX0) (N := 15) (v := .ref (A 23)) C dX4_find_139 hX4_find_X0 3 (sh_117 g S (SA 0) (ST 0) sv SA sd SG ST st SGT A d G) rfl 11 (Nat.le_of_ble_eq_true rfl) kX4_find_3 rfl ?_
      refine y_iload C dX4_find_142 2 rfl ?_
      refine y_aload_n C dX4_find_144 0 rfl rfl ?_
      refine y_get (Cn := RX4) (T := TX4) (N := 9) (v := .int (sv.2 5)) C dX4_find_145 hX4_find_X4 0 (sh_116 g S (SA 0) (ST 0) sv SA sd SG ST st SGT A d G) rfl 7 (Nat.le_of_ble_eq_true rfl) kX4_find_5 rfl ?_
      refine y_aload_n C dX4_find_148 0 rfl rfl ?_
      refine y_get (Cn := RX4) (T := TX4) (N := 9) (v := .int (sv.2 6)) C dX4_find_149 hX4_find_X4 0 (sh_116 g S (SA 0) (ST 0) sv SA sd SG ST st SGT A d G) rfl 8 (Nat.le_of_ble_eq_true rfl) kX4_find_6 rfl ?_
      refine y_callVv (As := [.ref (A 23), .int x6, .int (sv.2 5), .int (sv.2 6)]) (rest := []) C dX4_find_152 (c_X4_lay g S (ST 0) sv SA sd SG (A 23) (A 24) (d.1 11) (G 11) x6 (sv.2 5) (sv.2 6)) rfl rfl rfl rfl ⟨Nat.le_of_ble_eq_true rfl, Nat.le_of_ble_eq_true rfl⟩ gX4_find_X4_lay (nA := 4) (by decide +kernel) rfl (sh_119 g S (SA 0) (ST 0) sv SA sd SG (A 23) (A 24) 34 (d.1 11) (G 11)) (Nat.le_of_ble_eq_true rfl) ⟨Nat.le_of_ble_eq_true rfl, Nat.le_of_ble_eq_true rfl⟩ [0, 1, 4, 5, 6, 7, 8, 9, 10, 11, 12, 13, 14, 15, 32] [2, 3, 16, 17, 18, 19, 20, 21, 22, 23, 24, 25, 26, 27, 28, 29, 30, 31] (nB := 33) rfl (by decide +kernel) (sh_118 g S (SA 0) (ST 0) sv SA sd SG ST st SGT A d G) (fun w9 hw => ?_)
      obtain ⟨sd1, G2, e3, rfl⟩ := hw
      have h := y_letP h e3
      refine ⟨([seaC S (SA 0) (ST 0) sv, dayC SA sd1, tabC ST st, dayC A d] ++ (dayR g SA sd1 G2 ++ (tabR g ST st SGT ++ dayR g A d G)) : List va_W), (sh_120 g S (SA 0) (ST 0) sv SA sd SG ST st SGT A d G sd1 G2), ?_⟩
      refine y_aload_n C dX4_find_155 0 rfl rfl ?_
      refine y_get (Cn := RX4) (T := TX4) (N := 9) (v := .int (sv.2 0)) C dX4_find_156 hX4_find_X4 0 (sh_116 g S (SA 0) (ST 0) sv SA sd1 G2 ST st SGT A d G) rfl 2 (Nat.le_of_ble_eq_true rfl) kX4_find_2 rfl ?_
      refine y_if_le (tgt := 166) C dX4_find_159 rfl (y_same (c := (sv.2 0) ≤ 0) h) (fun c159 h => ?_) (fun c159 h => ?_)
      · exact absurd c159 c134
      · refine y_iconst (v := 1) C dX4_find_162 (by decide) ?_
        refine y_goto (tgt := 167) C dX4_find_163 rfl ?_
        exact HR 167 dX4_find_167 (1 : Int32) _ _ _ _ (rfl) (Nat.le_of_ble_eq_true rfl) (Nat.le_of_ble_eq_true rfl) (hK _ _ _ _ _ _ h)
  · refine y_iload C dX4_find_65 4 rfl ?_
    refine y_iconst (v := 1) C dX4_find_67 (by decide) ?_
    refine y_iadd C dX4_find_68 ?_
    refine y_istore (lv' := [(9, .int (x8 + (1 : Int32))), (0, .ref S), (1, .ref (A 0)), (6, .int x6), (7, .int x7), (8, .int x8)]) C dX4_find_69 (Nat.le_of_ble_eq_true rfl) rfl ?_
    refine y_sub (lv' := [(0, .ref S), (1, .ref (A 0)), (6, .int x6), (7, .int x7), (8, .int x8), (9, .int (x8 + (1 : Int32)))]) [1, 2, 3, 4, 5, 0] rfl ?_
    exact hX71 _ _ _ _ _ _ _ _ _ h
set_option maxHeartbeats 4000000 in
set_option maxRecDepth 100000 in
theorem w_X4_find_71 {Z : yZ} (g : yG) (S : Nat) (SA : Nat → Nat) (ST : Nat → Nat) (A : Nat → Nat) (d : RV) (G : Nat → Nat → Int32) (fr : Int32) (to : Int32) (wa : Int32) (bt : Int32) (C : yC Z g cX4_find 10 wsX4_find RX4) {post : Int32 → List va_W → Prop} (HR : yRi Z ({ frames := 4, cells := 0, slots := 0, locals := 94 } : Room) cX4_find .boolean post 0 0) {X58 : RV → RV → RV → Int32 → Int32 → Int32 → Prop} {X71 : RV → RV → RV → Int32 → Int32 → Int32 → Int32 → Prop} (hX58 : ∀ (sv : RV) (sd : RV) (st : RV) (x6 : Int32) (x7 : Int32) (x8 : Int32) (SG : Nat → Nat → Int32) (SGT : Nat → Nat → Int32), X58 sv sd st x6 x7 x8 → yJ Z ({ frames := 4, cells := 0, slots := 0, locals := 94 } : Room) 0 0 ([seaC S (SA 0) (ST 0) sv, dayC SA sd, tabC ST st, dayC A d] ++ (dayR g SA sd SG ++ (tabR g ST st SGT ++ dayR g A d G)) : List va_W) 58 [(0, .ref S), (1, .ref (A 0)), (6, .int x6), (7, .int x7), (8, .int x8)] []) (hX71 : ∀ (sv : RV) (sd : RV) (st : RV) (x6 : Int32) (x7 : Int32) (x8 : Int32) (x9 : Int32) (SG : Nat → Nat → Int32) (SGT : Nat → Nat → Int32), X71 sv sd st x6 x7 x8 x9 → yJ Z ({ frames := 4, cells := 0, slots := 0, locals := 94 } : Room) 0 0 ([seaC S (SA 0) (ST 0) sv, dayC SA sd, tabC ST st, dayC A d] ++ (dayR g SA sd SG ++ (tabR g ST st SGT ++ dayR g A d G)) : List va_W) 71 [(0, .ref S), (1, .ref (A 0)), (6, .int x6), (7, .int x7), (8, .int x8), (9, .int x9)] []) {K : Int32 → RV → RV → RV → Prop} (hK : ∀ (r0 : Int32) (sv : RV) (sd : RV) (st : RV) (SG : Nat → Nat → Int32) (SGT : Nat → Nat → Int32), K r0 sv sd st → post r0 ([seaC S (SA 0) (ST 0) sv, dayC SA sd, tabC ST st, dayC A d] ++ (dayR g SA sd SG ++ (tabR g ST st SGT ++ dayR g A d G)) : List va_W)) (sv : RV) (sd : RV) (st : RV) (x6 : Int32) (x7 : Int32) (x8 : Int32) (x9 : Int32) (SG : Nat → Nat → Int32) (SGT : Nat → Nat → Int32) (h : wp_X4_find_71 d fr to wa bt X58 X71 K sv sd st x6 x7 x8 x9) : yJ Z ({ frames := 4, cells := 0, slots := 0, locals := 94 } : Room) 0 0 ([seaC S (SA 0) (ST 0) sv, dayC SA sd, tabC ST st, dayC A d] ++ (dayR g SA sd SG ++ (tabR g ST st SGT ++ dayR g A d G)) : List va_W) 71 [(0, .ref S), (1, .ref (A 0)), (6, .int x6), (7, .int x7), (8, .int x8), (9, .int x9)] [] := by
  unfold wp_X4_find_71 at h
  refine y_iload C dX4_find_71 5 rfl ?_
  refine y_iload C dX4_find_73 3 rfl ?_
  refine y_iconst (v := 1) C dX4_find_75 (by decide) ?_
  refine y_iadd C dX4_find_76 ?_
  refine y_icmp_gt (tgt := 124) C dX4_find_77 rfl h (fun c77 h => ?_) (fun c77 h => ?_)
  · refine y_iinc (v := (x8 + (1 : Int32))) (lv' := [(8, .int (x8 + (1 : Int32))), (0, .ref S), (1, .ref (A 0)), (6, .int x6), (7, .int x7), (9, .int x9)]) C dX4_find_124 4 rfl rfl (Nat.le_of_ble_eq_true rfl) rfl ?_
    refine y_goto (tgt := 58) C dX4_find_127 rfl ?_
    refine y_sub (lv' := [(0, .ref S), (1, .ref (A 0)), (6, .int x6), (7, .int x7), (8, .int (x8 + (1 : Int32)))]) [1, 2, 3, 4, 0] rfl ?_
    exact hX58 _ _ _ _ _ _ _ _ h
  · refine y_aload_n C dX4_find_80 0 rfl rfl ?_
    refine y_aload_n C dX4_find_81 1 rfl rfl ?_
    refine y_get (Cn := RX0) (T := TX0) (N := 15) (v := .ref (A 23)) C dX4_find_82 hX4_find_X0 3 (sh_117 g S (SA 0) (ST 0) sv SA sd SG ST st SGT A d G) rfl 11 (Nat.le_of_ble_eq_true rfl) kX4_find_3 rfl ?_
    refine y_iload C dX4_find_85 2 rfl ?_
    refine y_iload C dX4_find_87 4 rfl ?_
    refine y_iload C dX4_find_89 5 rfl ?_
    refine y_callVv (As := [.ref (A 23), .int x6, .int x8, .int x9]) (rest := []) C dX4_find_91 (c_X4_lay g S (ST 0) sv SA sd SG (A 23) (A 24) (d.1 11) (G 11) x6 x8 x9) rfl rfl rfl rfl ⟨Nat.le_of_ble_eq_true rfl, Nat.le_of_ble_eq_true rfl⟩ gX4_find_X4_lay (nA := 4) (by decide +kernel) rfl (sh_119 g S (SA 0) (ST 0) sv SA sd SG (A 23) (A 24) 34 (d.1 11) (G 11)) (Nat.le_of_ble_eq_true rfl) ⟨Nat.le_of_ble_eq_true rfl, Nat.le_of_ble_eq_true rfl⟩ [0, 1, 4, 5, 6, 7, 8, 9, 10, 11, 12, 13, 14, 15, 32] [2, 3, 16, 17, 18, 19, 20, 21, 22, 23, 24, 25, 26, 27, 28, 29, 30, 31] (nB := 33) rfl (by decide +kernel) (sh_118 g S (SA 0) (ST 0) sv SA sd SG ST st SGT A d G) (fun w9 hw => ?_)
    obtain ⟨sd1, G2, e3, rfl⟩ := hw
    have h := y_letP h e3
    refine ⟨([seaC S (SA 0) (ST 0) sv, dayC SA sd1, tabC ST st, dayC A d] ++ (dayR g SA sd1 G2 ++ (tabR g ST st SGT ++ dayR g A d G)) : List va_W), (sh_120 g S (SA 0) (ST 0) sv SA sd SG ST st SGT A d G sd1 G2), ?_⟩
    refine y_aload_n C dX4_find_94 0 rfl rfl ?_
    refine y_get (Cn := RX4) (T := TX4) (N := 9) (v := .ref (ST 0)) C dX4_find_95 hX4_find_X4 0 (sh_116 g S (SA 0) (ST 0) sv SA sd1 G2 ST st SGT A d G) rfl 1 (Nat.le_of_ble_eq_true rfl) kX4_find_4 rfl ?_
    refine y_aload_n C dX4_find_98 0 rfl rfl ?_
    refine y_get (Cn := RX4) (T := TX4) (N := 9) (v := .ref (SA 0)) C dX4_find_99 hX4_find_X4 0 (sh_116 g S (SA 0) (ST 0) sv SA sd1 G2 ST st SGT A d G) rfl 0 (Nat.le_of_ble_eq_true rfl) kX4_find_1 rfl ?_
    refine y_callV (As := [.ref (SA 0)]) (rest := []) C dX4_find_102 (k_X5_keepsAll g ST st SGT SA sd1 G2) rfl rfl rfl rfl ⟨Nat.le_of_ble_eq_true rfl, Nat.le_of_ble_eq_true rfl⟩ gX4_find_X5_keepsAll (nA := 1) (by decide +kernel) rfl (sh_95 g ST st SGT SA sd1 G2) (Nat.le_of_ble_eq_true rfl) ⟨Nat.le_of_ble_eq_true rfl, Nat.le_of_ble_eq_true rfl⟩ [2, 1, 16, 17, 18, 19, 20, 4, 5, 6, 7, 8, 9, 10, 11, 12, 13, 14, 15] [0, 3, 21, 22, 23, 24, 25, 26, 27, 28, 29, 30, 31, 32] (nB := 33) rfl (by decide +kernel) (sh_121 g S (SA 0) (ST 0) sv SA sd1 G2 ST st SGT A d G) (fun r7 w9 hw => ?_)
    obtain ⟨er7, st4, G5, e6, rfl⟩ := hw
    have h := y_letP h er7
    have h := y_letP h e6
    refine ⟨([seaC S (SA 0) (ST 0) sv, dayC SA sd1, tabC ST st4, dayC A d] ++ (dayR g SA sd1 G2 ++ (tabR g ST st4 G5 ++ dayR g A d G)) : List va_W), (sh_122 g S (SA 0) (ST 0) sv SA sd1 G2 ST st SGT A d G st4 G5), ?_⟩
    refine y_if_eq (tgt := 118) C dX4_find_105 rfl h (fun c105 h => ?_) (fun c105 h => ?_)
    · refine y_iinc (v := (x9 + (1 : Int32))) (lv' := [(9, .int (x9 + (1 : Int32))), (0, .ref S), (1, .ref (A 0)), (6, .int x6), (7, .int x7), (8, .int x8)]) C dX4_find_118 5 rfl rfl (Nat.le_of_ble_eq_true rfl) rfl ?_
      refine y_goto (tgt := 71) C dX4_find_121 rfl ?_
      refine y_sub (lv' := [(0, .ref S), (1, .ref (A 0)), (6, .int x6), (7, .int x7), (8, .int x8), (9, .int (x9 + (1 : Int32)))]) [1, 2, 3, 4, 5, 0] rfl ?_
      exact hX71 _ _ _ _ _ _ _ _ _ h
    · refine y_aload_n C dX4_find_108 0 rfl rfl ?_
      refine y_iload C dX4_find_109 2 rfl ?_
      refine y_iload C dX4_find_111 4 rfl ?_
      refine y_iload C dX4_find_113 5 rfl ?_
      refine y_callVv (As := [.int x6, .int x8, .int x9]) (rest := []) C dX4_find_115 (c_X4_takeWay g S (SA 0) sv ST st4 G5 x6 x8 x9) rfl rfl rfl rfl ⟨Nat.le_of_ble_eq_true rfl, Nat.le_of_ble_eq_true rfl⟩ gX4_find_X4_takeWay (nA := 3) (by decide +kernel) rfl (sh_124 g S (SA 0) (ST 0) sv ST st4 G5) (Nat.le_of_ble_eq_true rfl) ⟨Nat.le_of_ble_eq_true rfl, Nat.le_of_ble_eq_true rfl⟩ [0, 2, 16, 17, 18, 19, 20] [1, 3, 4, 5, 6, 7, 8, 9, 10, 11, 12, 13, 14, 15, 21, 22, 23, 24, 25, 26, 27, 28, 29, 30, 31, 32] (nB := 33) rfl (by decide +kernel) (sh_123 g S (SA 0) (ST 0) sv SA sd1 G2 ST st4 G5 A d G) (fun w9 hw => ?_)
      obtain ⟨sv8, e9, rfl⟩ := hw
      have h := y_letP h e9
      refine ⟨([seaC S (SA 0) (ST 0) sv8, dayC SA sd1, tabC ST st4, dayC A d] ++ (dayR g SA sd1 G2 ++ (tabR g ST st4 G5 ++ dayR g A d G)) : List va_W), (sh_125 g S (SA 0) (ST 0) sv SA sd1 G2 ST st4 G5 A d G sv8), ?_⟩
      refine y_iinc (v := (x9 + (1 : Int32))) (lv' := [(9, .int (x9 + (1 : Int32))), (0, .ref S), (1, .ref (A 0)), (6, .int x6), (7, .int x7), (8, .int x8)]) C dX4_find_118 5 rfl rfl (Nat.le_of_ble_eq_true rfl) rfl ?_
      refine y_goto (tgt := 71) C dX4_find_121 rfl ?_
      refine y_sub (lv' := [(0, .ref S), (1, .ref (A 0)), (6, .int x6), (7, .int x7), (8, .int x8), (9, .int (x9 + (1 : Int32)))]) [1, 2, 3, 4, 5, 0] rfl ?_
      exact hX71 _ _ _ _ _ _ _ _ _ h
set_option maxHeartbeats 4000000 in
set_option maxRecDepth 100000 in
theorem l_X4_find {Z : yZ} (g : yG) (S : Nat) (SA : Nat → Nat) (ST : Nat → Nat) (A : Nat → Nat) (d : RV) (G : Nat → Nat → Int32) (fr : Int32) (to : Int32) (wa : Int32) (bt : Int32) (C : yC Z g cX4_find 10 wsX4_find RX4) {post : Int32 → List va_W → Prop} (HR : yRi Z ({ frames := 4, cells := 0, slots := 0, locals := 94 } : Room) cX4_find .boolean post 0 0) {K : Int32 → RV → RV → RV → Prop} (hK : ∀ (r0 : Int32) (sv : RV) (sd : RV) (st : RV) (SG : Nat → Nat → Int32) (SGT : Nat → Nat → Int32), K r0 sv sd st → post r0 ([seaC S (SA 0) (ST 0) sv, dayC SA sd, tabC ST st, dayC A d] ++ (dayR g SA sd SG ++ (tabR g ST st SGT ++ dayR g A d G)) : List va_W)) {I58 : Nat → RV → RV → RV → Int32 → Int32 → Int32 → Prop} {I71 : Nat → RV → RV → RV → Int32 → Int32 → Int32 → Int32 → Prop} (o58 : ∀ (w0 : Nat) (sv : RV) (sd : RV) (st : RV) (x6 : Int32) (x7 : Int32) (x8 : Int32), I58 w0 sv sd st x6 x7 x8 → wp_X4_find_58 d fr to wa bt (fun (sv9 : RV) (sd9 : RV) (st9 : RV) (x69 : Int32) (x79 : Int32) (x89 : Int32) => ∃ w9, w9 < w0 ∧ I58 w9 sv9 sd9 st9 x69 x79 x89) (fun (sv9 : RV) (sd9 : RV) (st9 : RV) (x69 : Int32) (x79 : Int32) (x89 : Int32) (x99 : Int32) => ∃ w9, w9 < w0 ∧ I71 w9 sv9 sd9 st9 x69 x79 x89 x99) K sv sd st x6 x7 x8) (o71 : ∀ (w0 : Nat) (sv : RV) (sd : RV) (st : RV) (x6 : Int32) (x7 : Int32) (x8 : Int32) (x9 : Int32), I71 w0 sv sd st x6 x7 x8 x9 → wp_X4_find_71 d fr to wa bt (fun (sv9 : RV) (sd9 : RV) (st9 : RV) (x69 : Int32) (x79 : Int32) (x89 : Int32) => ∃ w9, w9 < w0 ∧ I58 w9 sv9 sd9 st9 x69 x79 x89) (fun (sv9 : RV) (sd9 : RV) (st9 : RV) (x69 : Int32) (x79 : Int32) (x89 : Int32) (x99 : Int32) => ∃ w9, w9 < w0 ∧ I71 w9 sv9 sd9 st9 x69 x79 x89 x99) K sv sd st x6 x7 x8 x9) : ∀ w0 : Nat, (∀ (sv : RV) (sd : RV) (st : RV) (x6 : Int32) (x7 : Int32) (x8 : Int32) (SG : Nat → Nat → Int32) (SGT : Nat → Nat → Int32), I58 w0 sv sd st x6 x7 x8 → yJ Z ({ frames := 4, cells := 0, slots := 0, locals := 94 } : Room) 0 0 ([seaC S (SA 0) (ST 0) sv, dayC SA sd, tabC ST st, dayC A d] ++ (dayR g SA sd SG ++ (tabR g ST st SGT ++ dayR g A d G)) : List va_W) 58 [(0, .ref S), (1, .ref (A 0)), (6, .int x6), (7, .int x7), (8, .int x8)] []) ∧ (∀ (sv : RV) (sd : RV) (st : RV) (x6 : Int32) (x7 : Int32) (x8 : Int32) (x9 : Int32) (SG : Nat → Nat → Int32) (SGT : Nat → Nat → Int32), I71 w0 sv sd st x6 x7 x8 x9 → yJ Z ({ frames := 4, cells := 0, slots := 0, locals := 94 } : Room) 0 0 ([seaC S (SA 0) (ST 0) sv, dayC SA sd, tabC ST st, dayC A d] ++ (dayR g SA sd SG ++ (tabR g ST st SGT ++ dayR g A d G)) : List va_W) 71 [(0, .ref S), (1, .ref (A 0)), (6, .int x6), (7, .int x7), (8, .int x8), (9, .int x9)] []) := by
  intro w0
  induction w0 using Nat.strongRecOn with
  | _ w0 ih =>
    exact ⟨fun sv sd st x6 x7 x8 SG SGT hi => w_X4_find_58 g S SA ST A d G fr to wa bt C HR (fun sv sd st x6 x7 x8 SG SGT hq => by obtain ⟨w9, hlt, hi⟩ := hq; exact (ih w9 hlt).1 sv sd st x6 x7 x8 SG SGT hi) (fun sv sd st x6 x7 x8 x9 SG SGT hq => by obtain ⟨w9, hlt, hi⟩ := hq; exact (ih w9 hlt).2 sv sd st x6 x7 x8 x9 SG SGT hi) hK sv sd st x6 x7 x8 SG SGT (o58 w0 sv sd st x6 x7 x8 hi), fun sv sd st x6 x7 x8 x9 SG SGT hi => w_X4_find_71 g S SA ST A d G fr to wa bt C HR (fun sv sd st x6 x7 x8 SG SGT hq => by obtain ⟨w9, hlt, hi⟩ := hq; exact (ih w9 hlt).1 sv sd st x6 x7 x8 SG SGT hi) (fun sv sd st x6 x7 x8 x9 SG SGT hq => by obtain ⟨w9, hlt, hi⟩ := hq; exact (ih w9 hlt).2 sv sd st x6 x7 x8 x9 SG SGT hi) hK sv sd st x6 x7 x8 x9 SG SGT (o71 w0 sv sd st x6 x7 x8 x9 hi)⟩
set_option maxHeartbeats 4000000 in
set_option maxRecDepth 100000 in
theorem t_X4_find (g : yG) (S : Nat) (sv : RV) (SA : Nat → Nat) (sd : RV) (SG : Nat → Nat → Int32) (ST : Nat → Nat) (st : RV) (SGT : Nat → Nat → Int32) (A : Nat → Nat) (d : RV) (G : Nat → Nat → Int32) (fr : Int32) (to : Int32) (wa : Int32) (bt : Int32) {post : Int32 → List va_W → Prop} {K : Int32 → RV → RV → RV → Prop} (hK : ∀ (r0 : Int32) (sv : RV) (sd : RV) (st : RV) (SG : Nat → Nat → Int32) (SGT : Nat → Nat → Int32), K r0 sv sd st → post r0 ([seaC S (SA 0) (ST 0) sv, dayC SA sd, tabC ST st, dayC A d] ++ (dayR g SA sd SG ++ (tabR g ST st SGT ++ dayR g A d G)) : List va_W)) (hPO : PO_X4_find d fr to wa bt K sv sd st ) : yM g yX4_find wsX4_find ({ frames := 4, cells := 0, slots := 0, locals := 94 } : Room) [.ref S, .ref (A 0), .int fr, .int to, .int wa, .int bt] ([seaC S (SA 0) (ST 0) sv, dayC SA sd, tabC ST st, dayC A d] ++ (dayR g SA sd SG ++ (tabR g ST st SGT ++ dayR g A d G)) : List va_W) post 0 0 := by
  refine y_entryI (cc := cX4_find) (maxL := 10) (by decide +kernel) rfl (Nat.le_of_ble_eq_true rfl) (fun Z C HR => ?_)
  have C : yC Z g cX4_find 10 wsX4_find RX4 := C
  obtain ⟨I58, I71, o58, o71, h⟩ := hPO
  have hX58 : ∀ (sv : RV) (sd : RV) (st : RV) (x6 : Int32) (x7 : Int32) (x8 : Int32) (SG : Nat → Nat → Int32) (SGT : Nat → Nat → Int32), (fun (sv9 : RV) (sd9 : RV) (st9 : RV) (x69 : Int32) (x79 : Int32) (x89 : Int32) => ∃ w9, I58 w9 sv9 sd9 st9 x69 x79 x89) sv sd st x6 x7 x8 → yJ Z ({ frames := 4, cells := 0, slots := 0, locals := 94 } : Room) 0 0 ([seaC S (SA 0) (ST 0) sv, dayC SA sd, tabC ST st, dayC A d] ++ (dayR g SA sd SG ++ (tabR g ST st SGT ++ dayR g A d G)) : List va_W) 58 [(0, .ref S), (1, .ref (A 0)), (6, .int x6), (7, .int x7), (8, .int x8)] [] := by
    intro sv sd st x6 x7 x8 SG SGT hq
    obtain ⟨w9, hi⟩ := hq
    exact (l_X4_find g S SA ST A d G fr to wa bt C HR hK o58 o71 w9).1 sv sd st x6 x7 x8 SG SGT hi
  have hX71 : ∀ (sv : RV) (sd : RV) (st : RV) (x6 : Int32) (x7 : Int32) (x8 : Int32) (x9 : Int32) (SG : Nat → Nat → Int32) (SGT : Nat → Nat → Int32), (fun (sv9 : RV) (sd9 : RV) (st9 : RV) (x69 : Int32) (x79 : Int32) (x89 : Int32) (x99 : Int32) => ∃ w9, I71 w9 sv9 sd9 st9 x69 x79 x89 x99) sv sd st x6 x7 x8 x9 → yJ Z ({ frames := 4, cells := 0, slots := 0, locals := 94 } : Room) 0 0 ([seaC S (SA 0) (ST 0) sv, dayC SA sd, tabC ST st, dayC A d] ++ (dayR g SA sd SG ++ (tabR g ST st SGT ++ dayR g A d G)) : List va_W) 71 [(0, .ref S), (1, .ref (A 0)), (6, .int x6), (7, .int x7), (8, .int x8), (9, .int x9)] [] := by
    intro sv sd st x6 x7 x8 x9 SG SGT hq
    obtain ⟨w9, hi⟩ := hq
    exact (l_X4_find g S SA ST A d G fr to wa bt C HR hK o58 o71 w9).2 sv sd st x6 x7 x8 x9 SG SGT hi
  unfold wp_X4_find_0 at h
  show yJ Z _ 0 0 _ 0 [(0, .ref S), (1, .ref (A 0)), (2, .int fr), (3, .int to), (4, .int wa), (5, .int bt)] []
  refine y_aload_n C dX4_find_0 0 rfl rfl ?_
  refine y_get (Cn := RX4) (T := TX4) (N := 9) (v := .ref (SA 0)) C dX4_find_1 hX4_find_X4 0 (sh_116 g S (SA 0) (ST 0) sv SA sd SG ST st SGT A d G) rfl 0 (Nat.le_of_ble_eq_true rfl) kX4_find_1 rfl ?_
  refine y_aload_n C dX4_find_4 1 rfl rfl ?_
  refine y_callVv (As := [.ref (A 0)]) (rest := []) C dX4_find_5 (k_X0_copy g SA sd SG A d G) rfl rfl rfl rfl ⟨Nat.le_of_ble_eq_true rfl, Nat.le_of_ble_eq_true rfl⟩ gX4_find_X0_copy (nA := 1) (by decide +kernel) rfl (sh_127 g SA sd SG A d G) (Nat.le_of_ble_eq_true rfl) ⟨Nat.le_of_ble_eq_true rfl, Nat.le_of_ble_eq_true rfl⟩ [1, 3, 4, 5, 6, 7, 8, 9, 10, 11, 12, 13, 14, 15, 21, 22, 23, 24, 25, 26, 27, 28, 29, 30, 31, 32] [0, 2, 16, 17, 18, 19, 20] (nB := 33) rfl (by decide +kernel) (sh_126 g S (SA 0) (ST 0) sv SA sd SG ST st SGT A d G) (fun w9 hw => ?_)
  obtain ⟨sd1, G2, e3, rfl⟩ := hw
  have h := y_letP h e3
  refine ⟨([seaC S (SA 0) (ST 0) sv, dayC SA sd1, tabC ST st, dayC A d] ++ (dayR g SA sd1 G2 ++ (tabR g ST st SGT ++ dayR g A d G)) : List va_W), (sh_128 g S (SA 0) (ST 0) sv SA sd SG ST st SGT A d G sd1 G2), ?_⟩
  refine y_aload_n C dX4_find_8 0 rfl rfl ?_
  refine y_get (Cn := RX4) (T := TX4) (N := 9) (v := .ref (SA 0)) C dX4_find_9 hX4_find_X4 0 (sh_116 g S (SA 0) (ST 0) sv SA sd1 G2 ST st SGT A d G) rfl 0 (Nat.le_of_ble_eq_true rfl) kX4_find_1 rfl ?_
  refine y_callVv (As := []) (rest := []) C dX4_find_12 (c_X0_beReady g SA sd1 G2) rfl rfl rfl rfl ⟨Nat.le_of_ble_eq_true rfl, Nat.le_of_ble_eq_true rfl⟩ gX4_find_X0_beReady (nA := 0) (by decide +kernel) rfl (sh_18 g SA sd1 G2) (Nat.le_of_ble_eq_true rfl) ⟨Nat.le_of_ble_eq_true rfl, Nat.le_of_ble_eq_true rfl⟩ [1, 4, 5, 6, 7, 8, 9, 10, 11, 12, 13, 14, 15] [0, 2, 3, 16, 17, 18, 19, 20, 21, 22, 23, 24, 25, 26, 27, 28, 29, 30, 31, 32] (nB := 33) rfl (by decide +kernel) (sh_129 g S (SA 0) (ST 0) sv SA sd1 G2 ST st SGT A d G) (fun w9 hw => ?_)
  obtain ⟨sd4, G5, e6, rfl⟩ := hw
  have h := y_letP h e6
  refine ⟨([seaC S (SA 0) (ST 0) sv, dayC SA sd4, tabC ST st, dayC A d] ++ (dayR g SA sd4 G5 ++ (tabR g ST st SGT ++ dayR g A d G)) : List va_W), (sh_130 g S (SA 0) (ST 0) sv SA sd1 G2 ST st SGT A d G sd4 G5), ?_⟩
  refine y_aload_n C dX4_find_15 0 rfl rfl ?_
  refine y_get (Cn := RX4) (T := TX4) (N := 9) (v := .ref (SA 0)) C dX4_find_16 hX4_find_X4 0 (sh_116 g S (SA 0) (ST 0) sv SA sd4 G5 ST st SGT A d G) rfl 0 (Nat.le_of_ble_eq_true rfl) kX4_find_1 rfl ?_
  refine y_iload_n C dX4_find_19 2 rfl rfl ?_
  refine y_iload_n C dX4_find_20 3 rfl rfl ?_
  refine y_iload C dX4_find_21 4 rfl ?_
  refine y_iload C dX4_find_23 5 rfl ?_
  refine y_callV (As := [.int fr, .int to, .int wa, .int bt]) (rest := []) C dX4_find_25 (c_X0_addRide g SA sd4 G5 fr to wa bt) rfl rfl rfl rfl ⟨Nat.le_of_ble_eq_true rfl, Nat.le_of_ble_eq_true rfl⟩ gX4_find_X0_addRide (nA := 4) (by decide +kernel) rfl (sh_18 g SA sd4 G5) (Nat.le_of_ble_eq_true rfl) ⟨Nat.le_of_ble_eq_true rfl, Nat.le_of_ble_eq_true rfl⟩ [1, 4, 5, 6, 7, 8, 9, 10, 11, 12, 13, 14, 15] [0, 2, 3, 16, 17, 18, 19, 20, 21, 22, 23, 24, 25, 26, 27, 28, 29, 30, 31, 32] (nB := 33) rfl (by decide +kernel) (sh_129 g S (SA 0) (ST 0) sv SA sd4 G5 ST st SGT A d G) (fun r10 w9 hw => ?_)
  obtain ⟨er10, sd7, G8, e9, rfl⟩ := hw
  have h := y_letP h er10
  have h := y_letP h e9
  refine ⟨([seaC S (SA 0) (ST 0) sv, dayC SA sd7, tabC ST st, dayC A d] ++ (dayR g SA sd7 G8 ++ (tabR g ST st SGT ++ dayR g A d G)) : List va_W), (sh_130 g S (SA 0) (ST 0) sv SA sd4 G5 ST st SGT A d G sd7 G8), ?_⟩
  refine y_istore (lv' := [(6, .int r10), (0, .ref S), (1, .ref (A 0)), (2, .int fr), (3, .int to), (4, .int wa), (5, .int bt)]) C dX4_find_28 (Nat.le_of_ble_eq_true rfl) rfl ?_
  refine y_aload_n C dX4_find_30 1 rfl rfl ?_
  refine y_iconst (v := 0) C dX4_find_31 (by decide) ?_
  obtain ⟨sv11, esv11⟩ : ∃ z : RV, z = rvI sv 0 (0 : Int32) := ⟨_, rfl⟩
  have h := y_letP h esv11
  refine y_put (Cn := RX4) (T := TX4) (N := 9) (v := .int (0 : Int32)) (ty0 := tyX4) (L1 := ([seaC S (SA 0) (ST 0) sv11, dayC SA sd7, tabC ST st, dayC A d] ++ (dayR g SA sd7 G8 ++ (tabR g ST st SGT ++ dayR g A d G)) : List va_W)) C dX4_find_32 hX4_find_X4 0 (sh_116 g S (SA 0) (ST 0) sv SA sd7 G8 ST st SGT A d G) rfl 2 (Nat.le_of_ble_eq_true rfl) kX4_find_2 tyX4_ok nmX4 rfl rfl rfl (Nat.le_of_ble_eq_true rfl) (sh_131 g S (SA 0) (ST 0) sv SA sd7 G8 ST st SGT A d G (0 : Int32) sv11 esv11) ?_
  refine y_aload_n C dX4_find_35 2 rfl rfl ?_
  refine y_get (Cn := RX0) (T := TX0) (N := 15) (v := .ref (A 23)) C dX4_find_36 hX4_find_X0 3 (sh_117 g S (SA 0) (ST 0) sv11 SA sd7 G8 ST st SGT A d G) rfl 11 (Nat.le_of_ble_eq_true rfl) kX4_find_3 rfl ?_
  refine y_callV (As := []) (rest := []) C dX4_find_39 (c_X3_length g (A 23) (A 24) 34 (d.1 11) (G 11) (by decide)) rfl rfl rfl rfl ⟨Nat.le_of_ble_eq_true rfl, Nat.le_of_ble_eq_true rfl⟩ gX4_find_X3_length (nA := 0) (by decide +kernel) rfl (rowW_recv ⟨_, rfl⟩) (Nat.le_of_ble_eq_true rfl) ⟨Nat.le_of_ble_eq_true rfl, Nat.le_of_ble_eq_true rfl⟩ [32] [0, 1, 2, 3, 4, 5, 6, 7, 8, 9, 10, 11, 12, 13, 14, 15, 16, 17, 18, 19, 20, 21, 22, 23, 24, 25, 26, 27, 28, 29, 30, 31] (nB := 33) rfl (by decide +kernel) (sh_132 g S (SA 0) (ST 0) sv11 SA sd7 G8 ST st SGT A d G) (fun r12 w9 hw => ?_)
  obtain ⟨er12, rfl⟩ := hw
  have h := y_letP h er12
  refine ⟨([seaC S (SA 0) (ST 0) sv11, dayC SA sd7, tabC ST st, dayC A d] ++ (dayR g SA sd7 G8 ++ (tabR g ST st SGT ++ dayR g A d G)) : List va_W), ⟨(sh_132 g S (SA 0) (ST 0) sv11 SA sd7 G8 ST st SGT A d G), rfl, rfl⟩, ?_⟩
  refine y_istore (lv' := [(7, .int r12), (6, .int r10), (0, .ref S), (1, .ref (A 0)), (2, .int fr), (3, .int to), (4, .int wa), (5, .int bt)]) C dX4_find_42 (Nat.le_of_ble_eq_true rfl) rfl ?_
  refine y_aload_n C dX4_find_44 3 rfl rfl ?_
  refine y_callV (As := []) (rest := []) C dX4_find_45 (c_X0_isOnItsWay g A d G) rfl rfl rfl rfl ⟨Nat.le_of_ble_eq_true rfl, Nat.le_of_ble_eq_true rfl⟩ gX4_find_X0_isOnItsWay (nA := 0) (by decide +kernel) rfl (sh_18 g A d G) (Nat.le_of_ble_eq_true rfl) ⟨Nat.le_of_ble_eq_true rfl, Nat.le_of_ble_eq_true rfl⟩ [3, 21, 22, 23, 24, 25, 26, 27, 28, 29, 30, 31, 32] [0, 1, 2, 4, 5, 6, 7, 8, 9, 10, 11, 12, 13, 14, 15, 16, 17, 18, 19, 20] (nB := 33) rfl (by decide +kernel) (sh_133 g S (SA 0) (ST 0) sv11 SA sd7 G8 ST st SGT A d G) (fun r13 w9 hw => ?_)
  obtain ⟨er13, rfl⟩ := hw
  have h := y_letP h er13
  refine ⟨([seaC S (SA 0) (ST 0) sv11, dayC SA sd7, tabC ST st, dayC A d] ++ (dayR g SA sd7 G8 ++ (tabR g ST st SGT ++ dayR g A d G)) : List va_W), ⟨(sh_133 g S (SA 0) (ST 0) sv11 SA sd7 G8 ST st SGT A d G), rfl, rfl⟩, ?_⟩
  refine y_if_eq (tgt := 55) C dX4_find_48 rfl h (fun c48 h => ?_) (fun c48 h => ?_)
  · refine y_iconst (v := 0) C dX4_find_55 (by decide) ?_
    refine y_istore (lv' := [(8, .int (0 : Int32)), (7, .int r12), (6, .int r10), (0, .ref S), (1, .ref (A 0)), (2, .int fr), (3, .int to), (4, .int wa), (5, .int bt)]) C dX4_find_56 (Nat.le_of_ble_eq_true rfl) rfl ?_
    refine y_sub (lv' := [(0, .ref S), (1, .ref (A 0)), (6, .int r10), (7, .int r12), (8, .int (0 : Int32))]) [3, 4, 2, 1, 0] rfl ?_
    exact hX58 _ _ _ _ _ _ _ _ h
  · refine y_iconst (v := 1) C dX4_find_51 (by decide) ?_
    refine y_goto (tgt := 56) C dX4_find_52 rfl ?_
    refine y_istore (lv' := [(8, .int (1 : Int32)), (7, .int r12), (6, .int r10), (0, .ref S), (1, .ref (A 0)), (2, .int fr), (3, .int to), (4, .int wa), (5, .int bt)]) C dX4_find_56 (Nat.le_of_ble_eq_true rfl) rfl ?_
    refine y_sub (lv' := [(0, .ref S), (1, .ref (A 0)), (6, .int r10), (7, .int r12), (8, .int (1 : Int32))]) [3, 4, 2, 1, 0] rfl ?_
    exact hX58 _ _ _ _ _ _ _ _ h
