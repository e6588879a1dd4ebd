theorem dX6_bookAll_0 : decode cX6_bookAll 0 = .ok (.aload_n 0, 1) := by decide +kernel
theorem dX6_bookAll_1 : decode cX6_bookAll 1 = .ok (.getfield 33, 3) := by decide +kernel
theorem dX6_bookAll_4 : decode cX6_bookAll 4 = .ok (.invokevirtual 117, 3) := by decide +kernel
theorem dX6_bookAll_7 : decode cX6_bookAll 7 = .ok (.bipush (-6), 2) := by decide +kernel
theorem dX6_bookAll_9 : decode cX6_bookAll 9 = .ok (.if_icmp .eq 6, 3) := by decide +kernel
theorem dX6_bookAll_12 : decode cX6_bookAll 12 = .ok (.bipush (-3), 2) := by decide +kernel
theorem dX6_bookAll_14 : decode cX6_bookAll 14 = .ok (.ireturn, 1) := by decide +kernel
theorem dX6_bookAll_15 : decode cX6_bookAll 15 = .ok (.aload_n 0, 1) := by decide +kernel
theorem dX6_bookAll_16 : decode cX6_bookAll 16 = .ok (.getfield 40, 3) := by decide +kernel
theorem dX6_bookAll_19 : decode cX6_bookAll 19 = .ok (.aload_n 0, 1) := by decide +kernel
theorem dX6_bookAll_20 : decode cX6_bookAll 20 = .ok (.getfield 12, 3) := by decide +kernel
theorem dX6_bookAll_23 : decode cX6_bookAll 23 = .ok (.invokevirtual 65, 3) := by decide +kernel
theorem dX6_bookAll_26 : decode cX6_bookAll 26 = .ok (.iconst 0, 1) := by decide +kernel
theorem dX6_bookAll_27 : decode cX6_bookAll 27 = .ok (.istore_n 1, 1) := by decide +kernel
theorem dX6_bookAll_28 : decode cX6_bookAll 28 = .ok (.iconst 0, 1) := by decide +kernel
theorem dX6_bookAll_29 : decode cX6_bookAll 29 = .ok (.istore_n 2, 1) := by decide +kernel
theorem dX6_bookAll_30 : decode cX6_bookAll 30 = .ok (.iload_n 2, 1) := by decide +kernel
theorem dX6_bookAll_31 : decode cX6_bookAll 31 = .ok (.aload_n 0, 1) := by decide +kernel
theorem dX6_bookAll_32 : decode cX6_bookAll 32 = .ok (.getfield 33, 3) := by decide +kernel
theorem dX6_bookAll_35 : decode cX6_bookAll 35 = .ok (.getfield 120, 3) := by decide +kernel
theorem dX6_bookAll_38 : decode cX6_bookAll 38 = .ok (.invokevirtual 59, 3) := by decide +kernel
theorem dX6_bookAll_41 : decode cX6_bookAll 41 = .ok (.if_icmp .ge 88, 3) := by decide +kernel
theorem dX6_bookAll_44 : decode cX6_bookAll 44 = .ok (.aload_n 0, 1) := by decide +kernel
theorem dX6_bookAll_45 : decode cX6_bookAll 45 = .ok (.aload_n 0, 1) := by decide +kernel
theorem dX6_bookAll_46 : decode cX6_bookAll 46 = .ok (.getfield 33, 3) := by decide +kernel
theorem dX6_bookAll_49 : decode cX6_bookAll 49 = .ok (.getfield 120, 3) := by decide +kernel
theorem dX6_bookAll_52 : decode cX6_bookAll 52 = .ok (.iload_n 2, 1) := by decide +kernel
theorem dX6_bookAll_53 : decode cX6_bookAll 53 = .ok (.invokevirtual 72, 3) := by decide +kernel
theorem dX6_bookAll_56 : decode cX6_bookAll 56 = .ok (.aload_n 0, 1) := by decide +kernel
theorem dX6_bookAll_57 : decode cX6_bookAll 57 = .ok (.getfield 33, 3) := by decide +kernel
theorem dX6_bookAll_60 : decode cX6_bookAll 60 = .ok (.getfield 120, 3) := by decide +kernel
theorem dX6_bookAll_63 : decode cX6_bookAll 63 = .ok (.iload_n 2, 1) := by decide +kernel
theorem dX6_bookAll_64 : decode cX6_bookAll 64 = .ok (.iconst 1, 1) := by decide +kernel
theorem dX6_bookAll_65 : decode cX6_bookAll 65 = .ok (.iadd, 1) := by decide +kernel
theorem dX6_bookAll_66 : decode cX6_bookAll 66 = .ok (.invokevirtual 72, 3) := by decide +kernel
theorem dX6_bookAll_69 : decode cX6_bookAll 69 = .ok (.aload_n 0, 1) := by decide +kernel
theorem dX6_bookAll_70 : decode cX6_bookAll 70 = .ok (.getfield 33, 3) := by decide +kernel
theorem dX6_bookAll_73 : decode cX6_bookAll 73 = .ok (.getfield 120, 3) := by decide +kernel
theorem dX6_bookAll_76 : decode cX6_bookAll 76 = .ok (.iload_n 2, 1) := by decide +kernel
theorem dX6_bookAll_77 : decode cX6_bookAll 77 = .ok (.iconst 2, 1) := by decide +kernel
theorem dX6_bookAll_78 : decode cX6_bookAll 78 = .ok (.iadd, 1) := by decide +kernel
theorem dX6_bookAll_79 : decode cX6_bookAll 79 = .ok (.invokevirtual 72, 3) := by decide +kernel
theorem dX6_bookAll_82 : decode cX6_bookAll 82 = .ok (.aload_n 0, 1) := by decide +kernel
theorem dX6_bookAll_83 : decode cX6_bookAll 83 = .ok (.getfield 33, 3) := by decide +kernel
theorem dX6_bookAll_86 : decode cX6_bookAll 86 = .ok (.getfield 120, 3) := by decide +kernel
theorem dX6_bookAll_89 : decode cX6_bookAll 89 = .ok (.iload_n 2, 1) := by decide +kernel
theorem dX6_bookAll_90 : decode cX6_bookAll 90 = .ok (.iconst 3, 1) := by decide +kernel
theorem dX6_bookAll_91 : decode cX6_bookAll 91 = .ok (.iadd, 1) := by decide +kernel
theorem dX6_bookAll_92 : decode cX6_bookAll 92 = .ok (.invokevirtual 72, 3) := by decide +kernel
theorem dX6_bookAll_95 : decode cX6_bookAll 95 = .ok (.invokevirtual 88, 3) := by decide +kernel
theorem dX6_bookAll_98 : decode cX6_bookAll 98 = .ok (.istore_n 3, 1) := by decide +kernel
theorem dX6_bookAll_99 : decode cX6_bookAll 99 = .ok (.iload_n 3, 1) := by decide +kernel
theorem dX6_bookAll_100 : decode cX6_bookAll 100 = .ok (.ifCond .ge 6, 3) := by decide +kernel
theorem dX6_bookAll_103 : decode cX6_bookAll 103 = .ok (.goto 26, 3) := by decide +kernel
theorem dX6_bookAll_106 : decode cX6_bookAll 106 = .ok (.aload_n 0, 1) := by decide +kernel
theorem dX6_bookAll_107 : decode cX6_bookAll 107 = .ok (.getfield 12, 3) := by decide +kernel
theorem dX6_bookAll_110 : decode cX6_bookAll 110 = .ok (.aload_n 0, 1) := by decide +kernel
theorem dX6_bookAll_111 : decode cX6_bookAll 111 = .ok (.getfield 26, 3) := by decide +kernel
theorem dX6_bookAll_114 : decode cX6_bookAll 114 = .ok (.getfield 92, 3) := by decide +kernel
theorem dX6_bookAll_117 : decode cX6_bookAll 117 = .ok (.invokevirtual 93, 3) := by decide +kernel
theorem dX6_bookAll_120 : decode cX6_bookAll 120 = .ok (.iinc 1 1, 3) := by decide +kernel
theorem dX6_bookAll_123 : decode cX6_bookAll 123 = .ok (.iinc 2 4, 3) := by decide +kernel
theorem dX6_bookAll_126 : decode cX6_bookAll 126 = .ok (.goto (-96), 3) := by decide +kernel
theorem dX6_bookAll_129 : decode cX6_bookAll 129 = .ok (.aload_n 0, 1) := by decide +kernel
theorem dX6_bookAll_130 : decode cX6_bookAll 130 = .ok (.getfield 33, 3) := by decide +kernel
theorem dX6_bookAll_133 : decode cX6_bookAll 133 = .ok (.getfield 123, 3) := by decide +kernel
theorem dX6_bookAll_136 : decode cX6_bookAll 136 = .ok (.invokevirtual 126, 3) := by decide +kernel
theorem dX6_bookAll_139 : decode cX6_bookAll 139 = .ok (.iload_n 1, 1) := by decide +kernel
theorem dX6_bookAll_140 : decode cX6_bookAll 140 = .ok (.ireturn, 1) := by decide +kernel
set_option maxRecDepth 20000 in
theorem ggX6_bookAll_X3_length : GoodIn wsX6_bookAll wsX3_length := goodIn_r _ [24, 20, 257, 258] (by decide +kernel) (by decide +kernel)
set_option maxRecDepth 20000 in
theorem gX6_bookAll_X3_length : GoodIn wsX6_bookAll (wsV RX6 59 RX3 yX3_length wsX3_length) := goodIn_app (goodIn_of _ (by decide +kernel)) ggX6_bookAll_X3_length
set_option maxRecDepth 20000 in
theorem ggX6_bookAll_X3_clear : GoodIn wsX6_bookAll wsX3_clear := goodIn_r _ [19, 20, 257, 258] (by decide +kernel) (by decide +kernel)
set_option maxRecDepth 20000 in
theorem gX6_bookAll_X3_clear : GoodIn wsX6_bookAll (wsV RX6 126 RX3 yX3_clear wsX3_clear) := goodIn_app (goodIn_of _ (by decide +kernel)) ggX6_bookAll_X3_clear
set_option maxRecDepth 20000 in
theorem ggX6_bookAll_X3_at : GoodIn wsX6_bookAll wsX3_at := goodIn_r _ [28, 20, 29, 257, 258] (by decide +kernel) (by decide +kernel)
set_option maxRecDepth 20000 in
theorem gX6_bookAll_X3_at : GoodIn wsX6_bookAll (wsV RX6 72 RX3 yX3_at wsX3_at) := goodIn_app (goodIn_of _ (by decide +kernel)) ggX6_bookAll_X3_at
set_option maxRecDepth 20000 in
theorem ggX6_bookAll_X6_tryToBook : GoodIn wsX6_bookAll wsX6_tryToBook := goodIn_r _ [111, 3, 112, 5, 113, 114, 115, 110, 116, 117, 118, 119, 56, 120, 70, 121, 22, 23, 18, 24, 20, 105, 122, 123, 124, 125, 126, 127, 128, 129, 130, 131, 132, 133, 92, 93, 94, 69, 71, 72, 73, 74, 75, 76, 77, 78, 79, 80, 95, 96, 97, 98, 99, 100, 101, 29, 102, 103, 87, 104, 134, 135, 136, 137, 138, 86, 88, 139, 140, 141, 142, 90, 40, 41, 42, 43, 44, 45, 46, 143, 144, 145, 146, 147, 148, 149, 150, 26, 27, 28, 151, 152, 153, 154, 155, 156, 157, 158, 159, 160, 161, 162, 163, 164, 165, 166, 167, 168, 169, 170, 171, 172, 173, 174, 175, 176, 177, 178, 179, 180, 181, 182, 183, 184, 185, 186, 187, 188, 189, 190, 16, 17, 19, 191, 192, 193, 194, 195, 196, 197, 198, 199, 200, 201, 202, 203, 204, 205, 206, 207, 208, 209, 210, 211, 212, 213, 214, 215, 216, 217, 218, 219, 220, 221, 222, 223, 224, 225, 226, 227, 228, 229, 230, 231, 232, 233, 234, 235, 236, 237, 240, 241, 242, 243, 244, 245, 261, 262, 263, 264, 265, 266, 267, 268, 269, 270, 271, 272, 273, 274, 275, 257, 258, 248, 249, 250, 251, 252, 253, 254, 255, 256, 276, 277, 278, 279, 280, 281, 282, 283, 284, 285] (by decide +kernel) (by decide +kernel)
set_option maxRecDepth 20000 in
theorem gX6_bookAll_X6_tryToBook : GoodIn wsX6_bookAll (wsV RX6 88 RX6 yX6_tryToBook wsX6_tryToBook) := goodIn_app (goodIn_of _ (by decide +kernel)) ggX6_bookAll_X6_tryToBook
set_option maxRecDepth 20000 in
theorem ggX6_bookAll_X0_copy : GoodIn wsX6_bookAll wsX0_copy := goodIn_r _ [94, 69, 70, 71, 72, 73, 74, 75, 76, 77, 78, 79, 80, 95, 96, 97, 98, 99, 100, 18, 101, 20, 29, 102, 103, 87, 104, 261, 262, 263, 264, 265, 266, 267, 268, 269, 270, 271, 272, 273, 274, 275, 257, 258] (by decide +kernel) (by decide +kernel)
set_option maxRecDepth 20000 in
theorem gX6_bookAll_X0_copy : GoodIn wsX6_bookAll (wsV RX6 93 RX0 yX0_copy wsX0_copy) := goodIn_app (goodIn_of _ (by decide +kernel)) ggX6_bookAll_X0_copy
set_option maxRecDepth 20000 in
theorem ggX6_bookAll_X2_findFault : GoodIn wsX6_bookAll wsX2_findFault := goodIn_r _ [12, 13, 14, 15, 16, 17, 18, 19, 20, 21, 22, 23, 24, 25, 26, 27, 28, 29, 30, 31, 11, 32, 33, 34, 35, 36, 37, 38, 39, 40, 41, 42, 43, 44, 45, 46, 246, 247, 257, 258] (by decide +kernel) (by decide +kernel)
set_option maxRecDepth 20000 in
theorem gX6_bookAll_X2_findFault : GoodIn wsX6_bookAll (wsV RX6 117 RX2 yX2_findFault wsX2_findFault) := goodIn_app (goodIn_of _ (by decide +kernel)) ggX6_bookAll_X2_findFault
set_option maxRecDepth 20000 in
theorem ggX6_bookAll_X1_add : GoodIn wsX6_bookAll wsX1_add := goodIn_r _ [51, 52, 53, 54, 55, 56, 57, 58, 59, 50, 60, 61, 62, 63, 64, 65, 66, 67, 68, 18, 69, 70, 71, 72, 73, 74, 75, 76, 77, 78, 79, 80, 81, 82, 83, 84, 85, 86, 87, 88, 89, 29, 90, 40, 41, 42, 20, 43, 44, 45, 46, 91, 92, 93, 94, 95, 96, 97, 98, 99, 100, 101, 102, 103, 104, 259, 260, 261, 262, 263, 264, 265, 266, 267, 268, 269, 270, 271, 272, 273, 274, 275, 257, 258] (by decide +kernel) (by decide +kernel)
set_option maxRecDepth 20000 in
theorem gX6_bookAll_X1_add : GoodIn wsX6_bookAll (wsV RX6 65 RX1 yX1_add wsX1_add) := goodIn_app (goodIn_of _ (by decide +kernel)) ggX6_bookAll_X1_add
theorem kX6_bookAll_1 : Cond.fieldLink RX6 33 "BookedDetours" "pad" "LBookedDetours$Pad;" ∈ wsX6_bookAll := List.mem_of_getElem? (i := 1) (by decide +kernel)
theorem kX6_bookAll_4 : Cond.fieldLink RX6 120 "BookedDetours$Pad" "numbers" "LBookedDetours$Row;" ∈ wsX6_bookAll := List.mem_of_getElem? (i := 4) (by decide +kernel)
theorem kX6_bookAll_7 : Cond.fieldLink RX6 123 "BookedDetours$Pad" "signs" "LBookedDetours$Row;" ∈ wsX6_bookAll := List.mem_of_getElem? (i := 7) (by decide +kernel)
theorem kX6_bookAll_3 : Cond.fieldLink RX6 12 "BookedDetours" "day" "LBookedDetours$Day;" ∈ wsX6_bookAll := List.mem_of_getElem? (i := 3) (by decide +kernel)
theorem kX6_bookAll_5 : Cond.fieldLink RX6 26 "BookedDetours" "search" "LBookedDetours$Search;" ∈ wsX6_bookAll := List.mem_of_getElem? (i := 5) (by decide +kernel)
theorem kX6_bookAll_6 : Cond.fieldLink RX6 92 "BookedDetours$Search" "day" "LBookedDetours$Day;" ∈ wsX6_bookAll := List.mem_of_getElem? (i := 6) (by decide +kernel)
theorem kX6_bookAll_2 : Cond.fieldLink RX6 40 "BookedDetours" "history" "LBookedDetours$History;" ∈ wsX6_bookAll := List.mem_of_getElem? (i := 2) (by decide +kernel)
theorem hX6_bookAll_X6 : ∀ w ∈ u_ws RX6 TX6 6, w ∈ wsX6_bookAll := fun _ h => List.mem_cons_of_mem _ (List.mem_append_left _ (List.mem_append_left _ (List.mem_append_left _ (List.mem_append_left _ (List.mem_append_left _ (List.mem_append_left _ (List.mem_append_right _ h)))))))
theorem hX6_bookAll_X2 : ∀ w ∈ u_ws RX2 TX2 2, w ∈ wsX6_bookAll := fun _ h => List.mem_cons_of_mem _ (List.mem_append_left _ (List.mem_append_left _ (List.mem_append_left _ (List.mem_append_left _ (List.mem_append_left _ (List.mem_append_right _ h))))))
theorem hX6_bookAll_X4 : ∀ w ∈ u_ws RX4 TX4 9, w ∈ wsX6_bookAll := fun _ h => List.mem_cons_of_mem _ (List.mem_append_left _ (List.mem_append_left _ (List.mem_append_left _ (List.mem_append_left _ (List.mem_append_right _ h)))))
set_option maxHeartbeats 4000000 in
set_option maxRecDepth 100000 in
theorem w_X6_bookAll_30 {Z : yZ} (g : yG) (x rt rl : Nat) (A : Nat → Nat) (S : Nat) (SA : Nat → Nat) (ST : Nat → Nat) (P : Nat → Nat) (hst arr : Nat) (C : yC Z g cX6_bookAll 4 wsX6_bookAll RX6) {post : Int32 → List va_W → Prop} (HR : yRi Z ({ frames := 6, cells := 25, slots := 236, locals := 148 } : Room) cX6_bookAll .int post 25 236) {X30 : RV → RV → RV → RV → RV → (List RV) → Int32 → Int32 → Prop} (hX30 : ∀ (d : RV) (sv : RV) (sd : RV) (st : RV) (p : RV) (xs : List RV) (x1 : Int32) (x2 : Int32) (G : Nat → Nat → Int32) (SG : Nat → Nat → Int32) (SGT : Nat → Nat → Int32) (GP : Nat → Nat → Int32) (R : List ((Nat → Nat) × RV × (Nat → Nat → Int32))), X30 d sv sd st p xs x1 x2 → yJ Z ({ frames := 6, cells := 25, slots := 236, locals := 148 } : Room) 25 236 ([mnC x (A 0) rt S (P 0) hst rl, dayC A d, seaC S (SA 0) (ST 0) sv, dayC SA sd, tabC ST st, padC P p] ++ (dayR g A d G ++ (dayR g SA sd SG ++ (tabR g ST st SGT ++ (padR g P p GP ++ [histW g hst arr xs R])))) : List va_W) 30 [(0, .ref x), (1, .int x1), (2, .int x2)] []) {K : Int32 → RV → RV → RV → RV → RV → (List RV) → Prop} (hK : ∀ (r0 : Int32) (d : RV) (sv : RV) (sd : RV) (st : RV) (p : RV) (xs : List RV) (G : Nat → Nat → Int32) (SG : Nat → Nat → Int32) (SGT : Nat → Nat → Int32) (GP : Nat → Nat → Int32) (R : List ((Nat → Nat) × RV × (Nat → Nat → Int32))), K r0 d sv sd st p xs → post r0 ([mnC x (A 0) rt S (P 0) hst rl, dayC A d, seaC S (SA 0) (ST 0) sv, dayC SA sd, tabC ST st, padC P p] ++ (dayR g A d G ++ (dayR g SA sd SG ++ (tabR g ST st SGT ++ (padR g P p GP ++ [histW g hst arr xs R])))) : List va_W)) (d : RV) (sv : RV) (sd : RV) (st : RV) (p : RV) (xs : List RV) (x1 : Int32) (x2 : Int32) (G : Nat → Nat → Int32) (SG : Nat → Nat → Int32) (SGT : Nat → Nat → Int32) (GP : Nat → Nat → Int32) (R : List ((Nat → Nat) × RV × (Nat → Nat → Int32))) (h : wp_X6_bookAll_30  X30 K d sv sd st p xs x1 x2) : yJ Z ({ frames := 6, cells := 25, slots := 236, locals := 148 } : Room) 25 236 ([mnC x (A 0) rt S (P 0) hst rl, dayC A d, seaC S (SA 0) (ST 0) sv, dayC SA sd, tabC ST st, padC P p] ++ (dayR g A d G ++ (dayR g SA sd SG ++ (tabR g ST st SGT ++ (padR g P p GP ++ [histW g hst arr xs R])))) : List va_W) 30 [(0, .ref x), (1, .int x1), (2, .int x2)] [] := by
  unfold wp_X6_bookAll_30 at h
  refine y_iload_n C dX6_bookAll_30 2 rfl rfl ?_
  refine y_aload_n C dX6_bookAll_31 0 rfl rfl ?_
  refine y_get (Cn := RX6) (T := TX6) (N := 6) (v := .ref (P 0)) C dX6_bookAll_32 hX6_bookAll_X6 0 (sh_242 g x (A 0) rt S (P 0) hst rl A d G S (SA 0) (ST 0) sv SA sd SG ST st SGT P p GP hst arr xs R) rfl 3 (Nat.le_of_ble_eq_true rfl) kX6_bookAll_1 rfl ?_
  refine y_get (Cn := RX2) (T := TX2) (N := 2) (v := .ref (P 3)) C dX6_bookAll_35 hX6_bookAll_X2 5 (sh_243 g x (A 0) rt S (P 0) hst rl A d G S (SA 0) (ST 0) sv SA sd SG ST st SGT P p GP hst arr xs R) rfl 1 (Nat.le_of_ble_eq_true rfl) kX6_bookAll_4 rfl ?_
  refine y_callV (As := []) (rest := [.int x2]) C dX6_bookAll_38 (c_X3_length g (P 3) (P 4) 31 (p.1 1) (GP 1) (by decide)) rfl rfl rfl rfl ⟨Nat.le_of_ble_eq_true rfl, Nat.le_of_ble_eq_true rfl⟩ gX6_bookAll_X3_length (nA := 0) (by decide +kernel) rfl (rowW_recv ⟨_, rfl⟩) (Nat.le_of_ble_eq_true rfl) ⟨Nat.le_of_ble_eq_true rfl, Nat.le_of_ble_eq_true rfl⟩ [36] [0, 1, 2, 3, 4, 5, 6, 7, 8, 9, 10, 11, 12, 13, 14, 15, 16, 17, 18, 19, 20, 21, 22, 23, 24, 25, 26, 27, 28, 29, 30, 31, 32, 33, 34, 35, 37] (nB := 38) rfl (by decide +kernel) (sh_244 g x (A 0) rt S (P 0) hst rl A d G S (SA 0) (ST 0) sv SA sd SG ST st SGT P p GP hst arr xs R) (fun r1 w9 hw => ?_)
  obtain ⟨er1, rfl⟩ := hw
  have h := y_letP h er1
  refine ⟨([mnC x (A 0) rt S (P 0) hst rl, dayC A d, seaC S (SA 0) (ST 0) sv, dayC SA sd, tabC ST st, padC P p] ++ (dayR g A d G ++ (dayR g SA sd SG ++ (tabR g ST st SGT ++ (padR g P p GP ++ [histW g hst arr xs R])))) : List va_W), ⟨(sh_244 g x (A 0) rt S (P 0) hst rl A d G S (SA 0) (ST 0) sv SA sd SG ST st SGT P p GP hst arr xs R), rfl, rfl⟩, ?_⟩
  refine y_icmp_ge (tgt := 129) C dX6_bookAll_41 rfl h (fun c41 h => ?_) (fun c41 h => ?_)
  · refine y_aload_n C dX6_bookAll_129 0 rfl rfl ?_
    refine y_get (Cn := RX6) (T := TX6) (N := 6) (v := .ref (P 0)) C dX6_bookAll_130 hX6_bookAll_X6 0 (sh_242 g x (A 0) rt S (P 0) hst rl A d G S (SA 0) (ST 0) sv SA sd SG ST st SGT P p GP hst arr xs R) rfl 3 (Nat.le_of_ble_eq_true rfl) kX6_bookAll_1 rfl ?_
    refine y_get (Cn := RX2) (T := TX2) (N := 2) (v := .ref (P 1)) C dX6_bookAll_133 hX6_bookAll_X2 5 (sh_243 g x (A 0) rt S (P 0) hst rl A d G S (SA 0) (ST 0) sv SA sd SG ST st SGT P p GP hst arr xs R) rfl 0 (Nat.le_of_ble_eq_true rfl) kX6_bookAll_7 rfl ?_
    refine y_callVv (As := []) (rest := []) C dX6_bookAll_136 (c_X3_clear g (P 1) (P 2) 60 (p.1 0) (GP 0) (by decide)) rfl rfl rfl rfl ⟨Nat.le_of_ble_eq_true rfl, Nat.le_of_ble_eq_true rfl⟩ gX6_bookAll_X3_clear (nA := 0) (by decide +kernel) rfl (rowW_recv ⟨_, rfl⟩) (Nat.le_of_ble_eq_true rfl) ⟨Nat.le_of_ble_eq_true rfl, Nat.le_of_ble_eq_true rfl⟩ [35] [0, 1, 2, 3, 4, 5, 6, 7, 8, 9, 10, 11, 12, 13, 14, 15, 16, 17, 18, 19, 20, 21, 22, 23, 24, 25, 26, 27, 28, 29, 30, 31, 32, 33, 34, 36, 37] (nB := 38) rfl (by decide +kernel) (sh_245 g x (A 0) rt S (P 0) hst rl A d G S (SA 0) (ST 0) sv SA sd SG ST st SGT P p GP hst arr xs R) (fun w9 hw => ?_)
    obtain ⟨y2, G3, e4, rfl⟩ := hw
    obtain ⟨p5, ep5⟩ : ∃ z : RV, z = rvR p 0 y2 := ⟨_, rfl⟩
    obtain ⟨G6, eG6⟩ : ∃ z : Nat → Nat → Int32, z = gs GP 0 G3 := ⟨_, rfl⟩
    have h := y_letP h (show p5 = rvR p 0 ([]) by rw [ep5, e4])
    refine ⟨([mnC x (A 0) rt S (P 0) hst rl, dayC A d, seaC S (SA 0) (ST 0) sv, dayC SA sd, tabC ST st, padC P p5] ++ (dayR g A d G ++ (dayR g SA sd SG ++ (tabR g ST st SGT ++ (padR g P p5 G6 ++ [histW g hst arr xs R])))) : List va_W), (sh_246 g x (A 0) rt S (P 0) hst rl A d G S (SA 0) (ST 0) sv SA sd SG ST st SGT P p GP hst arr xs R y2 G3 p5 G6 ep5 eG6), ?_⟩
    refine y_iload_n C dX6_bookAll_139 1 rfl rfl ?_
    exact HR 140 dX6_bookAll_140 x1 _ _ _ _ (rfl) (Nat.le_of_ble_eq_true rfl) (Nat.le_of_ble_eq_true rfl) (hK _ _ _ _ _ _ _ _ _ _ _ _ h)
  · refine y_aload_n C dX6_bookAll_44 0 rfl rfl ?_
    refine y_aload_n C dX6_bookAll_45 0 rfl rfl ?_
    refine y_get (Cn := RX6) (T := TX6) (N := 6) (v := .ref (P 0)) C dX6_bookAll_46 hX6_bookAll_X6 0 (sh_242 g x (A 0) rt S (P 0) hst rl A d G S (SA 0) (ST 0) sv SA sd SG ST st SGT P p GP hst arr xs R) rfl 3 (Nat.le_of_ble_eq_true rfl) kX6_bookAll_1 rfl ?_
    refine y_get (Cn := RX2) (T := TX2) (N := 2) (v := .ref (P 3)) C dX6_bookAll_49 hX6_bookAll_X2 5 (sh_243 g x (A 0) rt S (P 0) hst rl A d G S (SA 0) (ST 0) sv SA sd SG ST st SGT P p GP hst arr xs R) rfl 1 (Nat.le_of_ble_eq_true rfl) kX6_bookAll_4 rfl ?_
    refine y_iload_n C dX6_bookAll_52 2 rfl rfl ?_
    refine y_callV (As := [.int x2]) (rest := [.ref x]) C dX6_bookAll_53 (c_X3_at g (P 3) (P 4) 31 (p.1 1) (GP 1) x2 (by decide)) rfl rfl rfl rfl ⟨Nat.le_of_ble_eq_true rfl, Nat.le_of_ble_eq_true rfl⟩ gX6_bookAll_X3_at (nA := 1) (by decide +kernel) rfl (rowW_recv ⟨_, rfl⟩) (Nat.le_of_ble_eq_true rfl) ⟨Nat.le_of_ble_eq_true rfl, Nat.le_of_ble_eq_true rfl⟩ [36] [0, 1, 2, 3, 4, 5, 6, 7, 8, 9, 10, 11, 12, 13, 14, 15, 16, 17, 18, 19, 20, 21, 22, 23, 24, 25, 26, 27, 28, 29, 30, 31, 32, 33, 34, 35, 37] (nB := 38) rfl (by decide +kernel) (sh_244 g x (A 0) rt S (P 0) hst rl A d G S (SA 0) (ST 0) sv SA sd SG ST st SGT P p GP hst arr xs R) (fun r7 w9 hw => ?_)
    obtain ⟨er7, rfl⟩ := hw
    have h := y_letP h er7
    refine ⟨([mnC x (A 0) rt S (P 0) hst rl, dayC A d, seaC S (SA 0) (ST 0) sv, dayC SA sd, tabC ST st, padC P p] ++ (dayR g A d G ++ (dayR g SA sd SG ++ (tabR g ST st SGT ++ (padR g P p GP ++ [histW g hst arr xs R])))) : List va_W), ⟨(sh_244 g x (A 0) rt S (P 0) hst rl A d G S (SA 0) (ST 0) sv SA sd SG ST st SGT P p GP hst arr xs R), rfl, rfl⟩, ?_⟩
    refine y_aload_n C dX6_bookAll_56 0 rfl rfl ?_
    refine y_get (Cn := RX6) (T := TX6) (N := 6) (v := .ref (P 0)) C dX6_bookAll_57 hX6_bookAll_X6 0 (sh_242 g x (A 0) rt S (P 0) hst rl A d G S (SA 0) (ST 0) sv SA sd SG ST st SGT P p GP hst arr xs R) rfl 3 (Nat.le_of_ble_eq_true rfl) kX6_bookAll_1 rfl ?_
    refine y_get (Cn := RX2) (T := TX2) (N := 2) (v := .ref (P 3)) C dX6_bookAll_60 hX6_bookAll_X2 5 (sh_243 g x (A 0) rt S (P 0) hst rl A d G S (SA 0) (ST 0) sv SA sd SG ST st SGT P p GP hst arr xs R) rfl 1 (Nat.le_of_ble_eq_true rfl) kX6_bookAll_4 rfl ?_
    refine y_iload_n C dX6_bookAll_63 2 rfl rfl ?_
    refine y_iconst (v := 1) C dX6_bookAll_64 (by decide) ?_
    refine y_iadd C dX6_bookAll_65 ?_
    refine y_callV (As := [.int (x2 + (1 : Int32))]) (rest := [.int r7, .ref x]) C dX6_bookAll_66 (c_X3_at g (P 3) (P 4) 31 (p.1 1) (GP 1) (x2 + (1 : Int32)) (by decide)) rfl rfl rfl rfl ⟨Nat.le_of_ble_eq_true rfl, Nat.le_of_ble_eq_true rfl⟩ gX6_bookAll_X3_at (nA := 1) (by decide +kernel) rfl (rowW_recv ⟨_, rfl⟩) (Nat.le_of_ble_eq_true rfl) ⟨Nat.le_of_ble_eq_true rfl, Nat.le_of_ble_eq_true rfl⟩ [36] [0, 1, 2, 3, 4, 5, 6, 7, 8, 9, 10, 11, 12, 13, 14, 15, 16, 17, 18, 19, 20, 21, 22, 23, 24, 25, 26, 27, 28, 29, 30, 31, 32, 33, 34, 35, 37] (nB := 38) rfl (by decide +kernel) (sh_244 g x (A 0) rt S (P 0) hst rl A d G S (SA 0) (ST 0) sv SA sd SG ST st SGT P p GP hst arr xs R) (fun r8 w9 hw => ?_)
    obtain ⟨er8, rfl⟩ := hw
    have h := y_letP h er8
    refine ⟨([mnC x (A 0) rt S (P 0) hst rl, dayC A d, seaC S (SA 0) (ST 0) sv, dayC SA sd, tabC ST st, padC P p] ++ (dayR g A d G ++ (dayR g SA sd SG ++ (tabR g ST st SGT ++ (padR g P p GP ++ [histW g hst arr xs R])))) : List va_W), ⟨(sh_244 g x (A 0) rt S (P 0) hst rl A d G S (SA 0) (ST 0) sv SA sd SG ST st SGT P p GP hst arr xs R), rfl, rfl⟩, ?_⟩
    refine y_aload_n C dX6_bookAll_69 0 rfl rfl ?_
    refine y_get (Cn := RX6) (T := TX6) (N := 6) (v := .ref (P 0)) C dX6_bookAll_70 hX6_bookAll_X6 0 (sh_242 g x (A 0) rt S (P 0) hst rl A d G S (SA 0) (ST 0) sv SA sd SG ST st SGT P p GP hst arr xs R) rfl 3 (Nat.le_of_ble_eq_true rfl) kX6_bookAll_1 rfl ?_
    refine y_get (Cn := RX2) (T := TX2) (N := 2) (v := .ref (P 3)) C dX6_bookAll_73 hX6_bookAll_X2 5 (sh_243 g x (A 0) rt S (P 0) hst rl A d G S (SA 0) (ST 0) sv SA sd SG ST st SGT P p GP hst arr xs R) rfl 1 (Nat.le_of_ble_eq_true rfl) kX6_bookAll_4 rfl ?_
    refine y_iload_n C dX6_bookAll_76 2 rfl rfl ?_
    refine y_iconst (v := 2) C dX6_bookAll_77 (by decide) ?_
    refine y_iadd C dX6_bookAll_78 ?_
    refine y_callV (As := [.int (x2 + (2 : Int32))]) (rest := [.int r8, .int r7, .ref x]) C dX6_bookAll_79 (c_X3_at g (P 3) (P 4) 31 (p.1 1) (GP 1) (x2 + (2 : Int32)) (by decide)) rfl rfl rfl rfl ⟨Nat.le_of_ble_eq_true rfl, Nat.le_of_ble_eq_true rfl⟩ gX6_bookAll_X3_at (nA := 1) (by decide +kernel) rfl (rowW_recv ⟨_, rfl⟩) (Nat.le_of_ble_eq_true rfl) ⟨Nat.le_of_ble_eq_true rfl, Nat.le_of_ble_eq_true rfl⟩ [36] [0, 1, 2, 3, 4, 5, 6, 7, 8, 9, 10, 11, 12, 13, 14, 15, 16, 17, 18, 19, 20, 21, 22, 23, 24, 25, 26, 27, 28, 29, 30, 31, 32, 33, 34, 35, 37] (nB := 38) rfl (by decide +kernel) (sh_244 g x (A 0) rt S (P 0) hst rl A d G S (SA 0) (ST 0) sv SA sd SG ST st SGT P p GP hst arr xs R) (fun r9 w9 hw => ?_)
    obtain ⟨er9, rfl⟩ := hw
    have h := y_letP h er9
    refine ⟨([mnC x (A 0) rt S (P 0) hst rl, dayC A d, seaC S (SA 0) (ST 0) sv, dayC SA sd, tabC ST st, padC P p] ++ (dayR g A d G ++ (dayR g SA sd SG ++ (tabR g ST st SGT ++ (padR g P p GP ++ [histW g hst arr xs R])))) : List va_W), ⟨(sh_244 g x (A 0) rt S (P 0) hst rl A d G S (SA 0) (ST 0) sv SA sd SG ST st SGT P p GP hst arr xs R), rfl, rfl⟩, ?_⟩
    refine y_aload_n C dX6_bookAll_82 0 rfl rfl ?_
    refine y_get (Cn := RX6) (T := TX6) (N := 6) (v := .ref (P 0)) C dX6_bookAll_83 hX6_bookAll_X6 0 (sh_242 g x (A 0) rt S (P 0) hst rl A d G S (SA 0) (ST 0) sv SA sd SG ST st SGT P p GP hst arr xs R) rfl 3 (Nat.le_of_ble_eq_true rfl) kX6_bookAll_1 rfl ?_
    refine y_get (Cn := RX2) (T := TX2) (N := 2) (v := .ref (P 3)) C dX6_bookAll_86 hX6_bookAll_X2 5 (sh_243 g x (A 0) rt S (P 0) hst rl A d G S (SA 0) (ST 0) sv SA sd SG ST st SGT P p GP hst arr xs R) rfl 1 (Nat.le_of_ble_eq_true rfl) kX6_bookAll_4 rfl ?_
    refine y_iload_n C dX6_bookAll_89 2 rfl rfl ?_
    refine y_iconst (v := 3) C dX6_bookAll_90 (by decide) ?_
    refine y_iadd C dX6_bookAll_91 ?_
    refine y_callV (As := [.int (x2 + (3 : Int32))]) (rest := [.int r9, .int r8, .int r7, .ref x]) C dX6_bookAll_92 (c_X3_at g (P 3) (P 4) 31 (p.1 1) (GP 1) (x2 + (3 : Int32)) (by decide)) rfl rfl rfl rfl ⟨Nat.le_of_ble_eq_true rfl, Nat.le_of_ble_eq_true rfl⟩ gX6_bookAll_X3_at (nA := 1) (by decide +kernel) rfl (rowW_recv ⟨_, rfl⟩) (Nat.le_of_ble_eq_true rfl) ⟨Nat.le_of_ble_eq_true rfl, Nat.le_of_ble_eq_true rfl⟩ [36] [0, 1, 2, 3, 4, 5, 6, 7, 8, 9, 10, 11, 12, 13, 14, 15, 16, 17, 18, 19, 20, 21, 22, 23, 24, 25, 26, 27, 28, 29, 30, 31, 32, 33, 34, 35, 37] (nB := 38) rfl (by decide +kernel) (sh_244 g x (A 0) rt S (P 0) hst rl A d G S (SA 0) (ST 0) sv SA sd SG ST st SGT P p GP hst arr xs R) (fun r10 w9 hw => ?_)
    obtain ⟨er10, rfl⟩ := hw
    have h := y_letP h er10
    refine ⟨([mnC x (A 0) rt S (P 0) hst rl, dayC A d, seaC S (SA 0) (ST 0) sv, dayC SA sd, tabC ST st, padC P p] ++ (dayR g A d G ++ (dayR g SA sd SG ++ (tabR g ST st SGT ++ (padR g P p GP ++ [histW g hst arr xs R])))) : List va_W), ⟨(sh_244 g x (A 0) rt S (P 0) hst rl A d G S (SA 0) (ST 0) sv SA sd SG ST st SGT P p GP hst arr xs R), rfl, rfl⟩, ?_⟩
    refine y_callV (As := [.int r7, .int r8, .int r9, .int r10]) (rest := []) C dX6_bookAll_95 (c_X6_tryToBook g x rt (P 0) hst rl A d G S sv SA sd SG ST st SGT r7 r8 r9 r10) rfl rfl rfl rfl ⟨Nat.le_of_ble_eq_true rfl, Nat.le_of_ble_eq_true rfl⟩ gX6_bookAll_X6_tryToBook (nA := 4) (by decide +kernel) rfl (sh_167 g x (A 0) rt S (P 0) hst rl A d G S (SA 0) (ST 0) sv SA sd SG ST st SGT) (Nat.le_of_ble_eq_true rfl) ⟨Nat.le_of_ble_eq_true rfl, Nat.le_of_ble_eq_true rfl⟩ [0, 1, 2, 3, 4, 6, 7, 8, 9, 10, 11, 12, 13, 14, 15, 16, 17, 18, 19, 20, 21, 22, 23, 24, 25, 26, 27, 28, 29, 30, 31, 32, 33, 34] [5, 35, 36, 37] (nB := 38) rfl (by decide +kernel) (sh_247 g x (A 0) rt S (P 0) hst rl A d G S (SA 0) (ST 0) sv SA sd SG ST st SGT P p GP hst arr xs R) (fun r19 w9 hw => ?_)
    obtain ⟨er19, sv11, sd13, st16, G14, G17, e12, e15, e18, rfl⟩ := hw
    have h := y_letP h er19
    have h := y_letP h e12
    have h := y_letP h e15
    have h := y_letP h e18
    refine ⟨([mnC x (A 0) rt S (P 0) hst rl, dayC A d, seaC S (SA 0) (ST 0) sv11, dayC SA sd13, tabC ST st16, padC P p] ++ (dayR g A d G ++ (dayR g SA sd13 G14 ++ (tabR g ST st16 G17 ++ (padR g P p GP ++ [histW g hst arr xs R])))) : List va_W), (sh_248 g x (A 0) rt S (P 0) hst rl A d G S (SA 0) (ST 0) sv SA sd SG ST st SGT P p GP hst arr xs R sv11 sd13 G14 st16 G17), ?_⟩
    refine y_istore_n (lv' := [(3, .int r19), (0, .ref x), (1, .int x1), (2, .int x2)]) C dX6_bookAll_98 rfl (Nat.le_of_ble_eq_true rfl) rfl ?_
    refine y_iload_n C dX6_bookAll_99 0 rfl rfl ?_
    refine y_if_ge (tgt := 106) C dX6_bookAll_100 rfl h (fun c100 h => ?_) (fun c100 h => ?_)
    · refine y_aload_n C dX6_bookAll_106 1 rfl rfl ?_
      refine y_get (Cn := RX6) (T := TX6) (N := 6) (v := .ref (A 0)) C dX6_bookAll_107 hX6_bookAll_X6 0 (sh_242 g x (A 0) rt S (P 0) hst rl A d G S (SA 0) (ST 0) sv11 SA sd13 G14 ST st16 G17 P p GP hst arr xs R) rfl 0 (Nat.le_of_ble_eq_true rfl) kX6_bookAll_3 rfl ?_
      refine y_aload_n C dX6_bookAll_110 1 rfl rfl ?_
      refine y_get (Cn := RX6) (T := TX6) (N := 6) (v := .ref S) C dX6_bookAll_111 hX6_bookAll_X6 0 (sh_242 g x (A 0) rt S (P 0) hst rl A d G S (SA 0) (ST 0) sv11 SA sd13 G14 ST st16 G17 P p GP hst arr xs R) rfl 2 (Nat.le_of_ble_eq_true rfl) kX6_bookAll_5 rfl ?_
      refine y_get (Cn := RX4) (T := TX4) (N := 9) (v := .ref (SA 0)) C dX6_bookAll_114 hX6_bookAll_X4 2 (sh_249 g x (A 0) rt S (P 0) hst rl A d G S (SA 0) (ST 0) sv11 SA sd13 G14 ST st16 G17 P p GP hst arr xs R) rfl 0 (Nat.le_of_ble_eq_true rfl) kX6_bookAll_6 rfl ?_
      refine y_callVv (As := [.ref (SA 0)]) (rest := []) C dX6_bookAll_117 (k_X0_copy g A d G SA sd13 G14) rfl rfl rfl rfl ⟨Nat.le_of_ble_eq_true rfl, Nat.le_of_ble_eq_true rfl⟩ gX6_bookAll_X0_copy (nA := 1) (by decide +kernel) rfl (sh_127 g A d G SA sd13 G14) (Nat.le_of_ble_eq_true rfl) ⟨Nat.le_of_ble_eq_true rfl, Nat.le_of_ble_eq_true rfl⟩ [1, 3, 6, 7, 8, 9, 10, 11, 12, 13, 14, 15, 16, 17, 18, 19, 20, 21, 22, 23, 24, 25, 26, 27, 28, 29] [0, 2, 4, 5, 30, 31, 32, 33, 34, 35, 36, 37] (nB := 38) rfl (by decide +kernel) (sh_250 g x (A 0) rt S (P 0) hst rl A d G S (SA 0) (ST 0) sv11 SA sd13 G14 ST st16 G17 P p GP hst arr xs R) (fun w9 hw => ?_)
      obtain ⟨d20, G21, e22, rfl⟩ := hw
      have h := y_letP h e22
      refine ⟨([mnC x (A 0) rt S (P 0) hst rl, dayC A d20, seaC S (SA 0) (ST 0) sv11, dayC SA sd13, tabC ST st16, padC P p] ++ (dayR g A d20 G21 ++ (dayR g SA sd13 G14 ++ (tabR g ST st16 G17 ++ (padR g P p GP ++ [histW g hst arr xs R])))) : List va_W), (sh_251 g x (A 0) rt S (P 0) hst rl A d G S (SA 0) (ST 0) sv11 SA sd13 G14 ST st16 G17 P p GP hst arr xs R d20 G21), ?_⟩
      refine y_iinc (v := (x1 + (1 : Int32))) (lv' := [(1, .int (x1 + (1 : Int32))), (3, .int r19), (0, .ref x), (2, .int x2)]) C dX6_bookAll_120 2 rfl rfl (Nat.le_of_ble_eq_true rfl) rfl ?_
      refine y_iinc (v := (x2 + (4 : Int32))) (lv' := [(2, .int (x2 + (4 : Int32))), (1, .int (x1 + (1 : Int32))), (3, .int r19), (0, .ref x)]) C dX6_bookAll_123 3 rfl rfl (Nat.le_of_ble_eq_true rfl) rfl ?_
      refine y_goto (tgt := 30) C dX6_bookAll_126 rfl ?_
      refine y_sub (lv' := [(0, .ref x), (1, .int (x1 + (1 : Int32))), (2, .int (x2 + (4 : Int32)))]) [3, 1, 0] rfl ?_
      exact hX30 _ _ _ _ _ _ _ _ _ _ _ _ _ h
    · refine y_goto (tgt := 129) C dX6_bookAll_103 rfl ?_
      refine y_aload_n C dX6_bookAll_129 1 rfl rfl ?_
      refine y_get (Cn := RX6) (T := TX6) (N := 6) (v := .ref (P 0)) C dX6_bookAll_130 hX6_bookAll_X6 0 (sh_242 g x (A 0) rt S (P 0) hst rl A d G S (SA 0) (ST 0) sv11 SA sd13 G14 ST st16 G17 P p GP hst arr xs R) rfl 3 (Nat.le_of_ble_eq_true rfl) kX6_bookAll_1 rfl ?_
      refine y_get (Cn := RX2) (T := TX2) (N := 2) (v := .ref (P 1)) C dX6_bookAll_133 hX6_bookAll_X2 5 (sh_243 g x (A 0) rt S (P 0) hst rl A d G S (SA 0) (ST 0) sv11 SA sd13 G14 ST st16 G17 P p GP hst arr xs R) rfl 0 (Nat.le_of_ble_eq_true rfl) kX6_bookAll_7 rfl ?_
      refine y_callVv (As := []) (rest := []) C dX6_bookAll_136 (c_X3_clear g (P 1) (P 2) 60 (p.1 0) (GP 0) (by decide)) rfl rfl rfl rfl ⟨Nat.le_of_ble_eq_true rfl, Nat.le_of_ble_eq_true rfl⟩ gX6_bookAll_X3_clear (nA := 0) (by decide +kernel) rfl (rowW_recv ⟨_, rfl⟩) (Nat.le_of_ble_eq_true rfl) ⟨Nat.le_of_ble_eq_true rfl, Nat.le_of_ble_eq_true rfl⟩ [35] [0, 1, 2, 3, 4, 5, 6, 7, 8, 9, 10, 11, 12, 13, 14, 15, 16, 17, 18, 19, 20, 21, 22, 23, 24, 25, 26, 27, 28, 29, 30, 31, 32, 33, 34, 36, 37] (nB := 38) rfl (by decide +kernel) (sh_245 g x (A 0) rt S (P 0) hst rl A d G S (SA 0) (ST 0) sv11 SA sd13 G14 ST st16 G17 P p GP hst arr xs R) (fun w9 hw => ?_)
      obtain ⟨y23, G24, e25, rfl⟩ := hw
      obtain ⟨p26, ep26⟩ : ∃ z : RV, z = rvR p 0 y23 := ⟨_, rfl⟩
      obtain ⟨G27, eG27⟩ : ∃ z : Nat → Nat → Int32, z = gs GP 0 G24 := ⟨_, rfl⟩
      have h := y_letP h (show p26 = rvR p 0 ([]) by rw [ep26, e25])
      refine ⟨([mnC x (A 0) rt S (P 0) hst rl, dayC A d, seaC S (SA 0) (ST 0) sv11, dayC SA sd13, tabC ST st16, padC P p26] ++ (dayR g A d G ++ (dayR g SA sd13 G14 ++ (tabR g ST st16 G17 ++ (padR g P p26 G27 ++ [histW g hst arr xs R])))) : List va_W), (sh_246 g x (A 0) rt S (P 0) hst rl A d G S (SA 0) (ST 0) sv11 SA sd13 G14 ST st16 G17 P p GP hst arr xs R y23 G24 p26 G27 ep26 eG27), ?_⟩
      refine y_iload_n C dX6_bookAll_139 2 rfl rfl ?_
      exact HR 140 dX6_bookAll_140 x1 _ _ _ _ (rfl) (Nat.le_of_ble_eq_true rfl) (Nat.le_of_ble_eq_true rfl) (hK _ _ _ _ _ _ _ _ _ _ _ _ h)
set_option maxHeartbeats 4000000 in
set_option maxRecDepth 100000 in
theorem l_X6_bookAll {Z : yZ} (g : yG) (x rt rl : Nat) (A : Nat → Nat) (S : Nat) (SA : Nat → Nat) (ST : Nat → Nat) (P : Nat → Nat) (hst arr : Nat) (C : yC Z g cX6_bookAll 4 wsX6_bookAll RX6) {post : Int32 → List va_W → Prop} (HR : yRi Z ({ frames := 6, cells := 25, slots := 236, locals := 148 } : Room) cX6_bookAll .int post 25 236) {K : Int32 → RV → RV → RV → RV → RV → (List RV) → Prop} (hK : ∀ (r0 : Int32) (d : RV) (sv : RV) (sd : RV) (st : RV) (p : RV) (xs : List RV) (G : Nat → Nat → Int32) (SG : Nat → Nat → Int32) (SGT : Nat → Nat → Int32) (GP : Nat → Nat → Int32) (R : List ((Nat → Nat) × RV × (Nat → Nat → Int32))), K r0 d sv sd st p xs → post r0 ([mnC x (A 0) rt S (P 0) hst rl, dayC A d, seaC S (SA 0) (ST 0) sv, dayC SA sd, tabC ST st, padC P p] ++ (dayR g A d G ++ (dayR g SA sd SG ++ (tabR g ST st SGT ++ (padR g P p GP ++ [histW g hst arr xs R])))) : List va_W)) {I30 : Nat → RV → RV → RV → RV → RV → (List RV) → Int32 → Int32 → Prop} (o30 : ∀ (w0 : Nat) (d : RV) (sv : RV) (sd : RV) (st : RV) (p : RV) (xs : List RV) (x1 : Int32) (x2 : Int32), I30 w0 d sv sd st p xs x1 x2 → wp_X6_bookAll_30  (fun (d9 : RV) (sv9 : RV) (sd9 : RV) (st9 : RV) (p9 : RV) (xs9 : List RV) (x19 : Int32) (x29 : Int32) => ∃ w9, w9 < w0 ∧ I30 w9 d9 sv9 sd9 st9 p9 xs9 x19 x29) K d sv sd st p xs x1 x2) : ∀ w0 : Nat, (∀ (d : RV) (sv : RV) (sd : RV) (st : RV) (p : RV) (xs : List RV) (x1 : Int32) (x2 : Int32) (G : Nat → Nat → Int32) (SG : Nat → Nat → Int32) (SGT : Nat → Nat → Int32) (GP : Nat → Nat → Int32) (R : List ((Nat → Nat) × RV × (Nat → Nat → Int32))), I30 w0 d sv sd st p xs x1 x2 → yJ Z ({ frames := 6, cells := 25, slots := 236, locals := 148 } : Room) 25 236 ([mnC x (A 0) rt S (P 0) hst rl, dayC A d, seaC S (SA 0) (ST 0) sv, dayC SA sd, tabC ST st, padC P p] ++ (dayR g A d G ++ (dayR g SA sd SG ++ (tabR g ST st SGT ++ (padR g P p GP ++ [histW g hst arr xs R])))) : List va_W) 30 [(0, .ref x), (1, .int x1), (2, .int x2)] []) := by
  intro w0
  induction w0 using Nat.strongRecOn with
  | _ w0 ih =>
    exact fun d sv sd st p xs x1 x2 G SG SGT GP R hi => w_X6_bookAll_30 g x rt rl A S SA ST P hst arr C HR (fun d sv sd st p xs x1 x2 G SG SGT GP R hq => by obtain ⟨w9, hlt, hi⟩ := hq; exact (ih w9 hlt) d sv sd st p xs x1 x2 G SG SGT GP R hi) hK d sv sd st p xs x1 x2 G SG SGT GP R (o30 w0 d sv sd st p xs x1 x2 hi)
set_option maxHeartbeats 4000000 in
set_option maxRecDepth 100000 in
theorem t_X6_bookAll (g : yG) (x rt rl : Nat) (A : Nat → Nat) (d : RV) (G : Nat → Nat → Int32) (S : Nat) (sv : RV) (SA : Nat → Nat) (sd : RV) (SG : Nat → Nat → Int32) (ST : Nat → Nat) (st : RV) (SGT : Nat → Nat → Int32) (P : Nat → Nat) (p : RV) (GP : Nat → Nat → Int32) (hst arr : Nat) (xs : List RV) (R : List ((Nat → Nat) × RV × (Nat → Nat → Int32)))  {post : Int32 → List va_W → Prop} {K : Int32 → RV → RV → RV → RV → RV → (List RV) → Prop} (hK : ∀ (r0 : Int32) (d : RV) (sv : RV) (sd : RV) (st : RV) (p : RV) (xs : List RV) (G : Nat → Nat → Int32) (SG : Nat → Nat → Int32) (SGT : Nat → Nat → Int32) (GP : Nat → Nat → Int32) (R : List ((Nat → Nat) × RV × (Nat → Nat → Int32))), K r0 d sv sd st p xs → post r0 ([mnC x (A 0) rt S (P 0) hst rl, dayC A d, seaC S (SA 0) (ST 0) sv, dayC SA sd, tabC ST st, padC P p] ++ (dayR g A d G ++ (dayR g SA sd SG ++ (tabR g ST st SGT ++ (padR g P p GP ++ [histW g hst arr xs R])))) : List va_W)) (hPO : PO_X6_bookAll  K d sv sd st p xs ) : yM g yX6_bookAll wsX6_bookAll ({ frames := 6, cells := 25, slots := 236, locals := 148 } : Room) [.ref x] ([mnC x (A 0) rt S (P 0) hst rl, dayC A d, seaC S (SA 0) (ST 0) sv, dayC SA sd, tabC ST st, padC P p] ++ (dayR g A d G ++ (dayR g SA sd SG ++ (tabR g ST st SGT ++ (padR g P p GP ++ [histW g hst arr xs R])))) : List va_W) post 25 236 := by
  refine y_entryI (cc := cX6_bookAll) (maxL := 4) (by decide +kernel) rfl (Nat.le_of_ble_eq_true rfl) (fun Z C HR => ?_)
  have C : yC Z g cX6_bookAll 4 wsX6_bookAll RX6 := C
  obtain ⟨I30, o30, h⟩ := hPO
  have hX30 : ∀ (d : RV) (sv : RV) (sd : RV) (st : RV) (p : RV) (xs : List RV) (x1 : Int32) (x2 : Int32) (G : Nat → Nat → Int32) (SG : Nat → Nat → Int32) (SGT : Nat → Nat → Int32) (GP : Nat → Nat → Int32) (R : List ((Nat → Nat) × RV × (Nat → Nat → Int32))), (fun (d9 : RV) (sv9 : RV) (sd9 : RV) (st9 : RV) (p9 : RV) (xs9 : List RV) (x19 : Int32) (x29 : Int32) => ∃ w9, I30 w9 d9 sv9 sd9 st9 p9 xs9 x19 x29) d sv sd st p xs x1 x2 → yJ Z ({ frames := 6, cells := 25, slots := 236, locals := 148 } : Room) 25 236 ([mnC x (A 0) rt S (P 0) hst rl, dayC A d, seaC S (SA 0) (ST 0) sv, dayC SA sd, tabC ST st, padC P p] ++ (dayR g A d G ++ (dayR g SA sd SG ++ (tabR g ST st SGT ++ (padR g P p GP ++ [histW g hst arr xs R])))) : List va_W) 30 [(0, .ref x), (1, .int x1), (2, .int x2)] [] := by
    intro d sv sd st p xs x1 x2 G SG SGT GP R hq
    obtain ⟨w9, hi⟩ := hq
    exact (l_X6_bookAll g x rt rl A S SA ST P hst arr C HR hK o30 w9) d sv sd st p xs x1 x2 G SG SGT GP R hi
  unfold wp_X6_bookAll_0 at h
  show yJ Z _ 0 0 _ 0 [(0, .ref x)] []
  refine y_aload_n C dX6_bookAll_0 0 rfl rfl ?_
  refine y_get (Cn := RX6) (T := TX6) (N := 6) (v := .ref (P 0)) C dX6_bookAll_1 hX6_bookAll_X6 0 (sh_242 g x (A 0) rt S (P 0) hst rl A d G S (SA 0) (ST 0) sv SA sd SG ST st SGT P p GP hst arr xs R) rfl 3 (Nat.le_of_ble_eq_true rfl) kX6_bookAll_1 rfl ?_
  refine y_callV (As := []) (rest := []) C dX6_bookAll_4 (c_X2_findFault g P p GP) rfl rfl rfl rfl ⟨Nat.le_of_ble_eq_true rfl, Nat.le_of_ble_eq_true rfl⟩ gX6_bookAll_X2_findFault (nA := 0) (by decide +kernel) rfl (sh_239 g P p GP) (Nat.le_of_ble_eq_true rfl) ⟨Nat.le_of_ble_eq_true rfl, Nat.le_of_ble_eq_true rfl⟩ [5, 35, 36] [0, 1, 2, 3, 4, 6, 7, 8, 9, 10, 11, 12, 13, 14, 15, 16, 17, 18, 19, 20, 21, 22, 23, 24, 25, 26, 27, 28, 29, 30, 31, 32, 33, 34, 37] (nB := 38) rfl (by decide +kernel) (sh_252 g x (A 0) rt S (P 0) hst rl A d G S (SA 0) (ST 0) sv SA sd SG ST st SGT P p GP hst arr xs R) (fun r4 w9 hw => ?_)
  obtain ⟨er4, p1, G2, e3, rfl⟩ := hw
  have h := y_letP h er4
  have h := y_letP h e3
  refine ⟨([mnC x (A 0) rt S (P 0) hst rl, dayC A d, seaC S (SA 0) (ST 0) sv, dayC SA sd, tabC ST st, padC P p1] ++ (dayR g A d G ++ (dayR g SA sd SG ++ (tabR g ST st SGT ++ (padR g P p1 G2 ++ [histW g hst arr xs R])))) : List va_W), (sh_253 g x (A 0) rt S (P 0) hst rl A d G S (SA 0) (ST 0) sv SA sd SG ST st SGT P p GP hst arr xs R p1 G2), ?_⟩
  refine y_bipush (v := -6) C dX6_bookAll_7 (by decide) ?_
  refine y_icmp_eq (tgt := 15) C dX6_bookAll_9 rfl h (fun c9 h => ?_) (fun c9 h => ?_)
  · refine y_aload_n C dX6_bookAll_15 0 rfl rfl ?_
    refine y_get (Cn := RX6) (T := TX6) (N := 6) (v := .ref hst) C dX6_bookAll_16 hX6_bookAll_X6 0 (sh_242 g x (A 0) rt S (P 0) hst rl A d G S (SA 0) (ST 0) sv SA sd SG ST st SGT P p1 G2 hst arr xs R) rfl 4 (Nat.le_of_ble_eq_true rfl) kX6_bookAll_2 rfl ?_
    refine y_aload_n C dX6_bookAll_19 0 rfl rfl ?_
    refine y_get (Cn := RX6) (T := TX6) (N := 6) (v := .ref (A 0)) C dX6_bookAll_20 hX6_bookAll_X6 0 (sh_242 g x (A 0) rt S (P 0) hst rl A d G S (SA 0) (ST 0) sv SA sd SG ST st SGT P p1 G2 hst arr xs R) rfl 0 (Nat.le_of_ble_eq_true rfl) kX6_bookAll_3 rfl ?_
    refine y_callVv (As := [.ref (A 0)]) (rest := []) C dX6_bookAll_23 (c_X1_add g hst arr xs R A d G) rfl rfl rfl rfl ⟨Nat.le_of_ble_eq_true rfl, Nat.le_of_ble_eq_true rfl⟩ gX6_bookAll_X1_add (nA := 1) (by decide +kernel) rfl (hist_recv (List.mem_append_right _ (List.mem_append_left _ (List.mem_singleton.mpr rfl)))) (Nat.le_of_ble_eq_true rfl) ⟨Nat.le_of_ble_eq_true rfl, Nat.le_of_ble_eq_true rfl⟩ [1, 37, 6, 7, 8, 9, 10, 11, 12, 13, 14, 15, 16, 17] [0, 2, 3, 4, 5, 18, 19, 20, 21, 22, 23, 24, 25, 26, 27, 28, 29, 30, 31, 32, 33, 34, 35, 36] (nB := 38) rfl (by decide +kernel) (sh_254 g x (A 0) rt S (P 0) hst rl A d G S (SA 0) (ST 0) sv SA sd SG ST st SGT P p1 G2 hst arr xs R) (fun w9 hw => ?_)
    obtain ⟨xs5, G6, e7, rfl⟩ := hw
    have h := y_letP h e7
    refine ⟨([mnC x (A 0) rt S (P 0) hst rl, dayC A d, seaC S (SA 0) (ST 0) sv, dayC SA sd, tabC ST st, padC P p1] ++ (dayR g A d G ++ (dayR g SA sd SG ++ (tabR g ST st SGT ++ (padR g P p1 G2 ++ [histW g hst arr xs5 G6])))) : List va_W), (sh_255 g x (A 0) rt S (P 0) hst rl A d G S (SA 0) (ST 0) sv SA sd SG ST st SGT P p1 G2 hst arr xs R xs5 G6), ?_⟩
    refine y_iconst (v := 0) C dX6_bookAll_26 (by decide) ?_
    refine y_istore_n (lv' := [(1, .int (0 : Int32)), (0, .ref x)]) C dX6_bookAll_27 rfl (Nat.le_of_ble_eq_true rfl) rfl ?_
    refine y_iconst (v := 0) C dX6_bookAll_28 (by decide) ?_
    refine y_istore_n (lv' := [(2, .int (0 : Int32)), (1, .int (0 : Int32)), (0, .ref x)]) C dX6_bookAll_29 rfl (Nat.le_of_ble_eq_true rfl) rfl ?_
    refine y_sub (lv' := [(0, .ref x), (1, .int (0 : Int32)), (2, .int (0 : Int32))]) [2, 1, 0] rfl ?_
    exact hX30 _ _ _ _ _ _ _ _ _ _ _ _ _ h
  · refine y_bipush (v := -3) C dX6_bookAll_12 (by decide) ?_
    exact HR 14 dX6_bookAll_14 (-3 : Int32) _ _ _ _ (rfl) (Nat.le_of_ble_eq_true rfl) (Nat.le_of_ble_eq_true rfl) (hK _ _ _ _ _ _ _ _ _ _ _ _ h)
set_option maxHeartbeats 4000000 in
set_option maxRecDepth 100000 in
theorem c_X6_bookAll (g : yG) (x rt rl : Nat) (A : Nat → Nat) (d : RV) (G : Nat → Nat → Int32) (S : Nat) (sv : RV) (SA : Nat → Nat) (sd : RV) (SG : Nat → Nat → Int32) (ST : Nat → Nat) (st : RV) (SGT : Nat → Nat → Int32) (P : Nat → Nat) (p : RV) (GP : Nat → Nat → Int32) (hst arr : Nat) (xs : List RV) (R : List ((Nat → Nat) × RV × (Nat → Nat → Int32)))   : yM g yX6_bookAll wsX6_bookAll ({ frames := 6, cells := 25, slots := 236, locals := 148 } : Room) [.ref x] ([mnC x (A 0) rt S (P 0) hst rl, dayC A d, seaC S (SA 0) (ST 0) sv, dayC SA sd, tabC ST st, padC P p] ++ (dayR g A d G ++ (dayR g SA sd SG ++ (tabR g ST st SGT ++ (padR g P p GP ++ [histW g hst arr xs R])))) : List va_W) (fun r w => r = (fBookAll d sv sd st p xs).1 ∧ ∃ d' : RV, ∃ sv' : RV, ∃ sd' : RV, ∃ st' : RV, ∃ p' : RV, ∃ xs' : List RV, ∃ G' : Nat → Nat → Int32, ∃ SG' : Nat → Nat → Int32, ∃ SGT' : Nat → Nat → Int32, ∃ GP' : Nat → Nat → Int32, ∃ R' : List ((Nat → Nat) × RV × (Nat → Nat → Int32)), d' = (fBookAll d sv sd st p xs).2.1 ∧ sv' = (fBookAll d sv sd st p xs).2.2.1 ∧ sd' = (fBookAll d sv sd st p xs).2.2.2.1 ∧ st' = (fBookAll d sv sd st p xs).2.2.2.2.1 ∧ p' = (fBookAll d sv sd st p xs).2.2.2.2.2.1 ∧ xs' = (fBookAll d sv sd st p xs).2.2.2.2.2.2 ∧ w = ([mnC x (A 0) rt S (P 0) hst rl, dayC A d', seaC S (SA 0) (ST 0) sv', dayC SA sd', tabC ST st', padC P p'] ++ (dayR g A d' G' ++ (dayR g SA sd' SG' ++ (tabR g ST st' SGT' ++ (padR g P p' GP' ++ [histW g hst arr xs' R'])))) : List va_W)) 25 236 :=
  t_X6_bookAll g x rt rl A d G S sv SA sd SG ST st SGT P p GP hst arr xs R  (K := (fun (r1 : Int32) (d1 : RV) (sv1 : RV) (sd1 : RV) (st1 : RV) (p1 : RV) (xs1 : List RV) => r1 = (fBookAll d sv sd st p xs).1 ∧ d1 = (fBookAll d sv sd st p xs).2.1 ∧ sv1 = (fBookAll d sv sd st p xs).2.2.1 ∧ sd1 = (fBookAll d sv sd st p xs).2.2.2.1 ∧ st1 = (fBookAll d sv sd st p xs).2.2.2.2.1 ∧ p1 = (fBookAll d sv sd st p xs).2.2.2.2.2.1 ∧ xs1 = (fBookAll d sv sd st p xs).2.2.2.2.2.2)) (fun r1 d1 sv1 sd1 st1 p1 xs1 G1 SG1 SGT1 GP1 R1 hh => by obtain ⟨e0, e1, e2, e3, e4, e5, e6⟩ := hh; exact ⟨e0, d1, sv1, sd1, st1, p1, xs1, G1, SG1, SGT1, GP1, R1, e1, e2, e3, e4, e5, e6, rfl⟩) p_X6_bookAll
