theorem dX7_findsWay_0 : decode cX7_findsWay 0 = .ok (.aload_n 0, 1) := by decide +kernel
theorem dX7_findsWay_1 : decode cX7_findsWay 1 = .ok (.iconst 0, 1) := by decide +kernel
theorem dX7_findsWay_2 : decode cX7_findsWay 2 = .ok (.putfield 107, 3) := by decide +kernel
theorem dX7_findsWay_5 : decode cX7_findsWay 5 = .ok (.aload_n 0, 1) := by decide +kernel
theorem dX7_findsWay_6 : decode cX7_findsWay 6 = .ok (.bipush (-6), 2) := by decide +kernel
theorem dX7_findsWay_8 : decode cX7_findsWay 8 = .ok (.putfield 110, 3) := by decide +kernel
theorem dX7_findsWay_11 : decode cX7_findsWay 11 = .ok (.aload_n 0, 1) := by decide +kernel
theorem dX7_findsWay_12 : decode cX7_findsWay 12 = .ok (.bipush (-6), 2) := by decide +kernel
theorem dX7_findsWay_14 : decode cX7_findsWay 14 = .ok (.putfield 113, 3) := by decide +kernel
theorem dX7_findsWay_17 : decode cX7_findsWay 17 = .ok (.aload_n 0, 1) := by decide +kernel
theorem dX7_findsWay_18 : decode cX7_findsWay 18 = .ok (.invokevirtual 116, 3) := by decide +kernel
theorem dX7_findsWay_21 : decode cX7_findsWay 21 = .ok (.istore_n 2, 1) := by decide +kernel
theorem dX7_findsWay_22 : decode cX7_findsWay 22 = .ok (.aload_n 0, 1) := by decide +kernel
theorem dX7_findsWay_23 : decode cX7_findsWay 23 = .ok (.invokevirtual 119, 3) := by decide +kernel
theorem dX7_findsWay_26 : decode cX7_findsWay 26 = .ok (.ifCond .eq 7, 3) := by decide +kernel
theorem dX7_findsWay_29 : decode cX7_findsWay 29 = .ok (.iconst 1, 1) := by decide +kernel
theorem dX7_findsWay_30 : decode cX7_findsWay 30 = .ok (.goto 4, 3) := by decide +kernel
theorem dX7_findsWay_33 : decode cX7_findsWay 33 = .ok (.iconst 0, 1) := by decide +kernel
theorem dX7_findsWay_34 : decode cX7_findsWay 34 = .ok (.istore_n 3, 1) := by decide +kernel
theorem dX7_findsWay_35 : decode cX7_findsWay 35 = .ok (.iload_n 3, 1) := by decide +kernel
theorem dX7_findsWay_36 : decode cX7_findsWay 36 = .ok (.aload_n 0, 1) := by decide +kernel
theorem dX7_findsWay_37 : decode cX7_findsWay 37 = .ok (.getfield 7, 3) := by decide +kernel
theorem dX7_findsWay_40 : decode cX7_findsWay 40 = .ok (.iconst 5, 1) := by decide +kernel
theorem dX7_findsWay_41 : decode cX7_findsWay 41 = .ok (.iaload, 1) := by decide +kernel
theorem dX7_findsWay_42 : decode cX7_findsWay 42 = .ok (.if_icmp .gt 143, 3) := by decide +kernel
theorem dX7_findsWay_45 : decode cX7_findsWay 45 = .ok (.iload_n 3, 1) := by decide +kernel
theorem dX7_findsWay_46 : decode cX7_findsWay 46 = .ok (.iconst 1, 1) := by decide +kernel
theorem dX7_findsWay_47 : decode cX7_findsWay 47 = .ok (.iadd, 1) := by decide +kernel
theorem dX7_findsWay_48 : decode cX7_findsWay 48 = .ok (.istore 4, 2) := by decide +kernel
theorem dX7_findsWay_50 : decode cX7_findsWay 50 = .ok (.iload 4, 2) := by decide +kernel
theorem dX7_findsWay_52 : decode cX7_findsWay 52 = .ok (.aload_n 0, 1) := by decide +kernel
theorem dX7_findsWay_53 : decode cX7_findsWay 53 = .ok (.getfield 7, 3) := by decide +kernel
theorem dX7_findsWay_56 : decode cX7_findsWay 56 = .ok (.iconst 5, 1) := by decide +kernel
theorem dX7_findsWay_57 : decode cX7_findsWay 57 = .ok (.iaload, 1) := by decide +kernel
theorem dX7_findsWay_58 : decode cX7_findsWay 58 = .ok (.iconst 1, 1) := by decide +kernel
theorem dX7_findsWay_59 : decode cX7_findsWay 59 = .ok (.iadd, 1) := by decide +kernel
theorem dX7_findsWay_60 : decode cX7_findsWay 60 = .ok (.if_icmp .gt 119, 3) := by decide +kernel
theorem dX7_findsWay_63 : decode cX7_findsWay 63 = .ok (.aload_n 0, 1) := by decide +kernel
theorem dX7_findsWay_64 : decode cX7_findsWay 64 = .ok (.iload_n 1, 1) := by decide +kernel
theorem dX7_findsWay_65 : decode cX7_findsWay 65 = .ok (.iload_n 3, 1) := by decide +kernel
theorem dX7_findsWay_66 : decode cX7_findsWay 66 = .ok (.iload 4, 2) := by decide +kernel
theorem dX7_findsWay_68 : decode cX7_findsWay 68 = .ok (.invokevirtual 123, 3) := by decide +kernel
theorem dX7_findsWay_71 : decode cX7_findsWay 71 = .ok (.aload_n 0, 1) := by decide +kernel
theorem dX7_findsWay_72 : decode cX7_findsWay 72 = .ok (.iload_n 2, 1) := by decide +kernel
theorem dX7_findsWay_73 : decode cX7_findsWay 73 = .ok (.invokevirtual 99, 3) := by decide +kernel
theorem dX7_findsWay_76 : decode cX7_findsWay 76 = .ok (.aload_n 0, 1) := by decide +kernel
theorem dX7_findsWay_77 : decode cX7_findsWay 77 = .ok (.getfield 75, 3) := by decide +kernel
theorem dX7_findsWay_80 : decode cX7_findsWay 80 = .ok (.ifCond .eq 93, 3) := by decide +kernel
theorem dX7_findsWay_83 : decode cX7_findsWay 83 = .ok (.aload_n 0, 1) := by decide +kernel
theorem dX7_findsWay_84 : decode cX7_findsWay 84 = .ok (.dup, 1) := by decide +kernel
theorem dX7_findsWay_85 : decode cX7_findsWay 85 = .ok (.getfield 107, 3) := by decide +kernel
theorem dX7_findsWay_88 : decode cX7_findsWay 88 = .ok (.iconst 1, 1) := by decide +kernel
theorem dX7_findsWay_89 : decode cX7_findsWay 89 = .ok (.iadd, 1) := by decide +kernel
theorem dX7_findsWay_90 : decode cX7_findsWay 90 = .ok (.putfield 107, 3) := by decide +kernel
theorem dX7_findsWay_93 : decode cX7_findsWay 93 = .ok (.aload_n 0, 1) := by decide +kernel
theorem dX7_findsWay_94 : decode cX7_findsWay 94 = .ok (.aload_n 0, 1) := by decide +kernel
theorem dX7_findsWay_95 : decode cX7_findsWay 95 = .ok (.getfield 113, 3) := by decide +kernel
theorem dX7_findsWay_98 : decode cX7_findsWay 98 = .ok (.bipush (-6), 2) := by decide +kernel
theorem dX7_findsWay_100 : decode cX7_findsWay 100 = .ok (.if_icmp .eq 17, 3) := by decide +kernel
theorem dX7_findsWay_103 : decode cX7_findsWay 103 = .ok (.aload_n 0, 1) := by decide +kernel
theorem dX7_findsWay_104 : decode cX7_findsWay 104 = .ok (.getfield 32, 3) := by decide +kernel
theorem dX7_findsWay_107 : decode cX7_findsWay 107 = .ok (.iload 4, 2) := by decide +kernel
theorem dX7_findsWay_109 : decode cX7_findsWay 109 = .ok (.iaload, 1) := by decide +kernel
theorem dX7_findsWay_110 : decode cX7_findsWay 110 = .ok (.aload_n 0, 1) := by decide +kernel
theorem dX7_findsWay_111 : decode cX7_findsWay 111 = .ok (.getfield 113, 3) := by decide +kernel
theorem dX7_findsWay_114 : decode cX7_findsWay 114 = .ok (.if_icmp .ge 13, 3) := by decide +kernel
theorem dX7_findsWay_117 : decode cX7_findsWay 117 = .ok (.aload_n 0, 1) := by decide +kernel
theorem dX7_findsWay_118 : decode cX7_findsWay 118 = .ok (.getfield 32, 3) := by decide +kernel
theorem dX7_findsWay_121 : decode cX7_findsWay 121 = .ok (.iload 4, 2) := by decide +kernel
theorem dX7_findsWay_123 : decode cX7_findsWay 123 = .ok (.iaload, 1) := by decide +kernel
theorem dX7_findsWay_124 : decode cX7_findsWay 124 = .ok (.goto 7, 3) := by decide +kernel
theorem dX7_findsWay_127 : decode cX7_findsWay 127 = .ok (.aload_n 0, 1) := by decide +kernel
theorem dX7_findsWay_128 : decode cX7_findsWay 128 = .ok (.getfield 113, 3) := by decide +kernel
theorem dX7_findsWay_131 : decode cX7_findsWay 131 = .ok (.putfield 113, 3) := by decide +kernel
theorem dX7_findsWay_134 : decode cX7_findsWay 134 = .ok (.aload_n 0, 1) := by decide +kernel
theorem dX7_findsWay_135 : decode cX7_findsWay 135 = .ok (.getfield 110, 3) := by decide +kernel
theorem dX7_findsWay_138 : decode cX7_findsWay 138 = .ok (.bipush (-6), 2) := by decide +kernel
theorem dX7_findsWay_140 : decode cX7_findsWay 140 = .ok (.if_icmp .eq 14, 3) := by decide +kernel
theorem dX7_findsWay_143 : decode cX7_findsWay 143 = .ok (.aload_n 0, 1) := by decide +kernel
theorem dX7_findsWay_144 : decode cX7_findsWay 144 = .ok (.getfield 87, 3) := by decide +kernel
theorem dX7_findsWay_147 : decode cX7_findsWay 147 = .ok (.aload_n 0, 1) := by decide +kernel
theorem dX7_findsWay_148 : decode cX7_findsWay 148 = .ok (.getfield 110, 3) := by decide +kernel
theorem dX7_findsWay_151 : decode cX7_findsWay 151 = .ok (.if_icmp .ge 22, 3) := by decide +kernel
theorem dX7_findsWay_154 : decode cX7_findsWay 154 = .ok (.aload_n 0, 1) := by decide +kernel
theorem dX7_findsWay_155 : decode cX7_findsWay 155 = .ok (.aload_n 0, 1) := by decide +kernel
theorem dX7_findsWay_156 : decode cX7_findsWay 156 = .ok (.getfield 87, 3) := by decide +kernel
theorem dX7_findsWay_159 : decode cX7_findsWay 159 = .ok (.putfield 110, 3) := by decide +kernel
theorem dX7_findsWay_162 : decode cX7_findsWay 162 = .ok (.aload_n 0, 1) := by decide +kernel
theorem dX7_findsWay_163 : decode cX7_findsWay 163 = .ok (.iload_n 3, 1) := by decide +kernel
theorem dX7_findsWay_164 : decode cX7_findsWay 164 = .ok (.putfield 126, 3) := by decide +kernel
theorem dX7_findsWay_167 : decode cX7_findsWay 167 = .ok (.aload_n 0, 1) := by decide +kernel
theorem dX7_findsWay_168 : decode cX7_findsWay 168 = .ok (.iload 4, 2) := by decide +kernel
theorem dX7_findsWay_170 : decode cX7_findsWay 170 = .ok (.putfield 129, 3) := by decide +kernel
theorem dX7_findsWay_173 : decode cX7_findsWay 173 = .ok (.iinc 4 1, 3) := by decide +kernel
theorem dX7_findsWay_176 : decode cX7_findsWay 176 = .ok (.goto (-126), 3) := by decide +kernel
theorem dX7_findsWay_179 : decode cX7_findsWay 179 = .ok (.iinc 3 1, 3) := by decide +kernel
theorem dX7_findsWay_182 : decode cX7_findsWay 182 = .ok (.goto (-147), 3) := by decide +kernel
theorem dX7_findsWay_185 : decode cX7_findsWay 185 = .ok (.aload_n 0, 1) := by decide +kernel
theorem dX7_findsWay_186 : decode cX7_findsWay 186 = .ok (.getfield 110, 3) := by decide +kernel
theorem dX7_findsWay_189 : decode cX7_findsWay 189 = .ok (.bipush (-6), 2) := by decide +kernel
theorem dX7_findsWay_191 : decode cX7_findsWay 191 = .ok (.if_icmp .eq 7, 3) := by decide +kernel
theorem dX7_findsWay_194 : decode cX7_findsWay 194 = .ok (.iconst 1, 1) := by decide +kernel
theorem dX7_findsWay_195 : decode cX7_findsWay 195 = .ok (.goto 4, 3) := by decide +kernel
theorem dX7_findsWay_198 : decode cX7_findsWay 198 = .ok (.iconst 0, 1) := by decide +kernel
theorem dX7_findsWay_199 : decode cX7_findsWay 199 = .ok (.ireturn, 1) := by decide +kernel
set_option maxRecDepth 20000 in
theorem ggX7_findsWay_X7_laysWay : GoodIn wsX7_findsWay wsX7_laysWay := goodIn_r _ [22, 23, 4, 24, 63, 64, 65, 66, 67, 68, 69, 70, 71, 72, 73, 74, 75, 76, 77, 78, 79, 80, 81, 82, 83, 84, 85, 86, 87, 88] (by decide +kernel) (by decide +kernel)
set_option maxRecDepth 20000 in
theorem gX7_findsWay_X7_laysWay : GoodIn wsX7_findsWay (wsV RX7 123 RX7 yX7_laysWay wsX7_laysWay) := goodIn_app (goodIn_of _ (by decide +kernel)) ggX7_findsWay_X7_laysWay
set_option maxRecDepth 20000 in
theorem ggX7_findsWay_X7_drives : GoodIn wsX7_findsWay wsX7_drives := goodIn_r _ [28, 4, 29, 5, 23, 24, 30, 6, 31, 7, 32, 33, 34, 13, 35, 36, 37, 38, 39, 40, 41, 42, 43, 44, 45, 46, 47, 48, 49, 50, 51, 52, 53, 54, 55, 56, 57, 58, 59, 60, 61, 62, 63, 64, 65, 66, 67, 68, 69, 70, 71, 72, 73, 74, 75, 76, 77, 78, 79, 80, 81, 82, 83, 84, 85, 86, 87, 88] (by decide +kernel) (by decide +kernel)
set_option maxRecDepth 20000 in
theorem gX7_findsWay_X7_drives : GoodIn wsX7_findsWay (wsV RX7 99 RX7 yX7_drives wsX7_drives) := goodIn_app (goodIn_of _ (by decide +kernel)) ggX7_findsWay_X7_drives
set_option maxRecDepth 20000 in
theorem ggX7_findsWay_X7_leaving : GoodIn wsX7_findsWay wsX7_leaving := goodIn_r _ [14, 4, 63, 64, 65, 66, 67, 68, 69, 70, 71, 72, 73, 74, 75, 76, 77, 78, 79, 80, 81, 82, 83, 84, 85, 86, 87, 88] (by decide +kernel) (by decide +kernel)
set_option maxRecDepth 20000 in
theorem gX7_findsWay_X7_leaving : GoodIn wsX7_findsWay (wsV RX7 116 RX7 yX7_leaving wsX7_leaving) := goodIn_app (goodIn_of _ (by decide +kernel)) ggX7_findsWay_X7_leaving
set_option maxRecDepth 20000 in
theorem ggX7_findsWay_X7_isOnWay : GoodIn wsX7_findsWay wsX7_isOnWay := goodIn_r _ [18, 4, 63, 64, 65, 66, 67, 68, 69, 70, 71, 72, 73, 74, 75, 76, 77, 78, 79, 80, 81, 82, 83, 84, 85, 86, 87, 88] (by decide +kernel) (by decide +kernel)
set_option maxRecDepth 20000 in
theorem gX7_findsWay_X7_isOnWay : GoodIn wsX7_findsWay (wsV RX7 119 RX7 yX7_isOnWay wsX7_isOnWay) := goodIn_app (goodIn_of _ (by decide +kernel)) ggX7_findsWay_X7_isOnWay
theorem kX7_findsWay_7 : Cond.fieldLink RX7 87 "BookedDetoursModel" "over" "I" ∈ wsX7_findsWay := List.mem_of_getElem? (i := 7) (by decide +kernel)
theorem kX7_findsWay_2 : Cond.fieldLink RX7 110 "BookedDetoursModel" "bestOver" "I" ∈ wsX7_findsWay := List.mem_of_getElem? (i := 2) (by decide +kernel)
theorem kX7_findsWay_8 : Cond.fieldLink RX7 126 "BookedDetoursModel" "bestPick" "I" ∈ wsX7_findsWay := List.mem_of_getElem? (i := 8) (by decide +kernel)
theorem kX7_findsWay_9 : Cond.fieldLink RX7 129 "BookedDetoursModel" "bestSet" "I" ∈ wsX7_findsWay := List.mem_of_getElem? (i := 9) (by decide +kernel)
theorem kX7_findsWay_4 : Cond.fieldLink RX7 7 "BookedDetoursModel" "s" "[I" ∈ wsX7_findsWay := List.mem_of_getElem? (i := 4) (by decide +kernel)
theorem kX7_findsWay_5 : Cond.fieldLink RX7 75 "BookedDetoursModel" "isKept" "Z" ∈ wsX7_findsWay := List.mem_of_getElem? (i := 5) (by decide +kernel)
theorem kX7_findsWay_1 : Cond.fieldLink RX7 107 "BookedDetoursModel" "wayCount" "I" ∈ wsX7_findsWay := List.mem_of_getElem? (i := 1) (by decide +kernel)
theorem kX7_findsWay_3 : Cond.fieldLink RX7 113 "BookedDetoursModel" "leastDown" "I" ∈ wsX7_findsWay := List.mem_of_getElem? (i := 3) (by decide +kernel)
theorem kX7_findsWay_6 : Cond.fieldLink RX7 32 "BookedDetoursModel" "times" "[I" ∈ wsX7_findsWay := List.mem_of_getElem? (i := 6) (by decide +kernel)
theorem hX7_findsWay_X7 : ∀ w ∈ u_ws RX7 TX7 26, w ∈ wsX7_findsWay := fun _ h => List.mem_cons_of_mem _ (List.mem_append_right _ h)
set_option maxHeartbeats 4000000 in
set_option maxRecDepth 100000 in
theorem w_X7_findsWay_173 {Z : yZ} (g : yG) (M : Nat → Nat) (ri : Int32) (C : yC Z g cX7_findsWay 5 wsX7_findsWay RX7) {post : Int32 → List va_W → Prop} (HR : yRi Z ({ frames := 5, cells := 0, slots := 0, locals := 115 } : Room) cX7_findsWay .boolean post 0 0) {X35 : MV → Int32 → Int32 → Prop} {X50 : MV → Int32 → Int32 → Int32 → Prop} (hX35 : ∀ (m : MV) (x2 : Int32) (x3 : Int32), X35 m x2 x3 → yJ Z ({ frames := 5, cells := 0, slots := 0, locals := 115 } : Room) 0 0 ([modW g M m] : List va_W) 35 [(0, .ref (M 0)), (1, .int ri), (2, .int x2), (3, .int x3)] []) (hX50 : ∀ (m : MV) (x2 : Int32) (x3 : Int32) (x4 : Int32), X50 m x2 x3 x4 → yJ Z ({ frames := 5, cells := 0, slots := 0, locals := 115 } : Room) 0 0 ([modW g M m] : List va_W) 50 [(0, .ref (M 0)), (1, .int ri), (2, .int x2), (3, .int x3), (4, .int x4)] []) {K : Int32 → MV → Prop} (hK : ∀ (r0 : Int32) (m : MV), K r0 m → post r0 ([modW g M m] : List va_W)) (m : MV) (x2 : Int32) (x3 : Int32) (x4 : Int32) (h : wp_X7_findsWay_173 ri X35 X50 K m x2 x3 x4) : yJ Z ({ frames := 5, cells := 0, slots := 0, locals := 115 } : Room) 0 0 ([modW g M m] : List va_W) 173 [(0, .ref (M 0)), (1, .int ri), (2, .int x2), (3, .int x3), (4, .int x4)] [] := by
  unfold wp_X7_findsWay_173 at h
  refine y_iinc (v := (x4 + (1 : Int32))) (lv' := [(4, .int (x4 + (1 : Int32))), (0, .ref (M 0)), (1, .int ri), (2, .int x2), (3, .int x3)]) C dX7_findsWay_173 4 rfl rfl (Nat.le_of_ble_eq_true rfl) rfl ?_
  refine y_goto (tgt := 50) C dX7_findsWay_176 rfl ?_
  refine y_sub (lv' := [(0, .ref (M 0)), (1, .int ri), (2, .int x2), (3, .int x3), (4, .int (x4 + (1 : Int32)))]) [1, 2, 3, 4, 0] rfl ?_
  exact hX50 _ _ _ _ h
set_option maxHeartbeats 4000000 in
set_option maxRecDepth 100000 in
theorem w_X7_findsWay_154 {Z : yZ} (g : yG) (M : Nat → Nat) (ri : Int32) (C : yC Z g cX7_findsWay 5 wsX7_findsWay RX7) {post : Int32 → List va_W → Prop} (HR : yRi Z ({ frames := 5, cells := 0, slots := 0, locals := 115 } : Room) cX7_findsWay .boolean post 0 0) {X35 : MV → Int32 → Int32 → Prop} {X50 : MV → Int32 → Int32 → Int32 → Prop} (hX35 : ∀ (m : MV) (x2 : Int32) (x3 : Int32), X35 m x2 x3 → yJ Z ({ frames := 5, cells := 0, slots := 0, locals := 115 } : Room) 0 0 ([modW g M m] : List va_W) 35 [(0, .ref (M 0)), (1, .int ri), (2, .int x2), (3, .int x3)] []) (hX50 : ∀ (m : MV) (x2 : Int32) (x3 : Int32) (x4 : Int32), X50 m x2 x3 x4 → yJ Z ({ frames := 5, cells := 0, slots := 0, locals := 115 } : Room) 0 0 ([modW g M m] : List va_W) 50 [(0, .ref (M 0)), (1, .int ri), (2, .int x2), (3, .int x3), (4, .int x4)] []) {K : Int32 → MV → Prop} (hK : ∀ (r0 : Int32) (m : MV), K r0 m → post r0 ([modW g M m] : List va_W)) (m : MV) (x2 : Int32) (x3 : Int32) (x4 : Int32) (h : wp_X7_findsWay_154 ri X35 X50 K m x2 x3 x4) : yJ Z ({ frames := 5, cells := 0, slots := 0, locals := 115 } : Room) 0 0 ([modW g M m] : List va_W) 154 [(0, .ref (M 0)), (1, .int ri), (2, .int x2), (3, .int x3), (4, .int x4)] [] := by
  unfold wp_X7_findsWay_154 at h
  refine y_aload_n C dX7_findsWay_154 0 rfl rfl ?_
  refine y_aload_n C dX7_findsWay_155 0 rfl rfl ?_
  refine y_get (Cn := RX7) (T := TX7) (N := 26) (v := .int (m.1 15)) C dX7_findsWay_156 hX7_findsWay_X7 0 (sh_5000 g M m) rfl 15 (Nat.le_of_ble_eq_true rfl) kX7_findsWay_7 rfl ?_
  obtain ⟨m1, em1⟩ : ∃ z : MV, z = mI m 19 (m.1 15) := ⟨_, rfl⟩
  have h := y_letP h em1
  refine y_put (Cn := RX7) (T := TX7) (N := 26) (v := .int (m.1 15)) (ty0 := tyX7) (L1 := ([modW g M m1] : List va_W)) C dX7_findsWay_159 hX7_findsWay_X7 0 (sh_5000 g M m) rfl 19 (Nat.le_of_ble_eq_true rfl) kX7_findsWay_2 tyX7_ok nmX7 rfl rfl rfl (Nat.le_of_ble_eq_true rfl) (sh_5026 g M m (m.1 15) m1 em1) ?_
  refine y_aload_n C dX7_findsWay_162 0 rfl rfl ?_
  refine y_iload_n C dX7_findsWay_163 3 rfl rfl ?_
  obtain ⟨m2, em2⟩ : ∃ z : MV, z = mI m1 17 x3 := ⟨_, rfl⟩
  have h := y_letP h em2
  refine y_put (Cn := RX7) (T := TX7) (N := 26) (v := .int x3) (ty0 := tyX7) (L1 := ([modW g M m2] : List va_W)) C dX7_findsWay_164 hX7_findsWay_X7 0 (sh_5000 g M m1) rfl 17 (Nat.le_of_ble_eq_true rfl) kX7_findsWay_8 tyX7_ok nmX7 rfl rfl rfl (Nat.le_of_ble_eq_true rfl) (sh_5027 g M m1 x3 m2 em2) ?_
  refine y_aload_n C dX7_findsWay_167 0 rfl rfl ?_
  refine y_iload C dX7_findsWay_168 4 rfl ?_
  obtain ⟨m3, em3⟩ : ∃ z : MV, z = mI m2 18 x4 := ⟨_, rfl⟩
  have h := y_letP h em3
  refine y_put (Cn := RX7) (T := TX7) (N := 26) (v := .int x4) (ty0 := tyX7) (L1 := ([modW g M m3] : List va_W)) C dX7_findsWay_170 hX7_findsWay_X7 0 (sh_5000 g M m2) rfl 18 (Nat.le_of_ble_eq_true rfl) kX7_findsWay_9 tyX7_ok nmX7 rfl rfl rfl (Nat.le_of_ble_eq_true rfl) (sh_5028 g M m2 x4 m3 em3) ?_
  refine y_sub (lv' := [(0, .ref (M 0)), (1, .int ri), (2, .int x2), (3, .int x3), (4, .int x4)]) [0, 1, 2, 3, 4] rfl ?_
  exact w_X7_findsWay_173 g M ri C HR hX35 hX50 hK _ _ _ _ h
set_option maxHeartbeats 4000000 in
set_option maxRecDepth 100000 in
theorem w_X7_findsWay_134 {Z : yZ} (g : yG) (M : Nat → Nat) (ri : Int32) (C : yC Z g cX7_findsWay 5 wsX7_findsWay RX7) {post : Int32 → List va_W → Prop} (HR : yRi Z ({ frames := 5, cells := 0, slots := 0, locals := 115 } : Room) cX7_findsWay .boolean post 0 0) {X35 : MV → Int32 → Int32 → Prop} {X50 : MV → Int32 → Int32 → Int32 → Prop} (hX35 : ∀ (m : MV) (x2 : Int32) (x3 : Int32), X35 m x2 x3 → yJ Z ({ frames := 5, cells := 0, slots := 0, locals := 115 } : Room) 0 0 ([modW g M m] : List va_W) 35 [(0, .ref (M 0)), (1, .int ri), (2, .int x2), (3, .int x3)] []) (hX50 : ∀ (m : MV) (x2 : Int32) (x3 : Int32) (x4 : Int32), X50 m x2 x3 x4 → yJ Z ({ frames := 5, cells := 0, slots := 0, locals := 115 } : Room) 0 0 ([modW g M m] : List va_W) 50 [(0, .ref (M 0)), (1, .int ri), (2, .int x2), (3, .int x3), (4, .int x4)] []) {K : Int32 → MV → Prop} (hK : ∀ (r0 : Int32) (m : MV), K r0 m → post r0 ([modW g M m] : List va_W)) (m : MV) (x2 : Int32) (x3 : Int32) (x4 : Int32) (h : wp_X7_findsWay_134 ri X35 X50 K m x2 x3 x4) : yJ Z ({ frames := 5, cells := 0, slots := 0, locals := 115 } : Room) 0 0 ([modW g M m] : List va_W) 134 [(0, .ref (M 0)), (1, .int ri), (2, .int x2), (3, .int x3), (4, .int x4)] [] := by
  unfold wp_X7_findsWay_134 at h
  refine y_aload_n C dX7_findsWay_134 0 rfl rfl ?_
  refine y_get (Cn := RX7) (T := TX7) (N := 26) (v := .int (m.1 19)) C dX7_findsWay_135 hX7_findsWay_X7 0 (sh_5000 g M m) rfl 19 (Nat.le_of_ble_eq_true rfl) kX7_findsWay_2 rfl ?_
  refine y_bipush (v := -6) C dX7_findsWay_138 (by decide) ?_
  refine y_icmp_eq (tgt := 154) C dX7_findsWay_140 rfl h (fun c140 h => ?_) (fun c140 h => ?_)
  · refine y_sub (lv' := [(0, .ref (M 0)), (1, .int ri), (2, .int x2), (3, .int x3), (4, .int x4)]) [0, 1, 2, 3, 4] rfl ?_
    exact w_X7_findsWay_154 g M ri C HR hX35 hX50 hK _ _ _ _ h
  · refine y_aload_n C dX7_findsWay_143 0 rfl rfl ?_
    refine y_get (Cn := RX7) (T := TX7) (N := 26) (v := .int (m.1 15)) C dX7_findsWay_144 hX7_findsWay_X7 0 (sh_5000 g M m) rfl 15 (Nat.le_of_ble_eq_true rfl) kX7_findsWay_7 rfl ?_
    refine y_aload_n C dX7_findsWay_147 0 rfl rfl ?_
    refine y_get (Cn := RX7) (T := TX7) (N := 26) (v := .int (m.1 19)) C dX7_findsWay_148 hX7_findsWay_X7 0 (sh_5000 g M m) rfl 19 (Nat.le_of_ble_eq_true rfl) kX7_findsWay_2 rfl ?_
    refine y_icmp_ge (tgt := 173) C dX7_findsWay_151 rfl h (fun c151 h => ?_) (fun c151 h => ?_)
    · refine y_sub (lv' := [(0, .ref (M 0)), (1, .int ri), (2, .int x2), (3, .int x3), (4, .int x4)]) [0, 1, 2, 3, 4] rfl ?_
      exact w_X7_findsWay_173 g M ri C HR hX35 hX50 hK _ _ _ _ h
    · refine y_sub (lv' := [(0, .ref (M 0)), (1, .int ri), (2, .int x2), (3, .int x3), (4, .int x4)]) [0, 1, 2, 3, 4] rfl ?_
      exact w_X7_findsWay_154 g M ri C HR hX35 hX50 hK _ _ _ _ h
set_option maxHeartbeats 4000000 in
set_option maxRecDepth 100000 in
theorem w_X7_findsWay_35 {Z : yZ} (g : yG) (M : Nat → Nat) (ri : Int32) (C : yC Z g cX7_findsWay 5 wsX7_findsWay RX7) {post : Int32 → List va_W → Prop} (HR : yRi Z ({ frames := 5, cells := 0, slots := 0, locals := 115 } : Room) cX7_findsWay .boolean post 0 0) {X35 : MV → Int32 → Int32 → Prop} {X50 : MV → Int32 → Int32 → Int32 → Prop} (hX35 : ∀ (m : MV) (x2 : Int32) (x3 : Int32), X35 m x2 x3 → yJ Z ({ frames := 5, cells := 0, slots := 0, locals := 115 } : Room) 0 0 ([modW g M m] : List va_W) 35 [(0, .ref (M 0)), (1, .int ri), (2, .int x2), (3, .int x3)] []) (hX50 : ∀ (m : MV) (x2 : Int32) (x3 : Int32) (x4 : Int32), X50 m x2 x3 x4 → yJ Z ({ frames := 5, cells := 0, slots := 0, locals := 115 } : Room) 0 0 ([modW g M m] : List va_W) 50 [(0, .ref (M 0)), (1, .int ri), (2, .int x2), (3, .int x3), (4, .int x4)] []) {K : Int32 → MV → Prop} (hK : ∀ (r0 : Int32) (m : MV), K r0 m → post r0 ([modW g M m] : List va_W)) (m : MV) (x2 : Int32) (x3 : Int32) (h : wp_X7_findsWay_35 ri X35 X50 K m x2 x3) : yJ Z ({ frames := 5, cells := 0, slots := 0, locals := 115 } : Room) 0 0 ([modW g M m] : List va_W) 35 [(0, .ref (M 0)), (1, .int ri), (2, .int x2), (3, .int x3)] [] := by
  unfold wp_X7_findsWay_35 at h
  refine y_iload_n C dX7_findsWay_35 3 rfl rfl ?_
  refine y_aload_n C dX7_findsWay_36 0 rfl rfl ?_
  refine y_get (Cn := RX7) (T := TX7) (N := 26) (v := .ref (M 1)) C dX7_findsWay_37 hX7_findsWay_X7 0 (sh_5000 g M m) rfl 1 (Nat.le_of_ble_eq_true rfl) kX7_findsWay_4 rfl ?_
  refine y_iconst (v := 5) C dX7_findsWay_40 (by decide) ?_
  obtain ⟨hb1, h⟩ := h
  refine y_iald (N := 186) (f := (m.2 1)) C dX7_findsWay_41 1 (sh_5001 g M m) hb1 ?_
  refine y_icmp_gt (tgt := 185) C dX7_findsWay_42 rfl h (fun c42 h => ?_) (fun c42 h => ?_)
  · refine y_aload_n C dX7_findsWay_185 0 rfl rfl ?_
    refine y_get (Cn := RX7) (T := TX7) (N := 26) (v := .int (m.1 19)) C dX7_findsWay_186 hX7_findsWay_X7 0 (sh_5000 g M m) rfl 19 (Nat.le_of_ble_eq_true rfl) kX7_findsWay_2 rfl ?_
    refine y_bipush (v := -6) C dX7_findsWay_189 (by decide) ?_
    refine y_icmp_eq (tgt := 198) C dX7_findsWay_191 rfl h (fun c191 h => ?_) (fun c191 h => ?_)
    · refine y_iconst (v := 0) C dX7_findsWay_198 (by decide) ?_
      exact HR 199 dX7_findsWay_199 (0 : Int32) _ _ _ _ (rfl) (Nat.le_of_ble_eq_true rfl) (Nat.le_of_ble_eq_true rfl) (hK _ _  h)
    · refine y_iconst (v := 1) C dX7_findsWay_194 (by decide) ?_
      refine y_goto (tgt := 199) C dX7_findsWay_195 rfl ?_
      exact HR 199 dX7_findsWay_199 (1 : Int32) _ _ _ _ (rfl) (Nat.le_of_ble_eq_true rfl) (Nat.le_of_ble_eq_true rfl) (hK _ _  h)
  · refine y_iload_n C dX7_findsWay_45 3 rfl rfl ?_
    refine y_iconst (v := 1) C dX7_findsWay_46 (by decide) ?_
    refine y_iadd C dX7_findsWay_47 ?_
    refine y_istore (lv' := [(4, .int (x3 + (1 : Int32))), (0, .ref (M 0)), (1, .int ri), (2, .int x2), (3, .int x3)]) C dX7_findsWay_48 (Nat.le_of_ble_eq_true rfl) rfl ?_
    refine y_sub (lv' := [(0, .ref (M 0)), (1, .int ri), (2, .int x2), (3, .int x3), (4, .int (x3 + (1 : Int32)))]) [1, 2, 3, 4, 0] rfl ?_
    exact hX50 _ _ _ _ h
set_option maxHeartbeats 4000000 in
set_option maxRecDepth 100000 in
theorem w_X7_findsWay_50 {Z : yZ} (g : yG) (M : Nat → Nat) (ri : Int32) (C : yC Z g cX7_findsWay 5 wsX7_findsWay RX7) {post : Int32 → List va_W → Prop} (HR : yRi Z ({ frames := 5, cells := 0, slots := 0, locals := 115 } : Room) cX7_findsWay .boolean post 0 0) {X35 : MV → Int32 → Int32 → Prop} {X50 : MV → Int32 → Int32 → Int32 → Prop} (hX35 : ∀ (m : MV) (x2 : Int32) (x3 : Int32), X35 m x2 x3 → yJ Z ({ frames := 5, cells := 0, slots := 0, locals := 115 } : Room) 0 0 ([modW g M m] : List va_W) 35 [(0, .ref (M 0)), (1, .int ri), (2, .int x2), (3, .int x3)] []) (hX50 : ∀ (m : MV) (x2 : Int32) (x3 : Int32) (x4 : Int32), X50 m x2 x3 x4 → yJ Z ({ frames := 5, cells := 0, slots := 0, locals := 115 } : Room) 0 0 ([modW g M m] : List va_W) 50 [(0, .ref (M 0)), (1, .int ri), (2, .int x2), (3, .int x3), (4, .int x4)] []) {K : Int32 → MV → Prop} (hK : ∀ (r0 : Int32) (m : MV), K r0 m → post r0 ([modW g M m] : List va_W)) (m : MV) (x2 : Int32) (x3 : Int32) (x4 : Int32) (h : wp_X7_findsWay_50 ri X35 X50 K m x2 x3 x4) : yJ Z ({ frames := 5, cells := 0, slots := 0, locals := 115 } : Room) 0 0 ([modW g M m] : List va_W) 50 [(0, .ref (M 0)), (1, .int ri), (2, .int x2), (3, .int x3), (4, .int x4)] [] := by
  unfold wp_X7_findsWay_50 at h
  refine y_iload C dX7_findsWay_50 4 rfl ?_
  refine y_aload_n C dX7_findsWay_52 0 rfl rfl ?_
  refine y_get (Cn := RX7) (T := TX7) (N := 26) (v := .ref (M 1)) C dX7_findsWay_53 hX7_findsWay_X7 0 (sh_5000 g M m) rfl 1 (Nat.le_of_ble_eq_true rfl) kX7_findsWay_4 rfl ?_
  refine y_iconst (v := 5) C dX7_findsWay_56 (by decide) ?_
  obtain ⟨hb1, h⟩ := h
  refine y_iald (N := 186) (f := (m.2 1)) C dX7_findsWay_57 1 (sh_5001 g M m) hb1 ?_
  refine y_iconst (v := 1) C dX7_findsWay_58 (by decide) ?_
  refine y_iadd C dX7_findsWay_59 ?_
  refine y_icmp_gt (tgt := 179) C dX7_findsWay_60 rfl h (fun c60 h => ?_) (fun c60 h => ?_)
  · refine y_iinc (v := (x3 + (1 : Int32))) (lv' := [(3, .int (x3 + (1 : Int32))), (0, .ref (M 0)), (1, .int ri), (2, .int x2), (4, .int x4)]) C dX7_findsWay_179 3 rfl rfl (Nat.le_of_ble_eq_true rfl) rfl ?_
    refine y_goto (tgt := 35) C dX7_findsWay_182 rfl ?_
    refine y_sub (lv' := [(0, .ref (M 0)), (1, .int ri), (2, .int x2), (3, .int (x3 + (1 : Int32)))]) [1, 2, 3, 0] rfl ?_
    exact hX35 _ _ _ h
  · refine y_aload_n C dX7_findsWay_63 0 rfl rfl ?_
    refine y_iload_n C dX7_findsWay_64 1 rfl rfl ?_
    refine y_iload_n C dX7_findsWay_65 3 rfl rfl ?_
    refine y_iload C dX7_findsWay_66 4 rfl ?_
    refine y_callVv (As := [.int ri, .int x3, .int x4]) (rest := []) C dX7_findsWay_68 (u_X7_laysWay g M m ri x3 x4 h) rfl rfl rfl rfl ⟨Nat.le_of_ble_eq_true rfl, Nat.le_of_ble_eq_true rfl⟩ gX7_findsWay_X7_laysWay (nA := 3) (by decide +kernel) rfl (sh_5010 g M m) (Nat.le_of_ble_eq_true rfl) ⟨Nat.le_of_ble_eq_true rfl, Nat.le_of_ble_eq_true rfl⟩ [0] [] (nB := 1) rfl (by decide +kernel) (sh_5009 g M m) (fun w9 hw => ?_)
    obtain ⟨m2, h, rfl⟩ := hw
    refine ⟨([modW g M m2] : List va_W), (sh_5023 g M m m2), ?_⟩
    refine y_aload_n C dX7_findsWay_71 0 rfl rfl ?_
    refine y_iload_n C dX7_findsWay_72 2 rfl rfl ?_
    refine y_callVv (As := [.int x2]) (rest := []) C dX7_findsWay_73 (u_X7_drives g M m2 x2 h) rfl rfl rfl rfl ⟨Nat.le_of_ble_eq_true rfl, Nat.le_of_ble_eq_true rfl⟩ gX7_findsWay_X7_drives (nA := 1) (by decide +kernel) rfl (sh_5010 g M m2) (Nat.le_of_ble_eq_true rfl) ⟨Nat.le_of_ble_eq_true rfl, Nat.le_of_ble_eq_true rfl⟩ [0] [] (nB := 1) rfl (by decide +kernel) (sh_5009 g M m2) (fun w9 hw => ?_)
    obtain ⟨m4, h, rfl⟩ := hw
    refine ⟨([modW g M m4] : List va_W), (sh_5023 g M m2 m4), ?_⟩
    refine y_aload_n C dX7_findsWay_76 0 rfl rfl ?_
    refine y_get (Cn := RX7) (T := TX7) (N := 26) (v := .int (m4.1 16)) C dX7_findsWay_77 hX7_findsWay_X7 0 (sh_5000 g M m4) rfl 16 (Nat.le_of_ble_eq_true rfl) kX7_findsWay_5 rfl ?_
    refine y_if_eq (tgt := 173) C dX7_findsWay_80 rfl h (fun c80 h => ?_) (fun c80 h => ?_)
    · refine y_sub (lv' := [(0, .ref (M 0)), (1, .int ri), (2, .int x2), (3, .int x3), (4, .int x4)]) [0, 1, 2, 3, 4] rfl ?_
      exact w_X7_findsWay_173 g M ri C HR hX35 hX50 hK _ _ _ _ h
    · refine y_aload_n C dX7_findsWay_83 0 rfl rfl ?_
      refine y_dup C dX7_findsWay_84 rfl ?_
      refine y_get (Cn := RX7) (T := TX7) (N := 26) (v := .int (m4.1 20)) C dX7_findsWay_85 hX7_findsWay_X7 0 (sh_5000 g M m4) rfl 20 (Nat.le_of_ble_eq_true rfl) kX7_findsWay_1 rfl ?_
      refine y_iconst (v := 1) C dX7_findsWay_88 (by decide) ?_
      refine y_iadd C dX7_findsWay_89 ?_
      obtain ⟨m6, em6⟩ : ∃ z : MV, z = mI m4 20 ((m4.1 20) + (1 : Int32)) := ⟨_, rfl⟩
      have h := y_letP h em6
      refine y_put (Cn := RX7) (T := TX7) (N := 26) (v := .int ((m4.1 20) + (1 : Int32))) (ty0 := tyX7) (L1 := ([modW g M m6] : List va_W)) C dX7_findsWay_90 hX7_findsWay_X7 0 (sh_5000 g M m4) rfl 20 (Nat.le_of_ble_eq_true rfl) kX7_findsWay_1 tyX7_ok nmX7 rfl rfl rfl (Nat.le_of_ble_eq_true rfl) (sh_5024 g M m4 ((m4.1 20) + (1 : Int32)) m6 em6) ?_
      refine y_aload_n C dX7_findsWay_93 0 rfl rfl ?_
      refine y_aload_n C dX7_findsWay_94 0 rfl rfl ?_
      refine y_get (Cn := RX7) (T := TX7) (N := 26) (v := .int (m6.1 21)) C dX7_findsWay_95 hX7_findsWay_X7 0 (sh_5000 g M m6) rfl 21 (Nat.le_of_ble_eq_true rfl) kX7_findsWay_3 rfl ?_
      refine y_bipush (v := -6) C dX7_findsWay_98 (by decide) ?_
      refine y_icmp_eq (tgt := 117) C dX7_findsWay_100 rfl h (fun c100 h => ?_) (fun c100 h => ?_)
      · refine y_aload_n C dX7_findsWay_117 0 rfl rfl ?_
        refine y_get (Cn := RX7) (T := TX7) (N := 26) (v := .ref (M 8)) C dX7_findsWay_118 hX7_findsWay_X7 0 (sh_5000 g M m6) rfl 11 (Nat.le_of_ble_eq_true rfl) kX7_findsWay_6 rfl ?_
        refine y_iload C dX7_findsWay_121 4 rfl ?_
        obtain ⟨hb7, h⟩ := h
        refine y_iald (N := 36) (f := (m6.2 11)) C dX7_findsWay_123 8 (sh_5012 g M m6) hb7 ?_
        refine y_goto (tgt := 131) C dX7_findsWay_124 rfl ?_
        obtain ⟨m8, em8⟩ : ∃ z : MV, z = mI m6 21 ((m6.2 11) x4.toNatClampNeg) := ⟨_, rfl⟩
        have h := y_letP h em8
        refine y_put (Cn := RX7) (T := TX7) (N := 26) (v := .int ((m6.2 11) x4.toNatClampNeg)) (ty0 := tyX7) (L1 := ([modW g M m8] : List va_W)) C dX7_findsWay_131 hX7_findsWay_X7 0 (sh_5000 g M m6) rfl 21 (Nat.le_of_ble_eq_true rfl) kX7_findsWay_3 tyX7_ok nmX7 rfl rfl rfl (Nat.le_of_ble_eq_true rfl) (sh_5025 g M m6 ((m6.2 11) x4.toNatClampNeg) m8 em8) ?_
        refine y_sub (lv' := [(0, .ref (M 0)), (1, .int ri), (2, .int x2), (3, .int x3), (4, .int x4)]) [0, 1, 2, 3, 4] rfl ?_
        exact w_X7_findsWay_134 g M ri C HR hX35 hX50 hK _ _ _ _ h
      · refine y_aload_n C dX7_findsWay_103 0 rfl rfl ?_
        refine y_get (Cn := RX7) (T := TX7) (N := 26) (v := .ref (M 8)) C dX7_findsWay_104 hX7_findsWay_X7 0 (sh_5000 g M m6) rfl 11 (Nat.le_of_ble_eq_true rfl) kX7_findsWay_6 rfl ?_
        refine y_iload C dX7_findsWay_107 4 rfl ?_
        obtain ⟨hb9, h⟩ := h
        refine y_iald (N := 36) (f := (m6.2 11)) C dX7_findsWay_109 8 (sh_5012 g M m6) hb9 ?_
        refine y_aload_n C dX7_findsWay_110 0 rfl rfl ?_
        refine y_get (Cn := RX7) (T := TX7) (N := 26) (v := .int (m6.1 21)) C dX7_findsWay_111 hX7_findsWay_X7 0 (sh_5000 g M m6) rfl 21 (Nat.le_of_ble_eq_true rfl) kX7_findsWay_3 rfl ?_
        refine y_icmp_ge (tgt := 127) C dX7_findsWay_114 rfl h (fun c114 h => ?_) (fun c114 h => ?_)
        · refine y_aload_n C dX7_findsWay_127 0 rfl rfl ?_
          refine y_get (Cn := RX7) (T := TX7) (N := 26) (v := .int (m6.1 21)) C dX7_findsWay_128 hX7_findsWay_X7 0 (sh_5000 g M m6) rfl 21 (Nat.le_of_ble_eq_true rfl) kX7_findsWay_3 rfl ?_
          obtain ⟨m10, em10⟩ : ∃ z : MV, z = mI m6 21 (m6.1 21) := ⟨_, rfl⟩
          have h := y_letP h em10
          refine y_put (Cn := RX7) (T := TX7) (N := 26) (v := .int (m6.1 21)) (ty0 := tyX7) (L1 := ([modW g M m10] : List va_W)) C dX7_findsWay_131 hX7_findsWay_X7 0 (sh_5000 g M m6) rfl 21 (Nat.le_of_ble_eq_true rfl) kX7_findsWay_3 tyX7_ok nmX7 rfl rfl rfl (Nat.le_of_ble_eq_true rfl) (sh_5025 g M m6 (m6.1 21) m10 em10) ?_
          refine y_sub (lv' := [(0, .ref (M 0)), (1, .int ri), (2, .int x2), (3, .int x3), (4, .int x4)]) [0, 1, 2, 3, 4] rfl ?_
          exact w_X7_findsWay_134 g M ri C HR hX35 hX50 hK _ _ _ _ h
        · refine y_aload_n C dX7_findsWay_117 0 rfl rfl ?_
          refine y_get (Cn := RX7) (T := TX7) (N := 26) (v := .ref (M 8)) C dX7_findsWay_118 hX7_findsWay_X7 0 (sh_5000 g M m6) rfl 11 (Nat.le_of_ble_eq_true rfl) kX7_findsWay_6 rfl ?_
          refine y_iload C dX7_findsWay_121 4 rfl ?_
          obtain ⟨hb11, h⟩ := h
          refine y_iald (N := 36) (f := (m6.2 11)) C dX7_findsWay_123 8 (sh_5012 g M m6) hb11 ?_
          refine y_goto (tgt := 131) C dX7_findsWay_124 rfl ?_
          obtain ⟨m12, em12⟩ : ∃ z : MV, z = mI m6 21 ((m6.2 11) x4.toNatClampNeg) := ⟨_, rfl⟩
          have h := y_letP h em12
          refine y_put (Cn := RX7) (T := TX7) (N := 26) (v := .int ((m6.2 11) x4.toNatClampNeg)) (ty0 := tyX7) (L1 := ([modW g M m12] : List va_W)) C dX7_findsWay_131 hX7_findsWay_X7 0 (sh_5000 g M m6) rfl 21 (Nat.le_of_ble_eq_true rfl) kX7_findsWay_3 tyX7_ok nmX7 rfl rfl rfl (Nat.le_of_ble_eq_true rfl) (sh_5025 g M m6 ((m6.2 11) x4.toNatClampNeg) m12 em12) ?_
          refine y_sub (lv' := [(0, .ref (M 0)), (1, .int ri), (2, .int x2), (3, .int x3), (4, .int x4)]) [0, 1, 2, 3, 4] rfl ?_
          exact w_X7_findsWay_134 g M ri C HR hX35 hX50 hK _ _ _ _ h
set_option maxHeartbeats 4000000 in
set_option maxRecDepth 100000 in
theorem l_X7_findsWay {Z : yZ} (g : yG) (M : Nat → Nat) (ri : Int32) (C : yC Z g cX7_findsWay 5 wsX7_findsWay RX7) {post : Int32 → List va_W → Prop} (HR : yRi Z ({ frames := 5, cells := 0, slots := 0, locals := 115 } : Room) cX7_findsWay .boolean post 0 0) {K : Int32 → MV → Prop} (hK : ∀ (r0 : Int32) (m : MV), K r0 m → post r0 ([modW g M m] : List va_W)) {I35 : Nat → MV → Int32 → Int32 → Prop} {I50 : Nat → MV → Int32 → Int32 → Int32 → Prop} (o35 : ∀ (w0 : Nat) (m : MV) (x2 : Int32) (x3 : Int32), I35 w0 m x2 x3 → wp_X7_findsWay_35 ri (fun (m9 : MV) (x29 : Int32) (x39 : Int32) => ∃ w9, w9 < w0 ∧ I35 w9 m9 x29 x39) (fun (m9 : MV) (x29 : Int32) (x39 : Int32) (x49 : Int32) => ∃ w9, w9 < w0 ∧ I50 w9 m9 x29 x39 x49) K m x2 x3) (o50 : ∀ (w0 : Nat) (m : MV) (x2 : Int32) (x3 : Int32) (x4 : Int32), I50 w0 m x2 x3 x4 → wp_X7_findsWay_50 ri (fun (m9 : MV) (x29 : Int32) (x39 : Int32) => ∃ w9, w9 < w0 ∧ I35 w9 m9 x29 x39) (fun (m9 : MV) (x29 : Int32) (x39 : Int32) (x49 : Int32) => ∃ w9, w9 < w0 ∧ I50 w9 m9 x29 x39 x49) K m x2 x3 x4) : ∀ w0 : Nat, (∀ (m : MV) (x2 : Int32) (x3 : Int32), I35 w0 m x2 x3 → yJ Z ({ frames := 5, cells := 0, slots := 0, locals := 115 } : Room) 0 0 ([modW g M m] : List va_W) 35 [(0, .ref (M 0)), (1, .int ri), (2, .int x2), (3, .int x3)] []) ∧ (∀ (m : MV) (x2 : Int32) (x3 : Int32) (x4 : Int32), I50 w0 m x2 x3 x4 → yJ Z ({ frames := 5, cells := 0, slots := 0, locals := 115 } : Room) 0 0 ([modW g M m] : List va_W) 50 [(0, .ref (M 0)), (1, .int ri), (2, .int x2), (3, .int x3), (4, .int x4)] []) := by
  intro w0
  induction w0 using Nat.strongRecOn with
  | _ w0 ih =>
    exact ⟨fun m x2 x3 hi => w_X7_findsWay_35 g M ri C HR (fun m x2 x3 hq => by obtain ⟨w9, hlt, hi⟩ := hq; exact (ih w9 hlt).1 m x2 x3 hi) (fun m x2 x3 x4 hq => by obtain ⟨w9, hlt, hi⟩ := hq; exact (ih w9 hlt).2 m x2 x3 x4 hi) hK m x2 x3 (o35 w0 m x2 x3 hi), fun m x2 x3 x4 hi => w_X7_findsWay_50 g M ri C HR (fun m x2 x3 hq => by obtain ⟨w9, hlt, hi⟩ := hq; exact (ih w9 hlt).1 m x2 x3 hi) (fun m x2 x3 x4 hq => by obtain ⟨w9, hlt, hi⟩ := hq; exact (ih w9 hlt).2 m x2 x3 x4 hi) hK m x2 x3 x4 (o50 w0 m x2 x3 x4 hi)⟩
set_option maxHeartbeats 4000000 in
set_option maxRecDepth 100000 in
theorem t_X7_findsWay (g : yG) (M : Nat → Nat) (m : MV) (ri : Int32) {post : Int32 → List va_W → Prop} {K : Int32 → MV → Prop} (hK : ∀ (r0 : Int32) (m : MV), K r0 m → post r0 ([modW g M m] : List va_W)) (hPO : PO_X7_findsWay ri K m ) : yM g yX7_findsWay wsX7_findsWay ({ frames := 5, cells := 0, slots := 0, locals := 115 } : Room) [.ref (M 0), .int ri] ([modW g M m] : List va_W) post 0 0 := by
  refine y_entryI (cc := cX7_findsWay) (maxL := 5) (by decide +kernel) rfl (Nat.le_of_ble_eq_true rfl) (fun Z C HR => ?_)
  have C : yC Z g cX7_findsWay 5 wsX7_findsWay RX7 := C
  obtain ⟨I35, I50, o35, o50, h⟩ := hPO
  have hX35 : ∀ (m : MV) (x2 : Int32) (x3 : Int32), (fun (m9 : MV) (x29 : Int32) (x39 : Int32) => ∃ w9, I35 w9 m9 x29 x39) m x2 x3 → yJ Z ({ frames := 5, cells := 0, slots := 0, locals := 115 } : Room) 0 0 ([modW g M m] : List va_W) 35 [(0, .ref (M 0)), (1, .int ri), (2, .int x2), (3, .int x3)] [] := by
    intro m x2 x3 hq
    obtain ⟨w9, hi⟩ := hq
    exact (l_X7_findsWay g M ri C HR hK o35 o50 w9).1 m x2 x3 hi
  have hX50 : ∀ (m : MV) (x2 : Int32) (x3 : Int32) (x4 : Int32), (fun (m9 : MV) (x29 : Int32) (x39 : Int32) (x49 : Int32) => ∃ w9, I50 w9 m9 x29 x39 x49) m x2 x3 x4 → yJ Z ({ frames := 5, cells := 0, slots := 0, locals := 115 } : Room) 0 0 ([modW g M m] : List va_W) 50 [(0, .ref (M 0)), (1, .int ri), (2, .int x2), (3, .int x3), (4, .int x4)] [] := by
    intro m x2 x3 x4 hq
    obtain ⟨w9, hi⟩ := hq
    exact (l_X7_findsWay g M ri C HR hK o35 o50 w9).2 m x2 x3 x4 hi
  unfold wp_X7_findsWay_0 at h
  show yJ Z _ 0 0 _ 0 [(0, .ref (M 0)), (1, .int ri)] []
  refine y_aload_n C dX7_findsWay_0 0 rfl rfl ?_
  refine y_iconst (v := 0) C dX7_findsWay_1 (by decide) ?_
  obtain ⟨m1, em1⟩ : ∃ z : MV, z = mI m 20 (0 : Int32) := ⟨_, rfl⟩
  have h := y_letP h em1
  refine y_put (Cn := RX7) (T := TX7) (N := 26) (v := .int (0 : Int32)) (ty0 := tyX7) (L1 := ([modW g M m1] : List va_W)) C dX7_findsWay_2 hX7_findsWay_X7 0 (sh_5000 g M m) rfl 20 (Nat.le_of_ble_eq_true rfl) kX7_findsWay_1 tyX7_ok nmX7 rfl rfl rfl (Nat.le_of_ble_eq_true rfl) (sh_5024 g M m (0 : Int32) m1 em1) ?_
  refine y_aload_n C dX7_findsWay_5 0 rfl rfl ?_
  refine y_bipush (v := -6) C dX7_findsWay_6 (by decide) ?_
  obtain ⟨m2, em2⟩ : ∃ z : MV, z = mI m1 19 (-6 : Int32) := ⟨_, rfl⟩
  have h := y_letP h em2
  refine y_put (Cn := RX7) (T := TX7) (N := 26) (v := .int (-6 : Int32)) (ty0 := tyX7) (L1 := ([modW g M m2] : List va_W)) C dX7_findsWay_8 hX7_findsWay_X7 0 (sh_5000 g M m1) rfl 19 (Nat.le_of_ble_eq_true rfl) kX7_findsWay_2 tyX7_ok nmX7 rfl rfl rfl (Nat.le_of_ble_eq_true rfl) (sh_5026 g M m1 (-6 : Int32) m2 em2) ?_
  refine y_aload_n C dX7_findsWay_11 0 rfl rfl ?_
  refine y_bipush (v := -6) C dX7_findsWay_12 (by decide) ?_
  obtain ⟨m3, em3⟩ : ∃ z : MV, z = mI m2 21 (-6 : Int32) := ⟨_, rfl⟩
  have h := y_letP h em3
  refine y_put (Cn := RX7) (T := TX7) (N := 26) (v := .int (-6 : Int32)) (ty0 := tyX7) (L1 := ([modW g M m3] : List va_W)) C dX7_findsWay_14 hX7_findsWay_X7 0 (sh_5000 g M m2) rfl 21 (Nat.le_of_ble_eq_true rfl) kX7_findsWay_3 tyX7_ok nmX7 rfl rfl rfl (Nat.le_of_ble_eq_true rfl) (sh_5025 g M m2 (-6 : Int32) m3 em3) ?_
  refine y_aload_n C dX7_findsWay_17 0 rfl rfl ?_
  refine y_callV (As := []) (rest := []) C dX7_findsWay_18 (u_X7_leaving g M m3 h) rfl rfl rfl rfl ⟨Nat.le_of_ble_eq_true rfl, Nat.le_of_ble_eq_true rfl⟩ gX7_findsWay_X7_leaving (nA := 0) (by decide +kernel) rfl (sh_5010 g M m3) (Nat.le_of_ble_eq_true rfl) ⟨Nat.le_of_ble_eq_true rfl, Nat.le_of_ble_eq_true rfl⟩ [0] [] (nB := 1) rfl (by decide +kernel) (sh_5009 g M m3) (fun r4 w9 hw => ?_)
  obtain ⟨h, rfl⟩ := hw
  refine ⟨([modW g M m3] : List va_W), ⟨(sh_5009 g M m3), rfl, rfl⟩, ?_⟩
  refine y_istore_n (lv' := [(2, .int r4), (0, .ref (M 0)), (1, .int ri)]) C dX7_findsWay_21 rfl (Nat.le_of_ble_eq_true rfl) rfl ?_
  refine y_aload_n C dX7_findsWay_22 1 rfl rfl ?_
  refine y_callV (As := []) (rest := []) C dX7_findsWay_23 (u_X7_isOnWay g M m3 h) rfl rfl rfl rfl ⟨Nat.le_of_ble_eq_true rfl, Nat.le_of_ble_eq_true rfl⟩ gX7_findsWay_X7_isOnWay (nA := 0) (by decide +kernel) rfl (sh_5010 g M m3) (Nat.le_of_ble_eq_true rfl) ⟨Nat.le_of_ble_eq_true rfl, Nat.le_of_ble_eq_true rfl⟩ [0] [] (nB := 1) rfl (by decide +kernel) (sh_5009 g M m3) (fun r5 w9 hw => ?_)
  obtain ⟨h, rfl⟩ := hw
  refine ⟨([modW g M m3] : List va_W), ⟨(sh_5009 g M m3), rfl, rfl⟩, ?_⟩
  refine y_if_eq (tgt := 33) C dX7_findsWay_26 rfl h (fun c26 h => ?_) (fun c26 h => ?_)
  · refine y_iconst (v := 0) C dX7_findsWay_33 (by decide) ?_
    refine y_istore_n (lv' := [(3, .int (0 : Int32)), (2, .int r4), (0, .ref (M 0)), (1, .int ri)]) C dX7_findsWay_34 rfl (Nat.le_of_ble_eq_true rfl) rfl ?_
    refine y_sub (lv' := [(0, .ref (M 0)), (1, .int ri), (2, .int r4), (3, .int (0 : Int32))]) [2, 3, 1, 0] rfl ?_
    exact hX35 _ _ _ h
  · refine y_iconst (v := 1) C dX7_findsWay_29 (by decide) ?_
    refine y_goto (tgt := 34) C dX7_findsWay_30 rfl ?_
    refine y_istore_n (lv' := [(3, .int (1 : Int32)), (2, .int r4), (0, .ref (M 0)), (1, .int ri)]) C dX7_findsWay_34 rfl (Nat.le_of_ble_eq_true rfl) rfl ?_
    refine y_sub (lv' := [(0, .ref (M 0)), (1, .int ri), (2, .int r4), (3, .int (1 : Int32))]) [2, 3, 1, 0] rfl ?_
    exact hX35 _ _ _ h
theorem u_X7_findsWay (g : yG) (M : Nat → Nat) (m : MV) (ri : Int32) {K : Int32 → MV → Prop} (hPO : PO_X7_findsWay ri K m ) : yM g yX7_findsWay wsX7_findsWay ({ frames := 5, cells := 0, slots := 0, locals := 115 } : Room) [.ref (M 0), .int ri] ([modW g M m] : List va_W) (fun r w => ∃ m' : MV, K r m' ∧ w = ([modW g M m'] : List va_W)) 0 0 :=
  t_X7_findsWay g M m ri (fun r0 m hk => ⟨m, hk, rfl⟩) hPO
