theorem dX7_leaves_0 : decode cX7_leaves 0 = .ok (.aload_n 0, 1) := by decide +kernel
theorem dX7_leaves_1 : decode cX7_leaves 1 = .ok (.invokevirtual 119, 3) := by decide +kernel
theorem dX7_leaves_4 : decode cX7_leaves 4 = .ok (.ifCond .eq 97, 3) := by decide +kernel
theorem dX7_leaves_7 : decode cX7_leaves 7 = .ok (.aload_n 0, 1) := by decide +kernel
theorem dX7_leaves_8 : decode cX7_leaves 8 = .ok (.getfield 7, 3) := by decide +kernel
theorem dX7_leaves_11 : decode cX7_leaves 11 = .ok (.sipush 152, 3) := by decide +kernel
theorem dX7_leaves_14 : decode cX7_leaves 14 = .ok (.iaload, 1) := by decide +kernel
theorem dX7_leaves_15 : decode cX7_leaves 15 = .ok (.iconst 2, 1) := by decide +kernel
theorem dX7_leaves_16 : decode cX7_leaves 16 = .ok (.idiv, 1) := by decide +kernel
theorem dX7_leaves_17 : decode cX7_leaves 17 = .ok (.iload_n 1, 1) := by decide +kernel
theorem dX7_leaves_18 : decode cX7_leaves 18 = .ok (.if_icmp .ne 83, 3) := by decide +kernel
theorem dX7_leaves_21 : decode cX7_leaves 21 = .ok (.aload_n 0, 1) := by decide +kernel
theorem dX7_leaves_22 : decode cX7_leaves 22 = .ok (.getfield 7, 3) := by decide +kernel
theorem dX7_leaves_25 : decode cX7_leaves 25 = .ok (.bipush 8, 2) := by decide +kernel
theorem dX7_leaves_27 : decode cX7_leaves 27 = .ok (.iaload, 1) := by decide +kernel
theorem dX7_leaves_28 : decode cX7_leaves 28 = .ok (.aload_n 0, 1) := by decide +kernel
theorem dX7_leaves_29 : decode cX7_leaves 29 = .ok (.aload_n 0, 1) := by decide +kernel
theorem dX7_leaves_30 : decode cX7_leaves 30 = .ok (.getfield 7, 3) := by decide +kernel
theorem dX7_leaves_33 : decode cX7_leaves 33 = .ok (.bipush 7, 2) := by decide +kernel
theorem dX7_leaves_35 : decode cX7_leaves 35 = .ok (.iaload, 1) := by decide +kernel
theorem dX7_leaves_36 : decode cX7_leaves 36 = .ok (.aload_n 0, 1) := by decide +kernel
theorem dX7_leaves_37 : decode cX7_leaves 37 = .ok (.aload_n 0, 1) := by decide +kernel
theorem dX7_leaves_38 : decode cX7_leaves 38 = .ok (.getfield 7, 3) := by decide +kernel
theorem dX7_leaves_41 : decode cX7_leaves 41 = .ok (.sipush 152, 3) := by decide +kernel
theorem dX7_leaves_44 : decode cX7_leaves 44 = .ok (.iaload, 1) := by decide +kernel
theorem dX7_leaves_45 : decode cX7_leaves 45 = .ok (.invokevirtual 79, 3) := by decide +kernel
theorem dX7_leaves_48 : decode cX7_leaves 48 = .ok (.invokevirtual 62, 3) := by decide +kernel
theorem dX7_leaves_51 : decode cX7_leaves 51 = .ok (.iadd, 1) := by decide +kernel
theorem dX7_leaves_52 : decode cX7_leaves 52 = .ok (.istore_n 2, 1) := by decide +kernel
theorem dX7_leaves_53 : decode cX7_leaves 53 = .ok (.aload_n 0, 1) := by decide +kernel
theorem dX7_leaves_54 : decode cX7_leaves 54 = .ok (.getfield 7, 3) := by decide +kernel
theorem dX7_leaves_57 : decode cX7_leaves 57 = .ok (.bipush 8, 2) := by decide +kernel
theorem dX7_leaves_59 : decode cX7_leaves 59 = .ok (.iload_n 2, 1) := by decide +kernel
theorem dX7_leaves_60 : decode cX7_leaves 60 = .ok (.aload_n 0, 1) := by decide +kernel
theorem dX7_leaves_61 : decode cX7_leaves 61 = .ok (.getfield 7, 3) := by decide +kernel
theorem dX7_leaves_64 : decode cX7_leaves 64 = .ok (.bipush 6, 2) := by decide +kernel
theorem dX7_leaves_66 : decode cX7_leaves 66 = .ok (.iaload, 1) := by decide +kernel
theorem dX7_leaves_67 : decode cX7_leaves 67 = .ok (.if_icmp .le 7, 3) := by decide +kernel
theorem dX7_leaves_70 : decode cX7_leaves 70 = .ok (.iload_n 2, 1) := by decide +kernel
theorem dX7_leaves_71 : decode cX7_leaves 71 = .ok (.goto 10, 3) := by decide +kernel
theorem dX7_leaves_74 : decode cX7_leaves 74 = .ok (.aload_n 0, 1) := by decide +kernel
theorem dX7_leaves_75 : decode cX7_leaves 75 = .ok (.getfield 7, 3) := by decide +kernel
theorem dX7_leaves_78 : decode cX7_leaves 78 = .ok (.bipush 6, 2) := by decide +kernel
theorem dX7_leaves_80 : decode cX7_leaves 80 = .ok (.iaload, 1) := by decide +kernel
theorem dX7_leaves_81 : decode cX7_leaves 81 = .ok (.iastore, 1) := by decide +kernel
theorem dX7_leaves_82 : decode cX7_leaves 82 = .ok (.aload_n 0, 1) := by decide +kernel
theorem dX7_leaves_83 : decode cX7_leaves 83 = .ok (.getfield 7, 3) := by decide +kernel
theorem dX7_leaves_86 : decode cX7_leaves 86 = .ok (.bipush 7, 2) := by decide +kernel
theorem dX7_leaves_88 : decode cX7_leaves 88 = .ok (.aload_n 0, 1) := by decide +kernel
theorem dX7_leaves_89 : decode cX7_leaves 89 = .ok (.aload_n 0, 1) := by decide +kernel
theorem dX7_leaves_90 : decode cX7_leaves 90 = .ok (.getfield 7, 3) := by decide +kernel
theorem dX7_leaves_93 : decode cX7_leaves 93 = .ok (.sipush 152, 3) := by decide +kernel
theorem dX7_leaves_96 : decode cX7_leaves 96 = .ok (.iaload, 1) := by decide +kernel
theorem dX7_leaves_97 : decode cX7_leaves 97 = .ok (.invokevirtual 79, 3) := by decide +kernel
theorem dX7_leaves_100 : decode cX7_leaves 100 = .ok (.iastore, 1) := by decide +kernel
theorem dX7_leaves_101 : decode cX7_leaves 101 = .ok (.iconst 0, 1) := by decide +kernel
theorem dX7_leaves_102 : decode cX7_leaves 102 = .ok (.istore_n 2, 1) := by decide +kernel
theorem dX7_leaves_103 : decode cX7_leaves 103 = .ok (.iconst 0, 1) := by decide +kernel
theorem dX7_leaves_104 : decode cX7_leaves 104 = .ok (.istore_n 3, 1) := by decide +kernel
theorem dX7_leaves_105 : decode cX7_leaves 105 = .ok (.iload_n 3, 1) := by decide +kernel
theorem dX7_leaves_106 : decode cX7_leaves 106 = .ok (.aload_n 0, 1) := by decide +kernel
theorem dX7_leaves_107 : decode cX7_leaves 107 = .ok (.getfield 7, 3) := by decide +kernel
theorem dX7_leaves_110 : decode cX7_leaves 110 = .ok (.iconst 5, 1) := by decide +kernel
theorem dX7_leaves_111 : decode cX7_leaves 111 = .ok (.iaload, 1) := by decide +kernel
theorem dX7_leaves_112 : decode cX7_leaves 112 = .ok (.if_icmp .ge 48, 3) := by decide +kernel
theorem dX7_leaves_115 : decode cX7_leaves 115 = .ok (.aload_n 0, 1) := by decide +kernel
theorem dX7_leaves_116 : decode cX7_leaves 116 = .ok (.getfield 7, 3) := by decide +kernel
theorem dX7_leaves_119 : decode cX7_leaves 119 = .ok (.sipush 152, 3) := by decide +kernel
theorem dX7_leaves_122 : decode cX7_leaves 122 = .ok (.iload_n 3, 1) := by decide +kernel
theorem dX7_leaves_123 : decode cX7_leaves 123 = .ok (.iadd, 1) := by decide +kernel
theorem dX7_leaves_124 : decode cX7_leaves 124 = .ok (.iaload, 1) := by decide +kernel
theorem dX7_leaves_125 : decode cX7_leaves 125 = .ok (.iconst 2, 1) := by decide +kernel
theorem dX7_leaves_126 : decode cX7_leaves 126 = .ok (.idiv, 1) := by decide +kernel
theorem dX7_leaves_127 : decode cX7_leaves 127 = .ok (.iload_n 1, 1) := by decide +kernel
theorem dX7_leaves_128 : decode cX7_leaves 128 = .ok (.if_icmp .eq 26, 3) := by decide +kernel
theorem dX7_leaves_131 : decode cX7_leaves 131 = .ok (.aload_n 0, 1) := by decide +kernel
theorem dX7_leaves_132 : decode cX7_leaves 132 = .ok (.getfield 7, 3) := by decide +kernel
theorem dX7_leaves_135 : decode cX7_leaves 135 = .ok (.sipush 152, 3) := by decide +kernel
theorem dX7_leaves_138 : decode cX7_leaves 138 = .ok (.iload_n 2, 1) := by decide +kernel
theorem dX7_leaves_139 : decode cX7_leaves 139 = .ok (.iadd, 1) := by decide +kernel
theorem dX7_leaves_140 : decode cX7_leaves 140 = .ok (.aload_n 0, 1) := by decide +kernel
theorem dX7_leaves_141 : decode cX7_leaves 141 = .ok (.getfield 7, 3) := by decide +kernel
theorem dX7_leaves_144 : decode cX7_leaves 144 = .ok (.sipush 152, 3) := by decide +kernel
theorem dX7_leaves_147 : decode cX7_leaves 147 = .ok (.iload_n 3, 1) := by decide +kernel
theorem dX7_leaves_148 : decode cX7_leaves 148 = .ok (.iadd, 1) := by decide +kernel
theorem dX7_leaves_149 : decode cX7_leaves 149 = .ok (.iaload, 1) := by decide +kernel
theorem dX7_leaves_150 : decode cX7_leaves 150 = .ok (.iastore, 1) := by decide +kernel
theorem dX7_leaves_151 : decode cX7_leaves 151 = .ok (.iinc 2 1, 3) := by decide +kernel
theorem dX7_leaves_154 : decode cX7_leaves 154 = .ok (.iinc 3 1, 3) := by decide +kernel
theorem dX7_leaves_157 : decode cX7_leaves 157 = .ok (.goto (-52), 3) := by decide +kernel
theorem dX7_leaves_160 : decode cX7_leaves 160 = .ok (.iload_n 2, 1) := by decide +kernel
theorem dX7_leaves_161 : decode cX7_leaves 161 = .ok (.istore_n 3, 1) := by decide +kernel
theorem dX7_leaves_162 : decode cX7_leaves 162 = .ok (.iload_n 3, 1) := by decide +kernel
theorem dX7_leaves_163 : decode cX7_leaves 163 = .ok (.aload_n 0, 1) := by decide +kernel
theorem dX7_leaves_164 : decode cX7_leaves 164 = .ok (.getfield 7, 3) := by decide +kernel
theorem dX7_leaves_167 : decode cX7_leaves 167 = .ok (.iconst 5, 1) := by decide +kernel
theorem dX7_leaves_168 : decode cX7_leaves 168 = .ok (.iaload, 1) := by decide +kernel
theorem dX7_leaves_169 : decode cX7_leaves 169 = .ok (.if_icmp .ge 20, 3) := by decide +kernel
theorem dX7_leaves_172 : decode cX7_leaves 172 = .ok (.aload_n 0, 1) := by decide +kernel
theorem dX7_leaves_173 : decode cX7_leaves 173 = .ok (.getfield 7, 3) := by decide +kernel
theorem dX7_leaves_176 : decode cX7_leaves 176 = .ok (.sipush 152, 3) := by decide +kernel
theorem dX7_leaves_179 : decode cX7_leaves 179 = .ok (.iload_n 3, 1) := by decide +kernel
theorem dX7_leaves_180 : decode cX7_leaves 180 = .ok (.iadd, 1) := by decide +kernel
theorem dX7_leaves_181 : decode cX7_leaves 181 = .ok (.iconst 0, 1) := by decide +kernel
theorem dX7_leaves_182 : decode cX7_leaves 182 = .ok (.iastore, 1) := by decide +kernel
theorem dX7_leaves_183 : decode cX7_leaves 183 = .ok (.iinc 3 1, 3) := by decide +kernel
theorem dX7_leaves_186 : decode cX7_leaves 186 = .ok (.goto (-24), 3) := by decide +kernel
theorem dX7_leaves_189 : decode cX7_leaves 189 = .ok (.aload_n 0, 1) := by decide +kernel
theorem dX7_leaves_190 : decode cX7_leaves 190 = .ok (.getfield 7, 3) := by decide +kernel
theorem dX7_leaves_193 : decode cX7_leaves 193 = .ok (.iconst 5, 1) := by decide +kernel
theorem dX7_leaves_194 : decode cX7_leaves 194 = .ok (.iload_n 2, 1) := by decide +kernel
theorem dX7_leaves_195 : decode cX7_leaves 195 = .ok (.iastore, 1) := by decide +kernel
theorem dX7_leaves_196 : decode cX7_leaves 196 = .ok (.return_, 1) := by decide +kernel
set_option maxRecDepth 20000 in
theorem ggX7_leaves_X7_stopOf : GoodIn wsX7_leaves wsX7_stopOf := goodIn_r _ [10, 11, 12, 13, 5, 14, 1, 22, 23, 24, 25, 26, 27, 28, 29, 30, 31, 32, 33, 34, 35, 36, 37, 38, 39, 40, 41, 42, 43, 44, 45, 46, 47] (by decide +kernel) (by decide +kernel)
set_option maxRecDepth 20000 in
theorem gX7_leaves_X7_stopOf : GoodIn wsX7_leaves (wsV RX7 79 RX7 yX7_stopOf wsX7_stopOf) := goodIn_app (goodIn_of _ (by decide +kernel)) ggX7_leaves_X7_stopOf
set_option maxRecDepth 20000 in
theorem ggX7_leaves_X7_isOnWay : GoodIn wsX7_leaves wsX7_isOnWay := goodIn_r _ [6, 1, 22, 23, 24, 25, 26, 27, 28, 29, 30, 31, 32, 33, 34, 35, 36, 37, 38, 39, 40, 41, 42, 43, 44, 45, 46, 47] (by decide +kernel) (by decide +kernel)
set_option maxRecDepth 20000 in
theorem gX7_leaves_X7_isOnWay : GoodIn wsX7_leaves (wsV RX7 119 RX7 yX7_isOnWay wsX7_isOnWay) := goodIn_app (goodIn_of _ (by decide +kernel)) ggX7_leaves_X7_isOnWay
set_option maxRecDepth 20000 in
theorem ggX7_leaves_X7_drive : GoodIn wsX7_leaves wsX7_drive := goodIn_r _ [18, 1, 19, 20, 5, 21, 22, 23, 24, 25, 26, 27, 28, 29, 30, 31, 32, 33, 34, 35, 36, 37, 38, 39, 40, 41, 42, 43, 44, 45, 46, 47] (by decide +kernel) (by decide +kernel)
set_option maxRecDepth 20000 in
theorem gX7_leaves_X7_drive : GoodIn wsX7_leaves (wsV RX7 62 RX7 yX7_drive wsX7_drive) := goodIn_app (goodIn_of _ (by decide +kernel)) ggX7_leaves_X7_drive
theorem kX7_leaves_1 : Cond.fieldLink RX7 7 "BookedDetoursModel" "s" "[I" ∈ wsX7_leaves := List.mem_of_getElem? (i := 1) (by decide +kernel)
theorem hX7_leaves_X7 : ∀ w ∈ u_ws RX7 TX7 26, w ∈ wsX7_leaves := fun _ h => List.mem_cons_of_mem _ (List.mem_append_right _ h)
set_option maxHeartbeats 4000000 in
set_option maxRecDepth 100000 in
theorem w_X7_leaves_154 {Z : yZ} (g : yG) (M : Nat → Nat) (ri : Int32) (C : yC Z g cX7_leaves 4 wsX7_leaves RX7) {post : List va_W → Prop} (HR : yRv Z ({ frames := 2, cells := 0, slots := 0, locals := 43 } : Room) cX7_leaves post 0 0) {X105 : MV → Int32 → Int32 → Prop} {X162 : MV → Int32 → Int32 → Prop} (hX105 : ∀ (m : MV) (x2 : Int32) (x3 : Int32), X105 m x2 x3 → yJ Z ({ frames := 2, cells := 0, slots := 0, locals := 43 } : Room) 0 0 ([modW g M m] : List va_W) 105 [(0, .ref (M 0)), (1, .int ri), (2, .int x2), (3, .int x3)] []) (hX162 : ∀ (m : MV) (x2 : Int32) (x3 : Int32), X162 m x2 x3 → yJ Z ({ frames := 2, cells := 0, slots := 0, locals := 43 } : Room) 0 0 ([modW g M m] : List va_W) 162 [(0, .ref (M 0)), (2, .int x2), (3, .int x3)] []) {K : MV → Prop} (hK : ∀ (m : MV), K m → post ([modW g M m] : List va_W)) (m : MV) (x2 : Int32) (x3 : Int32) (h : wp_X7_leaves_154 ri X105 X162 K m x2 x3) : yJ Z ({ frames := 2, cells := 0, slots := 0, locals := 43 } : Room) 0 0 ([modW g M m] : List va_W) 154 [(0, .ref (M 0)), (1, .int ri), (2, .int x2), (3, .int x3)] [] := by
  unfold wp_X7_leaves_154 at h
  refine y_iinc (v := (x3 + (1 : Int32))) (lv' := [(3, .int (x3 + (1 : Int32))), (0, .ref (M 0)), (1, .int ri), (2, .int x2)]) C dX7_leaves_154 3 rfl rfl (Nat.le_of_ble_eq_true rfl) rfl ?_
  refine y_goto (tgt := 105) C dX7_leaves_157 rfl ?_
  refine y_sub (lv' := [(0, .ref (M 0)), (1, .int ri), (2, .int x2), (3, .int (x3 + (1 : Int32)))]) [1, 2, 3, 0] rfl ?_
  exact hX105 _ _ _ h
set_option maxHeartbeats 4000000 in
set_option maxRecDepth 100000 in
theorem w_X7_leaves_101 {Z : yZ} (g : yG) (M : Nat → Nat) (ri : Int32) (C : yC Z g cX7_leaves 4 wsX7_leaves RX7) {post : List va_W → Prop} (HR : yRv Z ({ frames := 2, cells := 0, slots := 0, locals := 43 } : Room) cX7_leaves post 0 0) {X105 : MV → Int32 → Int32 → Prop} {X162 : MV → Int32 → Int32 → Prop} (hX105 : ∀ (m : MV) (x2 : Int32) (x3 : Int32), X105 m x2 x3 → yJ Z ({ frames := 2, cells := 0, slots := 0, locals := 43 } : Room) 0 0 ([modW g M m] : List va_W) 105 [(0, .ref (M 0)), (1, .int ri), (2, .int x2), (3, .int x3)] []) (hX162 : ∀ (m : MV) (x2 : Int32) (x3 : Int32), X162 m x2 x3 → yJ Z ({ frames := 2, cells := 0, slots := 0, locals := 43 } : Room) 0 0 ([modW g M m] : List va_W) 162 [(0, .ref (M 0)), (2, .int x2), (3, .int x3)] []) {K : MV → Prop} (hK : ∀ (m : MV), K m → post ([modW g M m] : List va_W)) (m : MV) (h : wp_X7_leaves_101 ri X105 X162 K m) : yJ Z ({ frames := 2, cells := 0, slots := 0, locals := 43 } : Room) 0 0 ([modW g M m] : List va_W) 101 [(0, .ref (M 0)), (1, .int ri)] [] := by
  unfold wp_X7_leaves_101 at h
  refine y_iconst (v := 0) C dX7_leaves_101 (by decide) ?_
  refine y_istore_n (lv' := [(2, .int (0 : Int32)), (0, .ref (M 0)), (1, .int ri)]) C dX7_leaves_102 rfl (Nat.le_of_ble_eq_true rfl) rfl ?_
  refine y_iconst (v := 0) C dX7_leaves_103 (by decide) ?_
  refine y_istore_n (lv' := [(3, .int (0 : Int32)), (2, .int (0 : Int32)), (0, .ref (M 0)), (1, .int ri)]) C dX7_leaves_104 rfl (Nat.le_of_ble_eq_true rfl) rfl ?_
  refine y_sub (lv' := [(0, .ref (M 0)), (1, .int ri), (2, .int (0 : Int32)), (3, .int (0 : Int32))]) [2, 3, 1, 0] rfl ?_
  exact hX105 _ _ _ h
set_option maxHeartbeats 4000000 in
set_option maxRecDepth 100000 in
theorem w_X7_leaves_82 {Z : yZ} (g : yG) (M : Nat → Nat) (ri : Int32) (C : yC Z g cX7_leaves 4 wsX7_leaves RX7) {post : List va_W → Prop} (HR : yRv Z ({ frames := 2, cells := 0, slots := 0, locals := 43 } : Room) cX7_leaves post 0 0) {X105 : MV → Int32 → Int32 → Prop} {X162 : MV → Int32 → Int32 → Prop} (hX105 : ∀ (m : MV) (x2 : Int32) (x3 : Int32), X105 m x2 x3 → yJ Z ({ frames := 2, cells := 0, slots := 0, locals := 43 } : Room) 0 0 ([modW g M m] : List va_W) 105 [(0, .ref (M 0)), (1, .int ri), (2, .int x2), (3, .int x3)] []) (hX162 : ∀ (m : MV) (x2 : Int32) (x3 : Int32), X162 m x2 x3 → yJ Z ({ frames := 2, cells := 0, slots := 0, locals := 43 } : Room) 0 0 ([modW g M m] : List va_W) 162 [(0, .ref (M 0)), (2, .int x2), (3, .int x3)] []) {K : MV → Prop} (hK : ∀ (m : MV), K m → post ([modW g M m] : List va_W)) (m : MV) (h : wp_X7_leaves_82 ri X105 X162 K m) : yJ Z ({ frames := 2, cells := 0, slots := 0, locals := 43 } : Room) 0 0 ([modW g M m] : List va_W) 82 [(0, .ref (M 0)), (1, .int ri)] [] := by
  unfold wp_X7_leaves_82 at h
  refine y_aload_n C dX7_leaves_82 0 rfl rfl ?_
  refine y_get (Cn := RX7) (T := TX7) (N := 26) (v := .ref (M 1)) C dX7_leaves_83 hX7_leaves_X7 0 (sh_5000 g M m) rfl 1 (Nat.le_of_ble_eq_true rfl) kX7_leaves_1 rfl ?_
  refine y_bipush (v := 7) C dX7_leaves_86 (by decide) ?_
  refine y_aload_n C dX7_leaves_88 0 rfl rfl ?_
  refine y_aload_n C dX7_leaves_89 0 rfl rfl ?_
  refine y_get (Cn := RX7) (T := TX7) (N := 26) (v := .ref (M 1)) C dX7_leaves_90 hX7_leaves_X7 0 (sh_5000 g M m) rfl 1 (Nat.le_of_ble_eq_true rfl) kX7_leaves_1 rfl ?_
  refine y_sipush (v := 152) C dX7_leaves_93 (by decide) ?_
  obtain ⟨hb1, h⟩ := h
  refine y_iald (N := 186) (f := (m.2 1)) C dX7_leaves_96 1 (sh_5001 g M m) hb1 ?_
  refine y_callV (As := [.int ((m.2 1) (152 : Int32).toNatClampNeg)]) (rest := [.int (7 : Int32), .ref (M 1)]) C dX7_leaves_97 (u_X7_stopOf g M m ((m.2 1) (152 : Int32).toNatClampNeg) h) rfl rfl rfl rfl ⟨Nat.le_of_ble_eq_true rfl, Nat.le_of_ble_eq_true rfl⟩ gX7_leaves_X7_stopOf (nA := 1) (by decide +kernel) rfl (sh_5010 g M m) (Nat.le_of_ble_eq_true rfl) ⟨Nat.le_of_ble_eq_true rfl, Nat.le_of_ble_eq_true rfl⟩ [0] [] (nB := 1) rfl (by decide +kernel) (sh_5009 g M m) (fun r2 w9 hw => ?_)
  obtain ⟨h, rfl⟩ := hw
  refine ⟨([modW g M m] : List va_W), ⟨(sh_5009 g M m), rfl, rfl⟩, ?_⟩
  obtain ⟨hb3, h⟩ := h
  obtain ⟨m4, em4⟩ : ∃ z : MV, z = mA m 1 (7 : Int32).toNatClampNeg r2 := ⟨_, rfl⟩
  have h := y_letP h em4
  refine y_iast (N := 186) (f := (m.2 1)) (L1 := ([modW g M m4] : List va_W)) C dX7_leaves_100 1 (sh_5001 g M m) hb3 (sh_5003 g M m (7 : Int32).toNatClampNeg r2 m4 em4) ?_
  refine y_sub (lv' := [(0, .ref (M 0)), (1, .int ri)]) [0, 1] rfl ?_
  exact w_X7_leaves_101 g M ri C HR hX105 hX162 hK _ h
set_option maxHeartbeats 4000000 in
set_option maxRecDepth 100000 in
theorem w_X7_leaves_105 {Z : yZ} (g : yG) (M : Nat → Nat) (ri : Int32) (C : yC Z g cX7_leaves 4 wsX7_leaves RX7) {post : List va_W → Prop} (HR : yRv Z ({ frames := 2, cells := 0, slots := 0, locals := 43 } : Room) cX7_leaves post 0 0) {X105 : MV → Int32 → Int32 → Prop} {X162 : MV → Int32 → Int32 → Prop} (hX105 : ∀ (m : MV) (x2 : Int32) (x3 : Int32), X105 m x2 x3 → yJ Z ({ frames := 2, cells := 0, slots := 0, locals := 43 } : Room) 0 0 ([modW g M m] : List va_W) 105 [(0, .ref (M 0)), (1, .int ri), (2, .int x2), (3, .int x3)] []) (hX162 : ∀ (m : MV) (x2 : Int32) (x3 : Int32), X162 m x2 x3 → yJ Z ({ frames := 2, cells := 0, slots := 0, locals := 43 } : Room) 0 0 ([modW g M m] : List va_W) 162 [(0, .ref (M 0)), (2, .int x2), (3, .int x3)] []) {K : MV → Prop} (hK : ∀ (m : MV), K m → post ([modW g M m] : List va_W)) (m : MV) (x2 : Int32) (x3 : Int32) (h : wp_X7_leaves_105 ri X105 X162 K m x2 x3) : yJ Z ({ frames := 2, cells := 0, slots := 0, locals := 43 } : Room) 0 0 ([modW g M m] : List va_W) 105 [(0, .ref (M 0)), (1, .int ri), (2, .int x2), (3, .int x3)] [] := by
  unfold wp_X7_leaves_105 at h
  refine y_iload_n C dX7_leaves_105 3 rfl rfl ?_
  refine y_aload_n C dX7_leaves_106 0 rfl rfl ?_
  refine y_get (Cn := RX7) (T := TX7) (N := 26) (v := .ref (M 1)) C dX7_leaves_107 hX7_leaves_X7 0 (sh_5000 g M m) rfl 1 (Nat.le_of_ble_eq_true rfl) kX7_leaves_1 rfl ?_
  refine y_iconst (v := 5) C dX7_leaves_110 (by decide) ?_
  obtain ⟨hb1, h⟩ := h
  refine y_iald (N := 186) (f := (m.2 1)) C dX7_leaves_111 1 (sh_5001 g M m) hb1 ?_
  refine y_icmp_ge (tgt := 160) C dX7_leaves_112 rfl h (fun c112 h => ?_) (fun c112 h => ?_)
  · refine y_iload_n C dX7_leaves_160 2 rfl rfl ?_
    refine y_istore_n (lv' := [(3, .int x2), (0, .ref (M 0)), (1, .int ri), (2, .int x2)]) C dX7_leaves_161 rfl (Nat.le_of_ble_eq_true rfl) rfl ?_
    refine y_sub (lv' := [(0, .ref (M 0)), (2, .int x2), (3, .int x2)]) [1, 3, 0] rfl ?_
    exact hX162 _ _ _ h
  · refine y_aload_n C dX7_leaves_115 0 rfl rfl ?_
    refine y_get (Cn := RX7) (T := TX7) (N := 26) (v := .ref (M 1)) C dX7_leaves_116 hX7_leaves_X7 0 (sh_5000 g M m) rfl 1 (Nat.le_of_ble_eq_true rfl) kX7_leaves_1 rfl ?_
    refine y_sipush (v := 152) C dX7_leaves_119 (by decide) ?_
    refine y_iload_n C dX7_leaves_122 3 rfl rfl ?_
    refine y_iadd C dX7_leaves_123 ?_
    obtain ⟨hb2, h⟩ := h
    refine y_iald (N := 186) (f := (m.2 1)) C dX7_leaves_124 1 (sh_5001 g M m) hb2 ?_
    refine y_iconst (v := 2) C dX7_leaves_125 (by decide) ?_
    refine y_idiv C dX7_leaves_126 (by decide) ?_
    refine y_iload_n C dX7_leaves_127 1 rfl rfl ?_
    refine y_icmp_eq (tgt := 154) C dX7_leaves_128 rfl h (fun c128 h => ?_) (fun c128 h => ?_)
    · refine y_sub (lv' := [(0, .ref (M 0)), (1, .int ri), (2, .int x2), (3, .int x3)]) [0, 1, 2, 3] rfl ?_
      exact w_X7_leaves_154 g M ri C HR hX105 hX162 hK _ _ _ h
    · refine y_aload_n C dX7_leaves_131 0 rfl rfl ?_
      refine y_get (Cn := RX7) (T := TX7) (N := 26) (v := .ref (M 1)) C dX7_leaves_132 hX7_leaves_X7 0 (sh_5000 g M m) rfl 1 (Nat.le_of_ble_eq_true rfl) kX7_leaves_1 rfl ?_
      refine y_sipush (v := 152) C dX7_leaves_135 (by decide) ?_
      refine y_iload_n C dX7_leaves_138 2 rfl rfl ?_
      refine y_iadd C dX7_leaves_139 ?_
      refine y_aload_n C dX7_leaves_140 0 rfl rfl ?_
      refine y_get (Cn := RX7) (T := TX7) (N := 26) (v := .ref (M 1)) C dX7_leaves_141 hX7_leaves_X7 0 (sh_5000 g M m) rfl 1 (Nat.le_of_ble_eq_true rfl) kX7_leaves_1 rfl ?_
      refine y_sipush (v := 152) C dX7_leaves_144 (by decide) ?_
      refine y_iload_n C dX7_leaves_147 3 rfl rfl ?_
      refine y_iadd C dX7_leaves_148 ?_
      obtain ⟨hb3, h⟩ := h
      refine y_iald (N := 186) (f := (m.2 1)) C dX7_leaves_149 1 (sh_5001 g M m) hb3 ?_
      obtain ⟨hb4, h⟩ := h
      obtain ⟨m5, em5⟩ : ∃ z : MV, z = mA m 1 ((152 : Int32) + x2).toNatClampNeg ((m.2 1) ((152 : Int32) + x3).toNatClampNeg) := ⟨_, rfl⟩
      have h := y_letP h em5
      refine y_iast (N := 186) (f := (m.2 1)) (L1 := ([modW g M m5] : List va_W)) C dX7_leaves_150 1 (sh_5001 g M m) hb4 (sh_5003 g M m ((152 : Int32) + x2).toNatClampNeg ((m.2 1) ((152 : Int32) + x3).toNatClampNeg) m5 em5) ?_
      refine y_iinc (v := (x2 + (1 : Int32))) (lv' := [(2, .int (x2 + (1 : Int32))), (0, .ref (M 0)), (1, .int ri), (3, .int x3)]) C dX7_leaves_151 2 rfl rfl (Nat.le_of_ble_eq_true rfl) rfl ?_
      refine y_sub (lv' := [(0, .ref (M 0)), (1, .int ri), (2, .int (x2 + (1 : Int32))), (3, .int x3)]) [1, 2, 0, 3] rfl ?_
      exact w_X7_leaves_154 g M ri C HR hX105 hX162 hK _ _ _ h
set_option maxHeartbeats 4000000 in
set_option maxRecDepth 100000 in
theorem w_X7_leaves_162 {Z : yZ} (g : yG) (M : Nat → Nat) (ri : Int32) (C : yC Z g cX7_leaves 4 wsX7_leaves RX7) {post : List va_W → Prop} (HR : yRv Z ({ frames := 2, cells := 0, slots := 0, locals := 43 } : Room) cX7_leaves post 0 0) {X105 : MV → Int32 → Int32 → Prop} {X162 : MV → Int32 → Int32 → Prop} (hX105 : ∀ (m : MV) (x2 : Int32) (x3 : Int32), X105 m x2 x3 → yJ Z ({ frames := 2, cells := 0, slots := 0, locals := 43 } : Room) 0 0 ([modW g M m] : List va_W) 105 [(0, .ref (M 0)), (1, .int ri), (2, .int x2), (3, .int x3)] []) (hX162 : ∀ (m : MV) (x2 : Int32) (x3 : Int32), X162 m x2 x3 → yJ Z ({ frames := 2, cells := 0, slots := 0, locals := 43 } : Room) 0 0 ([modW g M m] : List va_W) 162 [(0, .ref (M 0)), (2, .int x2), (3, .int x3)] []) {K : MV → Prop} (hK : ∀ (m : MV), K m → post ([modW g M m] : List va_W)) (m : MV) (x2 : Int32) (x3 : Int32) (h : wp_X7_leaves_162 ri X105 X162 K m x2 x3) : yJ Z ({ frames := 2, cells := 0, slots := 0, locals := 43 } : Room) 0 0 ([modW g M m] : List va_W) 162 [(0, .ref (M 0)), (2, .int x2), (3, .int x3)] [] := by
  unfold wp_X7_leaves_162 at h
  refine y_iload_n C dX7_leaves_162 2 rfl rfl ?_
  refine y_aload_n C dX7_leaves_163 0 rfl rfl ?_
  refine y_get (Cn := RX7) (T := TX7) (N := 26) (v := .ref (M 1)) C dX7_leaves_164 hX7_leaves_X7 0 (sh_5000 g M m) rfl 1 (Nat.le_of_ble_eq_true rfl) kX7_leaves_1 rfl ?_
  refine y_iconst (v := 5) C dX7_leaves_167 (by decide) ?_
  obtain ⟨hb1, h⟩ := h
  refine y_iald (N := 186) (f := (m.2 1)) C dX7_leaves_168 1 (sh_5001 g M m) hb1 ?_
  refine y_icmp_ge (tgt := 189) C dX7_leaves_169 rfl h (fun c169 h => ?_) (fun c169 h => ?_)
  · refine y_aload_n C dX7_leaves_189 0 rfl rfl ?_
    refine y_get (Cn := RX7) (T := TX7) (N := 26) (v := .ref (M 1)) C dX7_leaves_190 hX7_leaves_X7 0 (sh_5000 g M m) rfl 1 (Nat.le_of_ble_eq_true rfl) kX7_leaves_1 rfl ?_
    refine y_iconst (v := 5) C dX7_leaves_193 (by decide) ?_
    refine y_iload_n C dX7_leaves_194 1 rfl rfl ?_
    obtain ⟨hb2, h⟩ := h
    obtain ⟨m3, em3⟩ : ∃ z : MV, z = mA m 1 (5 : Int32).toNatClampNeg x2 := ⟨_, rfl⟩
    have h := y_letP h em3
    refine y_iast (N := 186) (f := (m.2 1)) (L1 := ([modW g M m3] : List va_W)) C dX7_leaves_195 1 (sh_5001 g M m) hb2 (sh_5003 g M m (5 : Int32).toNatClampNeg x2 m3 em3) ?_
    exact HR 196 dX7_leaves_196 _ _ _ _ (Nat.le_of_ble_eq_true rfl) (Nat.le_of_ble_eq_true rfl) (hK _  h)
  · refine y_aload_n C dX7_leaves_172 0 rfl rfl ?_
    refine y_get (Cn := RX7) (T := TX7) (N := 26) (v := .ref (M 1)) C dX7_leaves_173 hX7_leaves_X7 0 (sh_5000 g M m) rfl 1 (Nat.le_of_ble_eq_true rfl) kX7_leaves_1 rfl ?_
    refine y_sipush (v := 152) C dX7_leaves_176 (by decide) ?_
    refine y_iload_n C dX7_leaves_179 2 rfl rfl ?_
    refine y_iadd C dX7_leaves_180 ?_
    refine y_iconst (v := 0) C dX7_leaves_181 (by decide) ?_
    obtain ⟨hb4, h⟩ := h
    obtain ⟨m5, em5⟩ : ∃ z : MV, z = mA m 1 ((152 : Int32) + x3).toNatClampNeg (0 : Int32) := ⟨_, rfl⟩
    have h := y_letP h em5
    refine y_iast (N := 186) (f := (m.2 1)) (L1 := ([modW g M m5] : List va_W)) C dX7_leaves_182 1 (sh_5001 g M m) hb4 (sh_5003 g M m ((152 : Int32) + x3).toNatClampNeg (0 : Int32) m5 em5) ?_
    refine y_iinc (v := (x3 + (1 : Int32))) (lv' := [(3, .int (x3 + (1 : Int32))), (0, .ref (M 0)), (2, .int x2)]) C dX7_leaves_183 2 rfl rfl (Nat.le_of_ble_eq_true rfl) rfl ?_
    refine y_goto (tgt := 162) C dX7_leaves_186 rfl ?_
    refine y_sub (lv' := [(0, .ref (M 0)), (2, .int x2), (3, .int (x3 + (1 : Int32)))]) [1, 2, 0] rfl ?_
    exact hX162 _ _ _ h
set_option maxHeartbeats 4000000 in
set_option maxRecDepth 100000 in
theorem l_X7_leaves {Z : yZ} (g : yG) (M : Nat → Nat) (ri : Int32) (C : yC Z g cX7_leaves 4 wsX7_leaves RX7) {post : List va_W → Prop} (HR : yRv Z ({ frames := 2, cells := 0, slots := 0, locals := 43 } : Room) cX7_leaves post 0 0) {K : MV → Prop} (hK : ∀ (m : MV), K m → post ([modW g M m] : List va_W)) {I105 : Nat → MV → Int32 → Int32 → Prop} {I162 : Nat → MV → Int32 → Int32 → Prop} (o105 : ∀ (w0 : Nat) (m : MV) (x2 : Int32) (x3 : Int32), I105 w0 m x2 x3 → wp_X7_leaves_105 ri (fun (m9 : MV) (x29 : Int32) (x39 : Int32) => ∃ w9, w9 < w0 ∧ I105 w9 m9 x29 x39) (fun (m9 : MV) (x29 : Int32) (x39 : Int32) => ∃ w9, w9 < w0 ∧ I162 w9 m9 x29 x39) K m x2 x3) (o162 : ∀ (w0 : Nat) (m : MV) (x2 : Int32) (x3 : Int32), I162 w0 m x2 x3 → wp_X7_leaves_162 ri (fun (m9 : MV) (x29 : Int32) (x39 : Int32) => ∃ w9, w9 < w0 ∧ I105 w9 m9 x29 x39) (fun (m9 : MV) (x29 : Int32) (x39 : Int32) => ∃ w9, w9 < w0 ∧ I162 w9 m9 x29 x39) K m x2 x3) : ∀ w0 : Nat, (∀ (m : MV) (x2 : Int32) (x3 : Int32), I105 w0 m x2 x3 → yJ Z ({ frames := 2, cells := 0, slots := 0, locals := 43 } : Room) 0 0 ([modW g M m] : List va_W) 105 [(0, .ref (M 0)), (1, .int ri), (2, .int x2), (3, .int x3)] []) ∧ (∀ (m : MV) (x2 : Int32) (x3 : Int32), I162 w0 m x2 x3 → yJ Z ({ frames := 2, cells := 0, slots := 0, locals := 43 } : Room) 0 0 ([modW g M m] : List va_W) 162 [(0, .ref (M 0)), (2, .int x2), (3, .int x3)] []) := by
  intro w0
  induction w0 using Nat.strongRecOn with
  | _ w0 ih =>
    exact ⟨fun m x2 x3 hi => w_X7_leaves_105 g M ri C HR (fun m x2 x3 hq => by obtain ⟨w9, hlt, hi⟩ := hq; exact (ih w9 hlt).1 m x2 x3 hi) (fun m x2 x3 hq => by obtain ⟨w9, hlt, hi⟩ := hq; exact (ih w9 hlt).2 m x2 x3 hi) hK m x2 x3 (o105 w0 m x2 x3 hi), fun m x2 x3 hi => w_X7_leaves_162 g M ri C HR (fun m x2 x3 hq => by obtain ⟨w9, hlt, hi⟩ := hq; exact (ih w9 hlt).1 m x2 x3 hi) (fun m x2 x3 hq => by obtain ⟨w9, hlt, hi⟩ := hq; exact (ih w9 hlt).2 m x2 x3 hi) hK m x2 x3 (o162 w0 m x2 x3 hi)⟩
set_option maxHeartbeats 4000000 in
set_option maxRecDepth 100000 in
theorem t_X7_leaves (g : yG) (M : Nat → Nat) (m : MV) (ri : Int32) {post : List va_W → Prop} {K : MV → Prop} (hK : ∀ (m : MV), K m → post ([modW g M m] : List va_W)) (hPO : PO_X7_leaves ri K m ) : yMv g yX7_leaves wsX7_leaves ({ frames := 2, cells := 0, slots := 0, locals := 43 } : Room) [.ref (M 0), .int ri] ([modW g M m] : List va_W) post 0 0 := by
  refine y_entryV (cc := cX7_leaves) (maxL := 4) (by decide +kernel) rfl (Nat.le_of_ble_eq_true rfl) (fun Z C _ HR => ?_)
  have C : yC Z g cX7_leaves 4 wsX7_leaves RX7 := C
  obtain ⟨I105, I162, o105, o162, h⟩ := hPO
  have hX105 : ∀ (m : MV) (x2 : Int32) (x3 : Int32), (fun (m9 : MV) (x29 : Int32) (x39 : Int32) => ∃ w9, I105 w9 m9 x29 x39) m x2 x3 → yJ Z ({ frames := 2, cells := 0, slots := 0, locals := 43 } : Room) 0 0 ([modW g M m] : List va_W) 105 [(0, .ref (M 0)), (1, .int ri), (2, .int x2), (3, .int x3)] [] := by
    intro m x2 x3 hq
    obtain ⟨w9, hi⟩ := hq
    exact (l_X7_leaves g M ri C HR hK o105 o162 w9).1 m x2 x3 hi
  have hX162 : ∀ (m : MV) (x2 : Int32) (x3 : Int32), (fun (m9 : MV) (x29 : Int32) (x39 : Int32) => ∃ w9, I162 w9 m9 x29 x39) m x2 x3 → yJ Z ({ frames := 2, cells := 0, slots := 0, locals := 43 } : Room) 0 0 ([modW g M m] : List va_W) 162 [(0, .ref (M 0)), (2, .int x2), (3, .int x3)] [] := by
    intro m x2 x3 hq
    obtain ⟨w9, hi⟩ := hq
    exact (l_X7_leaves g M ri C HR hK o105 o162 w9).2 m x2 x3 hi
  unfold wp_X7_leaves_0 at h
  show yJ Z _ 0 0 _ 0 [(0, .ref (M 0)), (1, .int ri)] []
  refine y_aload_n C dX7_leaves_0 0 rfl rfl ?_
  refine y_callV (As := []) (rest := []) C dX7_leaves_1 (u_X7_isOnWay g M m h) rfl rfl rfl rfl ⟨Nat.le_of_ble_eq_true rfl, Nat.le_of_ble_eq_true rfl⟩ gX7_leaves_X7_isOnWay (nA := 0) (by decide +kernel) rfl (sh_5010 g M m) (Nat.le_of_ble_eq_true rfl) ⟨Nat.le_of_ble_eq_true rfl, Nat.le_of_ble_eq_true rfl⟩ [0] [] (nB := 1) rfl (by decide +kernel) (sh_5009 g M m) (fun r1 w9 hw => ?_)
  obtain ⟨h, rfl⟩ := hw
  refine ⟨([modW g M m] : List va_W), ⟨(sh_5009 g M m), rfl, rfl⟩, ?_⟩
  refine y_if_eq (tgt := 101) C dX7_leaves_4 rfl h (fun c4 h => ?_) (fun c4 h => ?_)
  · refine y_sub (lv' := [(0, .ref (M 0)), (1, .int ri)]) [0, 1] rfl ?_
    exact w_X7_leaves_101 g M ri C HR hX105 hX162 hK _ h
  · refine y_aload_n C dX7_leaves_7 0 rfl rfl ?_
    refine y_get (Cn := RX7) (T := TX7) (N := 26) (v := .ref (M 1)) C dX7_leaves_8 hX7_leaves_X7 0 (sh_5000 g M m) rfl 1 (Nat.le_of_ble_eq_true rfl) kX7_leaves_1 rfl ?_
    refine y_sipush (v := 152) C dX7_leaves_11 (by decide) ?_
    obtain ⟨hb2, h⟩ := h
    refine y_iald (N := 186) (f := (m.2 1)) C dX7_leaves_14 1 (sh_5001 g M m) hb2 ?_
    refine y_iconst (v := 2) C dX7_leaves_15 (by decide) ?_
    refine y_idiv C dX7_leaves_16 (by decide) ?_
    refine y_iload_n C dX7_leaves_17 1 rfl rfl ?_
    refine y_icmp_ne (tgt := 101) C dX7_leaves_18 rfl h (fun c18 h => ?_) (fun c18 h => ?_)
    · refine y_sub (lv' := [(0, .ref (M 0)), (1, .int ri)]) [0, 1] rfl ?_
      exact w_X7_leaves_101 g M ri C HR hX105 hX162 hK _ h
    · refine y_aload_n C dX7_leaves_21 0 rfl rfl ?_
      refine y_get (Cn := RX7) (T := TX7) (N := 26) (v := .ref (M 1)) C dX7_leaves_22 hX7_leaves_X7 0 (sh_5000 g M m) rfl 1 (Nat.le_of_ble_eq_true rfl) kX7_leaves_1 rfl ?_
      refine y_bipush (v := 8) C dX7_leaves_25 (by decide) ?_
      obtain ⟨hb3, h⟩ := h
      refine y_iald (N := 186) (f := (m.2 1)) C dX7_leaves_27 1 (sh_5001 g M m) hb3 ?_
      refine y_aload_n C dX7_leaves_28 0 rfl rfl ?_
      refine y_aload_n C dX7_leaves_29 0 rfl rfl ?_
      refine y_get (Cn := RX7) (T := TX7) (N := 26) (v := .ref (M 1)) C dX7_leaves_30 hX7_leaves_X7 0 (sh_5000 g M m) rfl 1 (Nat.le_of_ble_eq_true rfl) kX7_leaves_1 rfl ?_
      refine y_bipush (v := 7) C dX7_leaves_33 (by decide) ?_
      obtain ⟨hb4, h⟩ := h
      refine y_iald (N := 186) (f := (m.2 1)) C dX7_leaves_35 1 (sh_5001 g M m) hb4 ?_
      refine y_aload_n C dX7_leaves_36 0 rfl rfl ?_
      refine y_aload_n C dX7_leaves_37 0 rfl rfl ?_
      refine y_get (Cn := RX7) (T := TX7) (N := 26) (v := .ref (M 1)) C dX7_leaves_38 hX7_leaves_X7 0 (sh_5000 g M m) rfl 1 (Nat.le_of_ble_eq_true rfl) kX7_leaves_1 rfl ?_
      refine y_sipush (v := 152) C dX7_leaves_41 (by decide) ?_
      obtain ⟨hb5, h⟩ := h
      refine y_iald (N := 186) (f := (m.2 1)) C dX7_leaves_44 1 (sh_5001 g M m) hb5 ?_
      refine y_callV (As := [.int ((m.2 1) (152 : Int32).toNatClampNeg)]) (rest := [.int ((m.2 1) (7 : Int32).toNatClampNeg), .ref (M 0), .int ((m.2 1) (8 : Int32).toNatClampNeg)]) C dX7_leaves_45 (u_X7_stopOf g M m ((m.2 1) (152 : Int32).toNatClampNeg) h) rfl rfl rfl rfl ⟨Nat.le_of_ble_eq_true rfl, Nat.le_of_ble_eq_true rfl⟩ gX7_leaves_X7_stopOf (nA := 1) (by decide +kernel) rfl (sh_5010 g M m) (Nat.le_of_ble_eq_true rfl) ⟨Nat.le_of_ble_eq_true rfl, Nat.le_of_ble_eq_true rfl⟩ [0] [] (nB := 1) rfl (by decide +kernel) (sh_5009 g M m) (fun r6 w9 hw => ?_)
      obtain ⟨h, rfl⟩ := hw
      refine ⟨([modW g M m] : List va_W), ⟨(sh_5009 g M m), rfl, rfl⟩, ?_⟩
      refine y_callV (As := [.int ((m.2 1) (7 : Int32).toNatClampNeg), .int r6]) (rest := [.int ((m.2 1) (8 : Int32).toNatClampNeg)]) C dX7_leaves_48 (u_X7_drive g M m ((m.2 1) (7 : Int32).toNatClampNeg) r6 h) rfl rfl rfl rfl ⟨Nat.le_of_ble_eq_true rfl, Nat.le_of_ble_eq_true rfl⟩ gX7_leaves_X7_drive (nA := 2) (by decide +kernel) rfl (sh_5010 g M m) (Nat.le_of_ble_eq_true rfl) ⟨Nat.le_of_ble_eq_true rfl, Nat.le_of_ble_eq_true rfl⟩ [0] [] (nB := 1) rfl (by decide +kernel) (sh_5009 g M m) (fun r7 w9 hw => ?_)
      obtain ⟨h, rfl⟩ := hw
      refine ⟨([modW g M m] : List va_W), ⟨(sh_5009 g M m), rfl, rfl⟩, ?_⟩
      refine y_iadd C dX7_leaves_51 ?_
      refine y_istore_n (lv' := [(2, .int (((m.2 1) (8 : Int32).toNatClampNeg) + r7)), (0, .ref (M 0)), (1, .int ri)]) C dX7_leaves_52 rfl (Nat.le_of_ble_eq_true rfl) rfl ?_
      refine y_aload_n C dX7_leaves_53 1 rfl rfl ?_
      refine y_get (Cn := RX7) (T := TX7) (N := 26) (v := .ref (M 1)) C dX7_leaves_54 hX7_leaves_X7 0 (sh_5000 g M m) rfl 1 (Nat.le_of_ble_eq_true rfl) kX7_leaves_1 rfl ?_
      refine y_bipush (v := 8) C dX7_leaves_57 (by decide) ?_
      refine y_iload_n C dX7_leaves_59 0 rfl rfl ?_
      refine y_aload_n C dX7_leaves_60 1 rfl rfl ?_
      refine y_get (Cn := RX7) (T := TX7) (N := 26) (v := .ref (M 1)) C dX7_leaves_61 hX7_leaves_X7 0 (sh_5000 g M m) rfl 1 (Nat.le_of_ble_eq_true rfl) kX7_leaves_1 rfl ?_
      refine y_bipush (v := 6) C dX7_leaves_64 (by decide) ?_
      obtain ⟨hb8, h⟩ := h
      refine y_iald (N := 186) (f := (m.2 1)) C dX7_leaves_66 1 (sh_5001 g M m) hb8 ?_
      refine y_icmp_le (tgt := 74) C dX7_leaves_67 rfl h (fun c67 h => ?_) (fun c67 h => ?_)
      · refine y_aload_n C dX7_leaves_74 1 rfl rfl ?_
        refine y_get (Cn := RX7) (T := TX7) (N := 26) (v := .ref (M 1)) C dX7_leaves_75 hX7_leaves_X7 0 (sh_5000 g M m) rfl 1 (Nat.le_of_ble_eq_true rfl) kX7_leaves_1 rfl ?_
        refine y_bipush (v := 6) C dX7_leaves_78 (by decide) ?_
        obtain ⟨hb9, h⟩ := h
        refine y_iald (N := 186) (f := (m.2 1)) C dX7_leaves_80 1 (sh_5001 g M m) hb9 ?_
        obtain ⟨hb10, h⟩ := h
        obtain ⟨m11, em11⟩ : ∃ z : MV, z = mA m 1 (8 : Int32).toNatClampNeg ((m.2 1) (6 : Int32).toNatClampNeg) := ⟨_, rfl⟩
        have h := y_letP h em11
        refine y_iast (N := 186) (f := (m.2 1)) (L1 := ([modW g M m11] : List va_W)) C dX7_leaves_81 1 (sh_5001 g M m) hb10 (sh_5003 g M m (8 : Int32).toNatClampNeg ((m.2 1) (6 : Int32).toNatClampNeg) m11 em11) ?_
        refine y_sub (lv' := [(0, .ref (M 0)), (1, .int ri)]) [1, 2] rfl ?_
        exact w_X7_leaves_82 g M ri C HR hX105 hX162 hK _ h
      · refine y_iload_n C dX7_leaves_70 0 rfl rfl ?_
        refine y_goto (tgt := 81) C dX7_leaves_71 rfl ?_
        obtain ⟨hb12, h⟩ := h
        obtain ⟨m13, em13⟩ : ∃ z : MV, z = mA m 1 (8 : Int32).toNatClampNeg (((m.2 1) (8 : Int32).toNatClampNeg) + r7) := ⟨_, rfl⟩
        have h := y_letP h em13
        refine y_iast (N := 186) (f := (m.2 1)) (L1 := ([modW g M m13] : List va_W)) C dX7_leaves_81 1 (sh_5001 g M m) hb12 (sh_5003 g M m (8 : Int32).toNatClampNeg (((m.2 1) (8 : Int32).toNatClampNeg) + r7) m13 em13) ?_
        refine y_sub (lv' := [(0, .ref (M 0)), (1, .int ri)]) [1, 2] rfl ?_
        exact w_X7_leaves_82 g M ri C HR hX105 hX162 hK _ h
theorem u_X7_leaves (g : yG) (M : Nat → Nat) (m : MV) (ri : Int32) {K : MV → Prop} (hPO : PO_X7_leaves ri K m ) : yMv g yX7_leaves wsX7_leaves ({ frames := 2, cells := 0, slots := 0, locals := 43 } : Room) [.ref (M 0), .int ri] ([modW g M m] : List va_W) (fun w => ∃ m' : MV, K m' ∧ w = ([modW g M m'] : List va_W)) 0 0 :=
  t_X7_leaves g M m ri (fun m hk => ⟨m, hk, rfl⟩) hPO
