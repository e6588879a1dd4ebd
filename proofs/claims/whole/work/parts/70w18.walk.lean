theorem dX7_put_0 : decode cX7_put 0 = .ok (.aload_n 0, 1) := by decide +kernel
theorem dX7_put_1 : decode cX7_put 1 = .ok (.iconst 0, 1) := by decide +kernel
theorem dX7_put_2 : decode cX7_put 2 = .ok (.putfield 44, 3) := by decide +kernel
theorem dX7_put_5 : decode cX7_put 5 = .ok (.iconst 0, 1) := by decide +kernel
theorem dX7_put_6 : decode cX7_put 6 = .ok (.istore_n 3, 1) := by decide +kernel
theorem dX7_put_7 : decode cX7_put 7 = .ok (.lload_n 1, 1) := by decide +kernel
theorem dX7_put_8 : decode cX7_put 8 = .ok (.lstore 4, 2) := by decide +kernel
theorem dX7_put_10 : decode cX7_put 10 = .ok (.iconst 1, 1) := by decide +kernel
theorem dX7_put_11 : decode cX7_put 11 = .ok (.istore 6, 2) := by decide +kernel
theorem dX7_put_13 : decode cX7_put 13 = .ok (.iload_n 3, 1) := by decide +kernel
theorem dX7_put_14 : decode cX7_put 14 = .ok (.bipush 8, 2) := by decide +kernel
theorem dX7_put_16 : decode cX7_put 16 = .ok (.if_icmp .ge 56, 3) := by decide +kernel
theorem dX7_put_19 : decode cX7_put 19 = .ok (.lload 4, 2) := by decide +kernel
theorem dX7_put_21 : decode cX7_put 21 = .ok (.ldc2_w 170, 3) := by decide +kernel
theorem dX7_put_24 : decode cX7_put 24 = .ok (.land, 1) := by decide +kernel
theorem dX7_put_25 : decode cX7_put 25 = .ok (.lconst 0, 1) := by decide +kernel
theorem dX7_put_26 : decode cX7_put 26 = .ok (.lcmp, 1) := by decide +kernel
theorem dX7_put_27 : decode cX7_put 27 = .ok (.ifCond .eq 45, 3) := by decide +kernel
theorem dX7_put_30 : decode cX7_put 30 = .ok (.iload 6, 2) := by decide +kernel
theorem dX7_put_32 : decode cX7_put 32 = .ok (.ifCond .eq 24, 3) := by decide +kernel
theorem dX7_put_35 : decode cX7_put 35 = .ok (.lload 4, 2) := by decide +kernel
theorem dX7_put_37 : decode cX7_put 37 = .ok (.ldc2_w 170, 3) := by decide +kernel
theorem dX7_put_40 : decode cX7_put 40 = .ok (.land, 1) := by decide +kernel
theorem dX7_put_41 : decode cX7_put 41 = .ok (.l2i, 1) := by decide +kernel
theorem dX7_put_42 : decode cX7_put 42 = .ok (.bipush 33, 2) := by decide +kernel
theorem dX7_put_44 : decode cX7_put 44 = .ok (.bipush 126, 2) := by decide +kernel
theorem dX7_put_46 : decode cX7_put 46 = .ok (.invokestatic 48, 3) := by decide +kernel
theorem dX7_put_49 : decode cX7_put 49 = .ok (.ifCond .eq 7, 3) := by decide +kernel
theorem dX7_put_52 : decode cX7_put 52 = .ok (.iconst 1, 1) := by decide +kernel
theorem dX7_put_53 : decode cX7_put 53 = .ok (.goto 4, 3) := by decide +kernel
theorem dX7_put_56 : decode cX7_put 56 = .ok (.iconst 0, 1) := by decide +kernel
theorem dX7_put_57 : decode cX7_put 57 = .ok (.istore 6, 2) := by decide +kernel
theorem dX7_put_59 : decode cX7_put 59 = .ok (.lload 4, 2) := by decide +kernel
theorem dX7_put_61 : decode cX7_put 61 = .ok (.bipush 8, 2) := by decide +kernel
theorem dX7_put_63 : decode cX7_put 63 = .ok (.lushr, 1) := by decide +kernel
theorem dX7_put_64 : decode cX7_put 64 = .ok (.lstore 4, 2) := by decide +kernel
theorem dX7_put_66 : decode cX7_put 66 = .ok (.iinc 3 1, 3) := by decide +kernel
theorem dX7_put_69 : decode cX7_put 69 = .ok (.goto (-56), 3) := by decide +kernel
theorem dX7_put_72 : decode cX7_put 72 = .ok (.iload_n 3, 1) := by decide +kernel
theorem dX7_put_73 : decode cX7_put 73 = .ok (.ifCond .eq 15, 3) := by decide +kernel
theorem dX7_put_76 : decode cX7_put 76 = .ok (.iload 6, 2) := by decide +kernel
theorem dX7_put_78 : decode cX7_put 78 = .ok (.ifCond .eq 10, 3) := by decide +kernel
theorem dX7_put_81 : decode cX7_put 81 = .ok (.lload 4, 2) := by decide +kernel
theorem dX7_put_83 : decode cX7_put 83 = .ok (.lconst 0, 1) := by decide +kernel
theorem dX7_put_84 : decode cX7_put 84 = .ok (.lcmp, 1) := by decide +kernel
theorem dX7_put_85 : decode cX7_put 85 = .ok (.ifCond .eq 6, 3) := by decide +kernel
theorem dX7_put_88 : decode cX7_put 88 = .ok (.bipush (-2), 2) := by decide +kernel
theorem dX7_put_90 : decode cX7_put 90 = .ok (.ireturn, 1) := by decide +kernel
theorem dX7_put_91 : decode cX7_put 91 = .ok (.aload_n 0, 1) := by decide +kernel
theorem dX7_put_92 : decode cX7_put 92 = .ok (.getfield 172, 3) := by decide +kernel
theorem dX7_put_95 : decode cX7_put 95 = .ok (.iload_n 3, 1) := by decide +kernel
theorem dX7_put_96 : decode cX7_put 96 = .ok (.iadd, 1) := by decide +kernel
theorem dX7_put_97 : decode cX7_put 97 = .ok (.bipush 60, 2) := by decide +kernel
theorem dX7_put_99 : decode cX7_put 99 = .ok (.if_icmp .le 6, 3) := by decide +kernel
theorem dX7_put_102 : decode cX7_put 102 = .ok (.bipush (-4), 2) := by decide +kernel
theorem dX7_put_104 : decode cX7_put 104 = .ok (.ireturn, 1) := by decide +kernel
theorem dX7_put_105 : decode cX7_put 105 = .ok (.iconst 0, 1) := by decide +kernel
theorem dX7_put_106 : decode cX7_put 106 = .ok (.istore 7, 2) := by decide +kernel
theorem dX7_put_108 : decode cX7_put 108 = .ok (.iload 7, 2) := by decide +kernel
theorem dX7_put_110 : decode cX7_put 110 = .ok (.iload_n 3, 1) := by decide +kernel
theorem dX7_put_111 : decode cX7_put 111 = .ok (.if_icmp .ge 37, 3) := by decide +kernel
theorem dX7_put_114 : decode cX7_put 114 = .ok (.aload_n 0, 1) := by decide +kernel
theorem dX7_put_115 : decode cX7_put 115 = .ok (.getfield 26, 3) := by decide +kernel
theorem dX7_put_118 : decode cX7_put 118 = .ok (.aload_n 0, 1) := by decide +kernel
theorem dX7_put_119 : decode cX7_put 119 = .ok (.getfield 172, 3) := by decide +kernel
theorem dX7_put_122 : decode cX7_put 122 = .ok (.iload 7, 2) := by decide +kernel
theorem dX7_put_124 : decode cX7_put 124 = .ok (.iadd, 1) := by decide +kernel
theorem dX7_put_125 : decode cX7_put 125 = .ok (.lload_n 1, 1) := by decide +kernel
theorem dX7_put_126 : decode cX7_put 126 = .ok (.bipush 8, 2) := by decide +kernel
theorem dX7_put_128 : decode cX7_put 128 = .ok (.iload_n 3, 1) := by decide +kernel
theorem dX7_put_129 : decode cX7_put 129 = .ok (.iconst 1, 1) := by decide +kernel
theorem dX7_put_130 : decode cX7_put 130 = .ok (.isub, 1) := by decide +kernel
theorem dX7_put_131 : decode cX7_put 131 = .ok (.iload 7, 2) := by decide +kernel
theorem dX7_put_133 : decode cX7_put 133 = .ok (.isub, 1) := by decide +kernel
theorem dX7_put_134 : decode cX7_put 134 = .ok (.imul, 1) := by decide +kernel
theorem dX7_put_135 : decode cX7_put 135 = .ok (.lushr, 1) := by decide +kernel
theorem dX7_put_136 : decode cX7_put 136 = .ok (.ldc2_w 170, 3) := by decide +kernel
theorem dX7_put_139 : decode cX7_put 139 = .ok (.land, 1) := by decide +kernel
theorem dX7_put_140 : decode cX7_put 140 = .ok (.l2i, 1) := by decide +kernel
theorem dX7_put_141 : decode cX7_put 141 = .ok (.iastore, 1) := by decide +kernel
theorem dX7_put_142 : decode cX7_put 142 = .ok (.iinc 7 1, 3) := by decide +kernel
theorem dX7_put_145 : decode cX7_put 145 = .ok (.goto (-37), 3) := by decide +kernel
theorem dX7_put_148 : decode cX7_put 148 = .ok (.aload_n 0, 1) := by decide +kernel
theorem dX7_put_149 : decode cX7_put 149 = .ok (.dup, 1) := by decide +kernel
theorem dX7_put_150 : decode cX7_put 150 = .ok (.getfield 172, 3) := by decide +kernel
theorem dX7_put_153 : decode cX7_put 153 = .ok (.iload_n 3, 1) := by decide +kernel
theorem dX7_put_154 : decode cX7_put 154 = .ok (.iadd, 1) := by decide +kernel
theorem dX7_put_155 : decode cX7_put 155 = .ok (.putfield 172, 3) := by decide +kernel
theorem dX7_put_158 : decode cX7_put 158 = .ok (.aload_n 0, 1) := by decide +kernel
theorem dX7_put_159 : decode cX7_put 159 = .ok (.getfield 172, 3) := by decide +kernel
theorem dX7_put_162 : decode cX7_put 162 = .ok (.ireturn, 1) := by decide +kernel
set_option maxRecDepth 20000 in
theorem ggX7_put_X7_in : GoodIn wsX7_put wsX7_in := goodIn_r _ [8] (by decide +kernel) (by decide +kernel)
set_option maxRecDepth 20000 in
theorem gX7_put_X7_in : GoodIn wsX7_put (va_wsS RX7 48 yX7_in wsX7_in) := goodIn_app (goodIn_of _ (by decide +kernel)) ggX7_put_X7_in
theorem kX7_put_3 : Cond.fieldLink RX7 172 "BookedDetoursModel" "length" "I" ∈ wsX7_put := List.mem_of_getElem? (i := 3) (by decide +kernel)
theorem kX7_put_2 : Cond.constantLong RX7 170 (255) ∈ wsX7_put := List.mem_of_getElem? (i := 2) (by decide +kernel)
theorem kX7_put_4 : Cond.fieldLink RX7 26 "BookedDetoursModel" "pad" "[I" ∈ wsX7_put := List.mem_of_getElem? (i := 4) (by decide +kernel)
theorem kX7_put_1 : Cond.fieldLink RX7 44 "BookedDetoursModel" "thrown" "I" ∈ wsX7_put := List.mem_of_getElem? (i := 1) (by decide +kernel)
theorem hX7_put_X7 : ∀ w ∈ u_ws RX7 TX7 26, w ∈ wsX7_put := fun _ h => List.mem_cons_of_mem _ (List.mem_append_right _ h)
set_option maxHeartbeats 4000000 in
set_option maxRecDepth 100000 in
theorem w_X7_put_88 {Z : yZ} (g : yG) (M : Nat → Nat) (cs : Int64) (C : yC Z g cX7_put 8 wsX7_put RX7) {post : Int32 → List va_W → Prop} (HR : yRi Z ({ frames := 1, cells := 0, slots := 0, locals := 22 } : Room) cX7_put .int post 0 0) {X13 : MV → Int32 → Int64 → Int32 → Prop} {X108 : MV → Int32 → Int32 → Prop} (hX13 : ∀ (m : MV) (x3 : Int32) (x4 : Int64) (x6 : Int32), X13 m x3 x4 x6 → yJ Z ({ frames := 1, cells := 0, slots := 0, locals := 22 } : Room) 0 0 ([modW g M m] : List va_W) 13 [(0, .ref (M 0)), (1, .long cs), (3, .int x3), (4, .long x4), (6, .int x6)] []) (hX108 : ∀ (m : MV) (x3 : Int32) (x7 : Int32), X108 m x3 x7 → yJ Z ({ frames := 1, cells := 0, slots := 0, locals := 22 } : Room) 0 0 ([modW g M m] : List va_W) 108 [(0, .ref (M 0)), (1, .long cs), (3, .int x3), (7, .int x7)] []) {K : Int32 → MV → Prop} (hK : ∀ (r0 : Int32) (m : MV), K r0 m → post r0 ([modW g M m] : List va_W)) (m : MV) (h : wp_X7_put_88 cs X13 X108 K m) : yJ Z ({ frames := 1, cells := 0, slots := 0, locals := 22 } : Room) 0 0 ([modW g M m] : List va_W) 88 [] [] := by
  unfold wp_X7_put_88 at h
  refine y_bipush (v := -2) C dX7_put_88 (by decide) ?_
  exact HR 90 dX7_put_90 (-2 : Int32) _ _ _ _ (rfl) (Nat.le_of_ble_eq_true rfl) (Nat.le_of_ble_eq_true rfl) (hK _ _  h)
set_option maxHeartbeats 4000000 in
set_option maxRecDepth 100000 in
theorem w_X7_put_72 {Z : yZ} (g : yG) (M : Nat → Nat) (cs : Int64) (C : yC Z g cX7_put 8 wsX7_put RX7) {post : Int32 → List va_W → Prop} (HR : yRi Z ({ frames := 1, cells := 0, slots := 0, locals := 22 } : Room) cX7_put .int post 0 0) {X13 : MV → Int32 → Int64 → Int32 → Prop} {X108 : MV → Int32 → Int32 → Prop} (hX13 : ∀ (m : MV) (x3 : Int32) (x4 : Int64) (x6 : Int32), X13 m x3 x4 x6 → yJ Z ({ frames := 1, cells := 0, slots := 0, locals := 22 } : Room) 0 0 ([modW g M m] : List va_W) 13 [(0, .ref (M 0)), (1, .long cs), (3, .int x3), (4, .long x4), (6, .int x6)] []) (hX108 : ∀ (m : MV) (x3 : Int32) (x7 : Int32), X108 m x3 x7 → yJ Z ({ frames := 1, cells := 0, slots := 0, locals := 22 } : Room) 0 0 ([modW g M m] : List va_W) 108 [(0, .ref (M 0)), (1, .long cs), (3, .int x3), (7, .int x7)] []) {K : Int32 → MV → Prop} (hK : ∀ (r0 : Int32) (m : MV), K r0 m → post r0 ([modW g M m] : List va_W)) (m : MV) (x3 : Int32) (x4 : Int64) (x6 : Int32) (h : wp_X7_put_72 cs X13 X108 K m x3 x4 x6) : yJ Z ({ frames := 1, cells := 0, slots := 0, locals := 22 } : Room) 0 0 ([modW g M m] : List va_W) 72 [(0, .ref (M 0)), (1, .long cs), (3, .int x3), (4, .long x4), (6, .int x6)] [] := by
  unfold wp_X7_put_72 at h
  refine y_iload_n C dX7_put_72 2 rfl rfl ?_
  refine y_if_eq (tgt := 88) C dX7_put_73 rfl h (fun c73 h => ?_) (fun c73 h => ?_)
  · refine y_sub (lv' := []) [] rfl ?_
    exact w_X7_put_88 g M cs C HR hX13 hX108 hK _ h
  · refine y_iload C dX7_put_76 4 rfl ?_
    refine y_if_eq (tgt := 88) C dX7_put_78 rfl h (fun c78 h => ?_) (fun c78 h => ?_)
    · refine y_sub (lv' := []) [] rfl ?_
      exact w_X7_put_88 g M cs C HR hX13 hX108 hK _ h
    · refine y_lload C dX7_put_81 3 rfl ?_
      refine y_lconst (v := 0) C dX7_put_83 (by decide) ?_
      refine y_lcmp C dX7_put_84 ?_
      refine y_if_eq (tgt := 91) C dX7_put_85 rfl h (fun c85 h => ?_) (fun c85 h => ?_)
      · refine y_aload_n C dX7_put_91 0 rfl rfl ?_
        refine y_get (Cn := RX7) (T := TX7) (N := 26) (v := .int (m.1 8)) C dX7_put_92 hX7_put_X7 0 (sh_5000 g M m) rfl 8 (Nat.le_of_ble_eq_true rfl) kX7_put_3 rfl ?_
        refine y_iload_n C dX7_put_95 2 rfl rfl ?_
        refine y_iadd C dX7_put_96 ?_
        refine y_bipush (v := 60) C dX7_put_97 (by decide) ?_
        refine y_icmp_le (tgt := 105) C dX7_put_99 rfl h (fun c99 h => ?_) (fun c99 h => ?_)
        · refine y_iconst (v := 0) C dX7_put_105 (by decide) ?_
          refine y_istore (lv' := [(7, .int (0 : Int32)), (0, .ref (M 0)), (1, .long cs), (3, .int x3), (4, .long x4), (6, .int x6)]) C dX7_put_106 (Nat.le_of_ble_eq_true rfl) rfl ?_
          refine y_sub (lv' := [(0, .ref (M 0)), (1, .long cs), (3, .int x3), (7, .int (0 : Int32))]) [1, 2, 3, 0] rfl ?_
          exact hX108 _ _ _ h
        · refine y_bipush (v := -4) C dX7_put_102 (by decide) ?_
          exact HR 104 dX7_put_104 (-4 : Int32) _ _ _ _ (rfl) (Nat.le_of_ble_eq_true rfl) (Nat.le_of_ble_eq_true rfl) (hK _ _  h)
      · refine y_sub (lv' := []) [] rfl ?_
        exact w_X7_put_88 g M cs C HR hX13 hX108 hK _ h
set_option maxHeartbeats 4000000 in
set_option maxRecDepth 100000 in
theorem w_X7_put_59 {Z : yZ} (g : yG) (M : Nat → Nat) (cs : Int64) (C : yC Z g cX7_put 8 wsX7_put RX7) {post : Int32 → List va_W → Prop} (HR : yRi Z ({ frames := 1, cells := 0, slots := 0, locals := 22 } : Room) cX7_put .int post 0 0) {X13 : MV → Int32 → Int64 → Int32 → Prop} {X108 : MV → Int32 → Int32 → Prop} (hX13 : ∀ (m : MV) (x3 : Int32) (x4 : Int64) (x6 : Int32), X13 m x3 x4 x6 → yJ Z ({ frames := 1, cells := 0, slots := 0, locals := 22 } : Room) 0 0 ([modW g M m] : List va_W) 13 [(0, .ref (M 0)), (1, .long cs), (3, .int x3), (4, .long x4), (6, .int x6)] []) (hX108 : ∀ (m : MV) (x3 : Int32) (x7 : Int32), X108 m x3 x7 → yJ Z ({ frames := 1, cells := 0, slots := 0, locals := 22 } : Room) 0 0 ([modW g M m] : List va_W) 108 [(0, .ref (M 0)), (1, .long cs), (3, .int x3), (7, .int x7)] []) {K : Int32 → MV → Prop} (hK : ∀ (r0 : Int32) (m : MV), K r0 m → post r0 ([modW g M m] : List va_W)) (m : MV) (x3 : Int32) (x4 : Int64) (x6 : Int32) (h : wp_X7_put_59 cs X13 X108 K m x3 x4 x6) : yJ Z ({ frames := 1, cells := 0, slots := 0, locals := 22 } : Room) 0 0 ([modW g M m] : List va_W) 59 [(0, .ref (M 0)), (1, .long cs), (3, .int x3), (4, .long x4), (6, .int x6)] [] := by
  unfold wp_X7_put_59 at h
  refine y_lload C dX7_put_59 3 rfl ?_
  refine y_bipush (v := 8) C dX7_put_61 (by decide) ?_
  refine y_lushr C dX7_put_63 rfl ?_
  refine y_lstore (lv' := [(4, .long (x4.toUInt64 >>> ((8 : Int32).toInt64.toUInt64 &&& Int64.toUInt64 63)).toInt64), (0, .ref (M 0)), (1, .long cs), (3, .int x3), (6, .int x6)]) C dX7_put_64 (Nat.le_of_ble_eq_true rfl) rfl ?_
  refine y_iinc (v := (x3 + (1 : Int32))) (lv' := [(3, .int (x3 + (1 : Int32))), (4, .long (x4.toUInt64 >>> ((8 : Int32).toInt64.toUInt64 &&& Int64.toUInt64 63)).toInt64), (0, .ref (M 0)), (1, .long cs), (6, .int x6)]) C dX7_put_66 3 rfl rfl (Nat.le_of_ble_eq_true rfl) rfl ?_
  refine y_goto (tgt := 13) C dX7_put_69 rfl ?_
  refine y_sub (lv' := [(0, .ref (M 0)), (1, .long cs), (3, .int (x3 + (1 : Int32))), (4, .long (x4.toUInt64 >>> ((8 : Int32).toInt64.toUInt64 &&& Int64.toUInt64 63)).toInt64), (6, .int x6)]) [2, 3, 0, 1, 4] rfl ?_
  exact hX13 _ _ _ _ h
set_option maxHeartbeats 4000000 in
set_option maxRecDepth 100000 in
theorem w_X7_put_56 {Z : yZ} (g : yG) (M : Nat → Nat) (cs : Int64) (C : yC Z g cX7_put 8 wsX7_put RX7) {post : Int32 → List va_W → Prop} (HR : yRi Z ({ frames := 1, cells := 0, slots := 0, locals := 22 } : Room) cX7_put .int post 0 0) {X13 : MV → Int32 → Int64 → Int32 → Prop} {X108 : MV → Int32 → Int32 → Prop} (hX13 : ∀ (m : MV) (x3 : Int32) (x4 : Int64) (x6 : Int32), X13 m x3 x4 x6 → yJ Z ({ frames := 1, cells := 0, slots := 0, locals := 22 } : Room) 0 0 ([modW g M m] : List va_W) 13 [(0, .ref (M 0)), (1, .long cs), (3, .int x3), (4, .long x4), (6, .int x6)] []) (hX108 : ∀ (m : MV) (x3 : Int32) (x7 : Int32), X108 m x3 x7 → yJ Z ({ frames := 1, cells := 0, slots := 0, locals := 22 } : Room) 0 0 ([modW g M m] : List va_W) 108 [(0, .ref (M 0)), (1, .long cs), (3, .int x3), (7, .int x7)] []) {K : Int32 → MV → Prop} (hK : ∀ (r0 : Int32) (m : MV), K r0 m → post r0 ([modW g M m] : List va_W)) (m : MV) (x3 : Int32) (x4 : Int64) (h : wp_X7_put_56 cs X13 X108 K m x3 x4) : yJ Z ({ frames := 1, cells := 0, slots := 0, locals := 22 } : Room) 0 0 ([modW g M m] : List va_W) 56 [(0, .ref (M 0)), (1, .long cs), (3, .int x3), (4, .long x4)] [] := by
  unfold wp_X7_put_56 at h
  refine y_iconst (v := 0) C dX7_put_56 (by decide) ?_
  refine y_istore (lv' := [(6, .int (0 : Int32)), (0, .ref (M 0)), (1, .long cs), (3, .int x3), (4, .long x4)]) C dX7_put_57 (Nat.le_of_ble_eq_true rfl) rfl ?_
  refine y_sub (lv' := [(0, .ref (M 0)), (1, .long cs), (3, .int x3), (4, .long x4), (6, .int (0 : Int32))]) [1, 2, 3, 4, 0] rfl ?_
  exact w_X7_put_59 g M cs C HR hX13 hX108 hK _ _ _ _ h
set_option maxHeartbeats 4000000 in
set_option maxRecDepth 100000 in
theorem w_X7_put_13 {Z : yZ} (g : yG) (M : Nat → Nat) (cs : Int64) (C : yC Z g cX7_put 8 wsX7_put RX7) {post : Int32 → List va_W → Prop} (HR : yRi Z ({ frames := 1, cells := 0, slots := 0, locals := 22 } : Room) cX7_put .int post 0 0) {X13 : MV → Int32 → Int64 → Int32 → Prop} {X108 : MV → Int32 → Int32 → Prop} (hX13 : ∀ (m : MV) (x3 : Int32) (x4 : Int64) (x6 : Int32), X13 m x3 x4 x6 → yJ Z ({ frames := 1, cells := 0, slots := 0, locals := 22 } : Room) 0 0 ([modW g M m] : List va_W) 13 [(0, .ref (M 0)), (1, .long cs), (3, .int x3), (4, .long x4), (6, .int x6)] []) (hX108 : ∀ (m : MV) (x3 : Int32) (x7 : Int32), X108 m x3 x7 → yJ Z ({ frames := 1, cells := 0, slots := 0, locals := 22 } : Room) 0 0 ([modW g M m] : List va_W) 108 [(0, .ref (M 0)), (1, .long cs), (3, .int x3), (7, .int x7)] []) {K : Int32 → MV → Prop} (hK : ∀ (r0 : Int32) (m : MV), K r0 m → post r0 ([modW g M m] : List va_W)) (m : MV) (x3 : Int32) (x4 : Int64) (x6 : Int32) (h : wp_X7_put_13 cs X13 X108 K m x3 x4 x6) : yJ Z ({ frames := 1, cells := 0, slots := 0, locals := 22 } : Room) 0 0 ([modW g M m] : List va_W) 13 [(0, .ref (M 0)), (1, .long cs), (3, .int x3), (4, .long x4), (6, .int x6)] [] := by
  unfold wp_X7_put_13 at h
  refine y_iload_n C dX7_put_13 2 rfl rfl ?_
  refine y_bipush (v := 8) C dX7_put_14 (by decide) ?_
  refine y_icmp_ge (tgt := 72) C dX7_put_16 rfl h (fun c16 h => ?_) (fun c16 h => ?_)
  · refine y_sub (lv' := [(0, .ref (M 0)), (1, .long cs), (3, .int x3), (4, .long x4), (6, .int x6)]) [0, 1, 2, 3, 4] rfl ?_
    exact w_X7_put_72 g M cs C HR hX13 hX108 hK _ _ _ _ h
  · refine y_lload C dX7_put_19 3 rfl ?_
    refine y_ldc2 (v := 255) C dX7_put_21 kX7_put_2 ?_
    refine y_land C dX7_put_24 ?_
    refine y_lconst (v := 0) C dX7_put_25 (by decide) ?_
    refine y_lcmp C dX7_put_26 ?_
    refine y_if_eq (tgt := 72) C dX7_put_27 rfl h (fun c27 h => ?_) (fun c27 h => ?_)
    · refine y_sub (lv' := [(0, .ref (M 0)), (1, .long cs), (3, .int x3), (4, .long x4), (6, .int x6)]) [0, 1, 2, 3, 4] rfl ?_
      exact w_X7_put_72 g M cs C HR hX13 hX108 hK _ _ _ _ h
    · refine y_iload C dX7_put_30 4 rfl ?_
      refine y_if_eq (tgt := 56) C dX7_put_32 rfl h (fun c32 h => ?_) (fun c32 h => ?_)
      · refine y_sub (lv' := [(0, .ref (M 0)), (1, .long cs), (3, .int x3), (4, .long x4)]) [0, 1, 2, 3] rfl ?_
        exact w_X7_put_56 g M cs C HR hX13 hX108 hK _ _ _ h
      · refine y_lload C dX7_put_35 3 rfl ?_
        refine y_ldc2 (v := 255) C dX7_put_37 kX7_put_2 ?_
        refine y_land C dX7_put_40 ?_
        refine y_l2i C dX7_put_41 rfl ?_
        refine y_bipush (v := 33) C dX7_put_42 (by decide) ?_
        refine y_bipush (v := 126) C dX7_put_44 (by decide) ?_
        refine y_callS (As := [.int ((x4 &&& (255 : Int64))).toInt32, .int (33 : Int32), .int (126 : Int32)]) (rest := []) C dX7_put_46 (c_X7_in g ((x4 &&& (255 : Int64))).toInt32 (33 : Int32) (126 : Int32)) rfl rfl rfl rfl ⟨Nat.le_of_ble_eq_true rfl, Nat.le_of_ble_eq_true rfl⟩ gX7_put_X7_in (nA := 3) (by decide +kernel) rfl (Nat.le_of_ble_eq_true rfl) ⟨Nat.le_of_ble_eq_true rfl, Nat.le_of_ble_eq_true rfl⟩ [] [0] (nB := 1) rfl (by decide +kernel) (sh_5002 g M m) (fun r1 w9 hw => ?_)
        obtain ⟨er1, rfl⟩ := hw
        have h := y_letP h er1
        refine ⟨([modW g M m] : List va_W), ⟨(sh_5002 g M m), rfl, rfl⟩, ?_⟩
        refine y_if_eq (tgt := 56) C dX7_put_49 rfl h (fun c49 h => ?_) (fun c49 h => ?_)
        · refine y_sub (lv' := [(0, .ref (M 0)), (1, .long cs), (3, .int x3), (4, .long x4)]) [0, 1, 2, 3] rfl ?_
          exact w_X7_put_56 g M cs C HR hX13 hX108 hK _ _ _ h
        · refine y_iconst (v := 1) C dX7_put_52 (by decide) ?_
          refine y_goto (tgt := 57) C dX7_put_53 rfl ?_
          refine y_istore (lv' := [(6, .int (1 : Int32)), (0, .ref (M 0)), (1, .long cs), (3, .int x3), (4, .long x4)]) C dX7_put_57 (Nat.le_of_ble_eq_true rfl) rfl ?_
          refine y_sub (lv' := [(0, .ref (M 0)), (1, .long cs), (3, .int x3), (4, .long x4), (6, .int (1 : Int32))]) [1, 2, 3, 4, 0] rfl ?_
          exact w_X7_put_59 g M cs C HR hX13 hX108 hK _ _ _ _ h
set_option maxHeartbeats 4000000 in
set_option maxRecDepth 100000 in
theorem w_X7_put_108 {Z : yZ} (g : yG) (M : Nat → Nat) (cs : Int64) (C : yC Z g cX7_put 8 wsX7_put RX7) {post : Int32 → List va_W → Prop} (HR : yRi Z ({ frames := 1, cells := 0, slots := 0, locals := 22 } : Room) cX7_put .int post 0 0) {X13 : MV → Int32 → Int64 → Int32 → Prop} {X108 : MV → Int32 → Int32 → Prop} (hX13 : ∀ (m : MV) (x3 : Int32) (x4 : Int64) (x6 : Int32), X13 m x3 x4 x6 → yJ Z ({ frames := 1, cells := 0, slots := 0, locals := 22 } : Room) 0 0 ([modW g M m] : List va_W) 13 [(0, .ref (M 0)), (1, .long cs), (3, .int x3), (4, .long x4), (6, .int x6)] []) (hX108 : ∀ (m : MV) (x3 : Int32) (x7 : Int32), X108 m x3 x7 → yJ Z ({ frames := 1, cells := 0, slots := 0, locals := 22 } : Room) 0 0 ([modW g M m] : List va_W) 108 [(0, .ref (M 0)), (1, .long cs), (3, .int x3), (7, .int x7)] []) {K : Int32 → MV → Prop} (hK : ∀ (r0 : Int32) (m : MV), K r0 m → post r0 ([modW g M m] : List va_W)) (m : MV) (x3 : Int32) (x7 : Int32) (h : wp_X7_put_108 cs X13 X108 K m x3 x7) : yJ Z ({ frames := 1, cells := 0, slots := 0, locals := 22 } : Room) 0 0 ([modW g M m] : List va_W) 108 [(0, .ref (M 0)), (1, .long cs), (3, .int x3), (7, .int x7)] [] := by
  unfold wp_X7_put_108 at h
  refine y_iload C dX7_put_108 3 rfl ?_
  refine y_iload_n C dX7_put_110 2 rfl rfl ?_
  refine y_icmp_ge (tgt := 148) C dX7_put_111 rfl h (fun c111 h => ?_) (fun c111 h => ?_)
  · refine y_aload_n C dX7_put_148 0 rfl rfl ?_
    refine y_dup C dX7_put_149 rfl ?_
    refine y_get (Cn := RX7) (T := TX7) (N := 26) (v := .int (m.1 8)) C dX7_put_150 hX7_put_X7 0 (sh_5000 g M m) rfl 8 (Nat.le_of_ble_eq_true rfl) kX7_put_3 rfl ?_
    refine y_iload_n C dX7_put_153 2 rfl rfl ?_
    refine y_iadd C dX7_put_154 ?_
    obtain ⟨m1, em1⟩ : ∃ z : MV, z = mI m 8 ((m.1 8) + x3) := ⟨_, rfl⟩
    have h := y_letP h em1
    refine y_put (Cn := RX7) (T := TX7) (N := 26) (v := .int ((m.1 8) + x3)) (ty0 := tyX7) (L1 := ([modW g M m1] : List va_W)) C dX7_put_155 hX7_put_X7 0 (sh_5000 g M m) rfl 8 (Nat.le_of_ble_eq_true rfl) kX7_put_3 tyX7_ok nmX7 rfl rfl rfl (Nat.le_of_ble_eq_true rfl) (sh_5030 g M m ((m.1 8) + x3) m1 em1) ?_
    refine y_aload_n C dX7_put_158 0 rfl rfl ?_
    refine y_get (Cn := RX7) (T := TX7) (N := 26) (v := .int (m1.1 8)) C dX7_put_159 hX7_put_X7 0 (sh_5000 g M m1) rfl 8 (Nat.le_of_ble_eq_true rfl) kX7_put_3 rfl ?_
    exact HR 162 dX7_put_162 (m1.1 8) _ _ _ _ (rfl) (Nat.le_of_ble_eq_true rfl) (Nat.le_of_ble_eq_true rfl) (hK _ _  h)
  · refine y_aload_n C dX7_put_114 0 rfl rfl ?_
    refine y_get (Cn := RX7) (T := TX7) (N := 26) (v := .ref (M 6)) C dX7_put_115 hX7_put_X7 0 (sh_5000 g M m) rfl 7 (Nat.le_of_ble_eq_true rfl) kX7_put_4 rfl ?_
    refine y_aload_n C dX7_put_118 0 rfl rfl ?_
    refine y_get (Cn := RX7) (T := TX7) (N := 26) (v := .int (m.1 8)) C dX7_put_119 hX7_put_X7 0 (sh_5000 g M m) rfl 8 (Nat.le_of_ble_eq_true rfl) kX7_put_3 rfl ?_
    refine y_iload C dX7_put_122 3 rfl ?_
    refine y_iadd C dX7_put_124 ?_
    refine y_lload_n C dX7_put_125 1 rfl rfl ?_
    refine y_bipush (v := 8) C dX7_put_126 (by decide) ?_
    refine y_iload_n C dX7_put_128 2 rfl rfl ?_
    refine y_iconst (v := 1) C dX7_put_129 (by decide) ?_
    refine y_isub C dX7_put_130 ?_
    refine y_iload C dX7_put_131 3 rfl ?_
    refine y_isub C dX7_put_133 ?_
    refine y_imul C dX7_put_134 ?_
    refine y_lushr C dX7_put_135 rfl ?_
    refine y_ldc2 (v := 255) C dX7_put_136 kX7_put_2 ?_
    refine y_land C dX7_put_139 ?_
    refine y_l2i C dX7_put_140 rfl ?_
    obtain ⟨hb2, h⟩ := h
    obtain ⟨m3, em3⟩ : ∃ z : MV, z = mA m 7 ((m.1 8) + x7).toNatClampNeg (((cs.toUInt64 >>> (((8 : Int32) * ((x3 - (1 : Int32)) - x7)).toInt64.toUInt64 &&& Int64.toUInt64 63)).toInt64 &&& (255 : Int64))).toInt32 := ⟨_, rfl⟩
    have h := y_letP h em3
    refine y_iast (N := 60) (f := (m.2 7)) (L1 := ([modW g M m3] : List va_W)) C dX7_put_141 6 (sh_5031 g M m) hb2 (sh_5032 g M m ((m.1 8) + x7).toNatClampNeg ((((cs.toUInt64 >>> (((8 : Int32) * ((x3 - (1 : Int32)) - x7)).toInt64.toUInt64 &&& Int64.toUInt64 63)).toInt64 &&& (255 : Int64))).toInt32) m3 em3) ?_
    refine y_iinc (v := (x7 + (1 : Int32))) (lv' := [(7, .int (x7 + (1 : Int32))), (0, .ref (M 0)), (1, .long cs), (3, .int x3)]) C dX7_put_142 3 rfl rfl (Nat.le_of_ble_eq_true rfl) rfl ?_
    refine y_goto (tgt := 108) C dX7_put_145 rfl ?_
    refine y_sub (lv' := [(0, .ref (M 0)), (1, .long cs), (3, .int x3), (7, .int (x7 + (1 : Int32)))]) [1, 2, 3, 0] rfl ?_
    exact hX108 _ _ _ h
set_option maxHeartbeats 4000000 in
set_option maxRecDepth 100000 in
theorem l_X7_put {Z : yZ} (g : yG) (M : Nat → Nat) (cs : Int64) (C : yC Z g cX7_put 8 wsX7_put RX7) {post : Int32 → List va_W → Prop} (HR : yRi Z ({ frames := 1, cells := 0, slots := 0, locals := 22 } : Room) cX7_put .int post 0 0) {K : Int32 → MV → Prop} (hK : ∀ (r0 : Int32) (m : MV), K r0 m → post r0 ([modW g M m] : List va_W)) {I13 : Nat → MV → Int32 → Int64 → Int32 → Prop} {I108 : Nat → MV → Int32 → Int32 → Prop} (o13 : ∀ (w0 : Nat) (m : MV) (x3 : Int32) (x4 : Int64) (x6 : Int32), I13 w0 m x3 x4 x6 → wp_X7_put_13 cs (fun (m9 : MV) (x39 : Int32) (x49 : Int64) (x69 : Int32) => ∃ w9, w9 < w0 ∧ I13 w9 m9 x39 x49 x69) (fun (m9 : MV) (x39 : Int32) (x79 : Int32) => ∃ w9, w9 < w0 ∧ I108 w9 m9 x39 x79) K m x3 x4 x6) (o108 : ∀ (w0 : Nat) (m : MV) (x3 : Int32) (x7 : Int32), I108 w0 m x3 x7 → wp_X7_put_108 cs (fun (m9 : MV) (x39 : Int32) (x49 : Int64) (x69 : Int32) => ∃ w9, w9 < w0 ∧ I13 w9 m9 x39 x49 x69) (fun (m9 : MV) (x39 : Int32) (x79 : Int32) => ∃ w9, w9 < w0 ∧ I108 w9 m9 x39 x79) K m x3 x7) : ∀ w0 : Nat, (∀ (m : MV) (x3 : Int32) (x4 : Int64) (x6 : Int32), I13 w0 m x3 x4 x6 → yJ Z ({ frames := 1, cells := 0, slots := 0, locals := 22 } : Room) 0 0 ([modW g M m] : List va_W) 13 [(0, .ref (M 0)), (1, .long cs), (3, .int x3), (4, .long x4), (6, .int x6)] []) ∧ (∀ (m : MV) (x3 : Int32) (x7 : Int32), I108 w0 m x3 x7 → yJ Z ({ frames := 1, cells := 0, slots := 0, locals := 22 } : Room) 0 0 ([modW g M m] : List va_W) 108 [(0, .ref (M 0)), (1, .long cs), (3, .int x3), (7, .int x7)] []) := by
  intro w0
  induction w0 using Nat.strongRecOn with
  | _ w0 ih =>
    exact ⟨fun m x3 x4 x6 hi => w_X7_put_13 g M cs C HR (fun m x3 x4 x6 hq => by obtain ⟨w9, hlt, hi⟩ := hq; exact (ih w9 hlt).1 m x3 x4 x6 hi) (fun m x3 x7 hq => by obtain ⟨w9, hlt, hi⟩ := hq; exact (ih w9 hlt).2 m x3 x7 hi) hK m x3 x4 x6 (o13 w0 m x3 x4 x6 hi), fun m x3 x7 hi => w_X7_put_108 g M cs C HR (fun m x3 x4 x6 hq => by obtain ⟨w9, hlt, hi⟩ := hq; exact (ih w9 hlt).1 m x3 x4 x6 hi) (fun m x3 x7 hq => by obtain ⟨w9, hlt, hi⟩ := hq; exact (ih w9 hlt).2 m x3 x7 hi) hK m x3 x7 (o108 w0 m x3 x7 hi)⟩
set_option maxHeartbeats 4000000 in
set_option maxRecDepth 100000 in
theorem t_X7_put (g : yG) (M : Nat → Nat) (m : MV) (cs : Int64) {post : Int32 → List va_W → Prop} {K : Int32 → MV → Prop} (hK : ∀ (r0 : Int32) (m : MV), K r0 m → post r0 ([modW g M m] : List va_W)) (hPO : PO_X7_put cs K m ) : yM g yX7_put wsX7_put ({ frames := 1, cells := 0, slots := 0, locals := 22 } : Room) [.ref (M 0), .long cs] ([modW g M m] : List va_W) post 0 0 := by
  refine y_entryI (cc := cX7_put) (maxL := 8) (by decide +kernel) rfl (Nat.le_of_ble_eq_true rfl) (fun Z C HR => ?_)
  have C : yC Z g cX7_put 8 wsX7_put RX7 := C
  obtain ⟨I13, I108, o13, o108, h⟩ := hPO
  have hX13 : ∀ (m : MV) (x3 : Int32) (x4 : Int64) (x6 : Int32), (fun (m9 : MV) (x39 : Int32) (x49 : Int64) (x69 : Int32) => ∃ w9, I13 w9 m9 x39 x49 x69) m x3 x4 x6 → yJ Z ({ frames := 1, cells := 0, slots := 0, locals := 22 } : Room) 0 0 ([modW g M m] : List va_W) 13 [(0, .ref (M 0)), (1, .long cs), (3, .int x3), (4, .long x4), (6, .int x6)] [] := by
    intro m x3 x4 x6 hq
    obtain ⟨w9, hi⟩ := hq
    exact (l_X7_put g M cs C HR hK o13 o108 w9).1 m x3 x4 x6 hi
  have hX108 : ∀ (m : MV) (x3 : Int32) (x7 : Int32), (fun (m9 : MV) (x39 : Int32) (x79 : Int32) => ∃ w9, I108 w9 m9 x39 x79) m x3 x7 → yJ Z ({ frames := 1, cells := 0, slots := 0, locals := 22 } : Room) 0 0 ([modW g M m] : List va_W) 108 [(0, .ref (M 0)), (1, .long cs), (3, .int x3), (7, .int x7)] [] := by
    intro m x3 x7 hq
    obtain ⟨w9, hi⟩ := hq
    exact (l_X7_put g M cs C HR hK o13 o108 w9).2 m x3 x7 hi
  unfold wp_X7_put_0 at h
  show yJ Z _ 0 0 _ 0 [(0, .ref (M 0)), (1, .long cs)] []
  refine y_aload_n C dX7_put_0 0 rfl rfl ?_
  refine y_iconst (v := 0) C dX7_put_1 (by decide) ?_
  obtain ⟨m1, em1⟩ : ∃ z : MV, z = mI m 0 (0 : Int32) := ⟨_, rfl⟩
  have h := y_letP h em1
  refine y_put (Cn := RX7) (T := TX7) (N := 26) (v := .int (0 : Int32)) (ty0 := tyX7) (L1 := ([modW g M m1] : List va_W)) C dX7_put_2 hX7_put_X7 0 (sh_5000 g M m) rfl 0 (Nat.le_of_ble_eq_true rfl) kX7_put_1 tyX7_ok nmX7 rfl rfl rfl (Nat.le_of_ble_eq_true rfl) (sh_5029 g M m (0 : Int32) m1 em1) ?_
  refine y_iconst (v := 0) C dX7_put_5 (by decide) ?_
  refine y_istore_n (lv' := [(3, .int (0 : Int32)), (0, .ref (M 0)), (1, .long cs)]) C dX7_put_6 rfl (Nat.le_of_ble_eq_true rfl) rfl ?_
  refine y_lload_n C dX7_put_7 2 rfl rfl ?_
  refine y_lstore (lv' := [(4, .long cs), (3, .int (0 : Int32)), (0, .ref (M 0)), (1, .long cs)]) C dX7_put_8 (Nat.le_of_ble_eq_true rfl) rfl ?_
  refine y_iconst (v := 1) C dX7_put_10 (by decide) ?_
  refine y_istore (lv' := [(6, .int (1 : Int32)), (4, .long cs), (3, .int (0 : Int32)), (0, .ref (M 0)), (1, .long cs)]) C dX7_put_11 (Nat.le_of_ble_eq_true rfl) rfl ?_
  refine y_sub (lv' := [(0, .ref (M 0)), (1, .long cs), (3, .int (0 : Int32)), (4, .long cs), (6, .int (1 : Int32))]) [3, 4, 2, 1, 0] rfl ?_
  exact hX13 _ _ _ _ h
theorem u_X7_put (g : yG) (M : Nat → Nat) (m : MV) (cs : Int64) {K : Int32 → MV → Prop} (hPO : PO_X7_put cs K m ) : yM g yX7_put wsX7_put ({ frames := 1, cells := 0, slots := 0, locals := 22 } : Room) [.ref (M 0), .long cs] ([modW g M m] : List va_W) (fun r w => ∃ m' : MV, K r m' ∧ w = ([modW g M m'] : List va_W)) 0 0 :=
  t_X7_put g M m cs (fun r0 m hk => ⟨m, hk, rfl⟩) hPO
