theorem dX7_visits_0 : decode cX7_visits 0 = .ok (.aload_n 0, 1) := by decide +kernel
theorem dX7_visits_1 : decode cX7_visits 1 = .ok (.getfield 7, 3) := by decide +kernel
theorem dX7_visits_4 : decode cX7_visits 4 = .ok (.sipush 152, 3) := by decide +kernel
theorem dX7_visits_7 : decode cX7_visits 7 = .ok (.iaload, 1) := by decide +kernel
theorem dX7_visits_8 : decode cX7_visits 8 = .ok (.istore_n 1, 1) := by decide +kernel
theorem dX7_visits_9 : decode cX7_visits 9 = .ok (.iload_n 1, 1) := by decide +kernel
theorem dX7_visits_10 : decode cX7_visits 10 = .ok (.iconst 2, 1) := by decide +kernel
theorem dX7_visits_11 : decode cX7_visits 11 = .ok (.irem, 1) := by decide +kernel
theorem dX7_visits_12 : decode cX7_visits 12 = .ok (.ifCond .ne 7, 3) := by decide +kernel
theorem dX7_visits_15 : decode cX7_visits 15 = .ok (.iconst 1, 1) := by decide +kernel
theorem dX7_visits_16 : decode cX7_visits 16 = .ok (.goto 4, 3) := by decide +kernel
theorem dX7_visits_19 : decode cX7_visits 19 = .ok (.iconst 0, 1) := by decide +kernel
theorem dX7_visits_20 : decode cX7_visits 20 = .ok (.istore_n 2, 1) := by decide +kernel
theorem dX7_visits_21 : decode cX7_visits 21 = .ok (.aload_n 0, 1) := by decide +kernel
theorem dX7_visits_22 : decode cX7_visits 22 = .ok (.iload_n 1, 1) := by decide +kernel
theorem dX7_visits_23 : decode cX7_visits 23 = .ok (.iconst 2, 1) := by decide +kernel
theorem dX7_visits_24 : decode cX7_visits 24 = .ok (.idiv, 1) := by decide +kernel
theorem dX7_visits_25 : decode cX7_visits 25 = .ok (.iload_n 2, 1) := by decide +kernel
theorem dX7_visits_26 : decode cX7_visits 26 = .ok (.ifCond .eq 7, 3) := by decide +kernel
theorem dX7_visits_29 : decode cX7_visits 29 = .ok (.iconst 5, 1) := by decide +kernel
theorem dX7_visits_30 : decode cX7_visits 30 = .ok (.goto 5, 3) := by decide +kernel
theorem dX7_visits_33 : decode cX7_visits 33 = .ok (.bipush 6, 2) := by decide +kernel
theorem dX7_visits_35 : decode cX7_visits 35 = .ok (.aload_n 0, 1) := by decide +kernel
theorem dX7_visits_36 : decode cX7_visits 36 = .ok (.getfield 32, 3) := by decide +kernel
theorem dX7_visits_39 : decode cX7_visits 39 = .ok (.iconst 0, 1) := by decide +kernel
theorem dX7_visits_40 : decode cX7_visits 40 = .ok (.iaload, 1) := by decide +kernel
theorem dX7_visits_41 : decode cX7_visits 41 = .ok (.invokevirtual 103, 3) := by decide +kernel
theorem dX7_visits_44 : decode cX7_visits 44 = .ok (.aload_n 0, 1) := by decide +kernel
theorem dX7_visits_45 : decode cX7_visits 45 = .ok (.iload_n 1, 1) := by decide +kernel
theorem dX7_visits_46 : decode cX7_visits 46 = .ok (.iconst 2, 1) := by decide +kernel
theorem dX7_visits_47 : decode cX7_visits 47 = .ok (.idiv, 1) := by decide +kernel
theorem dX7_visits_48 : decode cX7_visits 48 = .ok (.iconst 4, 1) := by decide +kernel
theorem dX7_visits_49 : decode cX7_visits 49 = .ok (.iload_n 2, 1) := by decide +kernel
theorem dX7_visits_50 : decode cX7_visits 50 = .ok (.ifCond .eq 7, 3) := by decide +kernel
theorem dX7_visits_53 : decode cX7_visits 53 = .ok (.iconst 1, 1) := by decide +kernel
theorem dX7_visits_54 : decode cX7_visits 54 = .ok (.goto 4, 3) := by decide +kernel
theorem dX7_visits_57 : decode cX7_visits 57 = .ok (.iconst 2, 1) := by decide +kernel
theorem dX7_visits_58 : decode cX7_visits 58 = .ok (.invokevirtual 103, 3) := by decide +kernel
theorem dX7_visits_61 : decode cX7_visits 61 = .ok (.aload_n 0, 1) := by decide +kernel
theorem dX7_visits_62 : decode cX7_visits 62 = .ok (.getfield 7, 3) := by decide +kernel
theorem dX7_visits_65 : decode cX7_visits 65 = .ok (.bipush 7, 2) := by decide +kernel
theorem dX7_visits_67 : decode cX7_visits 67 = .ok (.aload_n 0, 1) := by decide +kernel
theorem dX7_visits_68 : decode cX7_visits 68 = .ok (.iload_n 1, 1) := by decide +kernel
theorem dX7_visits_69 : decode cX7_visits 69 = .ok (.invokevirtual 79, 3) := by decide +kernel
theorem dX7_visits_72 : decode cX7_visits 72 = .ok (.iastore, 1) := by decide +kernel
theorem dX7_visits_73 : decode cX7_visits 73 = .ok (.aload_n 0, 1) := by decide +kernel
theorem dX7_visits_74 : decode cX7_visits 74 = .ok (.getfield 7, 3) := by decide +kernel
theorem dX7_visits_77 : decode cX7_visits 77 = .ok (.bipush 8, 2) := by decide +kernel
theorem dX7_visits_79 : decode cX7_visits 79 = .ok (.aload_n 0, 1) := by decide +kernel
theorem dX7_visits_80 : decode cX7_visits 80 = .ok (.getfield 32, 3) := by decide +kernel
theorem dX7_visits_83 : decode cX7_visits 83 = .ok (.iconst 0, 1) := by decide +kernel
theorem dX7_visits_84 : decode cX7_visits 84 = .ok (.iaload, 1) := by decide +kernel
theorem dX7_visits_85 : decode cX7_visits 85 = .ok (.aload_n 0, 1) := by decide +kernel
theorem dX7_visits_86 : decode cX7_visits 86 = .ok (.getfield 7, 3) := by decide +kernel
theorem dX7_visits_89 : decode cX7_visits 89 = .ok (.iconst 2, 1) := by decide +kernel
theorem dX7_visits_90 : decode cX7_visits 90 = .ok (.iaload, 1) := by decide +kernel
theorem dX7_visits_91 : decode cX7_visits 91 = .ok (.iadd, 1) := by decide +kernel
theorem dX7_visits_92 : decode cX7_visits 92 = .ok (.iastore, 1) := by decide +kernel
theorem dX7_visits_93 : decode cX7_visits 93 = .ok (.aload_n 0, 1) := by decide +kernel
theorem dX7_visits_94 : decode cX7_visits 94 = .ok (.getfield 7, 3) := by decide +kernel
theorem dX7_visits_97 : decode cX7_visits 97 = .ok (.iconst 5, 1) := by decide +kernel
theorem dX7_visits_98 : decode cX7_visits 98 = .ok (.dup2, 1) := by decide +kernel
theorem dX7_visits_99 : decode cX7_visits 99 = .ok (.iaload, 1) := by decide +kernel
theorem dX7_visits_100 : decode cX7_visits 100 = .ok (.iconst 1, 1) := by decide +kernel
theorem dX7_visits_101 : decode cX7_visits 101 = .ok (.isub, 1) := by decide +kernel
theorem dX7_visits_102 : decode cX7_visits 102 = .ok (.iastore, 1) := by decide +kernel
theorem dX7_visits_103 : decode cX7_visits 103 = .ok (.iconst 0, 1) := by decide +kernel
theorem dX7_visits_104 : decode cX7_visits 104 = .ok (.istore_n 3, 1) := by decide +kernel
theorem dX7_visits_105 : decode cX7_visits 105 = .ok (.iload_n 3, 1) := by decide +kernel
theorem dX7_visits_106 : decode cX7_visits 106 = .ok (.aload_n 0, 1) := by decide +kernel
theorem dX7_visits_107 : decode cX7_visits 107 = .ok (.getfield 7, 3) := by decide +kernel
theorem dX7_visits_110 : decode cX7_visits 110 = .ok (.iconst 5, 1) := by decide +kernel
theorem dX7_visits_111 : decode cX7_visits 111 = .ok (.iaload, 1) := by decide +kernel
theorem dX7_visits_112 : decode cX7_visits 112 = .ok (.if_icmp .ge 31, 3) := by decide +kernel
theorem dX7_visits_115 : decode cX7_visits 115 = .ok (.aload_n 0, 1) := by decide +kernel
theorem dX7_visits_116 : decode cX7_visits 116 = .ok (.getfield 7, 3) := by decide +kernel
theorem dX7_visits_119 : decode cX7_visits 119 = .ok (.sipush 152, 3) := by decide +kernel
theorem dX7_visits_122 : decode cX7_visits 122 = .ok (.iload_n 3, 1) := by decide +kernel
theorem dX7_visits_123 : decode cX7_visits 123 = .ok (.iadd, 1) := by decide +kernel
theorem dX7_visits_124 : decode cX7_visits 124 = .ok (.aload_n 0, 1) := by decide +kernel
theorem dX7_visits_125 : decode cX7_visits 125 = .ok (.getfield 7, 3) := by decide +kernel
theorem dX7_visits_128 : decode cX7_visits 128 = .ok (.sipush 152, 3) := by decide +kernel
theorem dX7_visits_131 : decode cX7_visits 131 = .ok (.iload_n 3, 1) := by decide +kernel
theorem dX7_visits_132 : decode cX7_visits 132 = .ok (.iadd, 1) := by decide +kernel
theorem dX7_visits_133 : decode cX7_visits 133 = .ok (.iconst 1, 1) := by decide +kernel
theorem dX7_visits_134 : decode cX7_visits 134 = .ok (.iadd, 1) := by decide +kernel
theorem dX7_visits_135 : decode cX7_visits 135 = .ok (.iaload, 1) := by decide +kernel
theorem dX7_visits_136 : decode cX7_visits 136 = .ok (.iastore, 1) := by decide +kernel
theorem dX7_visits_137 : decode cX7_visits 137 = .ok (.iinc 3 1, 3) := by decide +kernel
theorem dX7_visits_140 : decode cX7_visits 140 = .ok (.goto (-35), 3) := by decide +kernel
theorem dX7_visits_143 : decode cX7_visits 143 = .ok (.aload_n 0, 1) := by decide +kernel
theorem dX7_visits_144 : decode cX7_visits 144 = .ok (.getfield 7, 3) := by decide +kernel
theorem dX7_visits_147 : decode cX7_visits 147 = .ok (.sipush 152, 3) := by decide +kernel
theorem dX7_visits_150 : decode cX7_visits 150 = .ok (.aload_n 0, 1) := by decide +kernel
theorem dX7_visits_151 : decode cX7_visits 151 = .ok (.getfield 7, 3) := by decide +kernel
theorem dX7_visits_154 : decode cX7_visits 154 = .ok (.iconst 5, 1) := by decide +kernel
theorem dX7_visits_155 : decode cX7_visits 155 = .ok (.iaload, 1) := by decide +kernel
theorem dX7_visits_156 : decode cX7_visits 156 = .ok (.iadd, 1) := by decide +kernel
theorem dX7_visits_157 : decode cX7_visits 157 = .ok (.iconst 0, 1) := by decide +kernel
theorem dX7_visits_158 : decode cX7_visits 158 = .ok (.iastore, 1) := by decide +kernel
theorem dX7_visits_159 : decode cX7_visits 159 = .ok (.return_, 1) := by decide +kernel
set_option maxRecDepth 20000 in
theorem ggX7_visits_X7_stopOf : GoodIn wsX7_visits wsX7_stopOf := goodIn_r _ [11, 12, 13, 14, 6, 15, 1, 16, 17, 18, 19, 20, 21, 22, 23, 24, 25, 26, 27, 28, 29, 30, 31, 32, 33, 34, 35, 36, 37, 38, 39, 40, 41] (by decide +kernel) (by decide +kernel)
set_option maxRecDepth 20000 in
theorem gX7_visits_X7_stopOf : GoodIn wsX7_visits (wsV RX7 79 RX7 yX7_stopOf wsX7_stopOf) := goodIn_app (goodIn_of _ (by decide +kernel)) ggX7_visits_X7_stopOf
set_option maxRecDepth 20000 in
theorem ggX7_visits_X7_lay : GoodIn wsX7_visits wsX7_lay := goodIn_r _ [7, 1, 16, 17, 18, 19, 20, 21, 22, 23, 24, 25, 26, 27, 28, 29, 30, 31, 32, 33, 34, 35, 36, 37, 38, 39, 40, 41] (by decide +kernel) (by decide +kernel)
set_option maxRecDepth 20000 in
theorem gX7_visits_X7_lay : GoodIn wsX7_visits (wsV RX7 103 RX7 yX7_lay wsX7_lay) := goodIn_app (goodIn_of _ (by decide +kernel)) ggX7_visits_X7_lay
theorem kX7_visits_1 : Cond.fieldLink RX7 7 "BookedDetoursModel" "s" "[I" ∈ wsX7_visits := List.mem_of_getElem? (i := 1) (by decide +kernel)
theorem kX7_visits_2 : Cond.fieldLink RX7 32 "BookedDetoursModel" "times" "[I" ∈ wsX7_visits := List.mem_of_getElem? (i := 2) (by decide +kernel)
theorem hX7_visits_X7 : ∀ w ∈ u_ws RX7 TX7 26, w ∈ wsX7_visits := fun _ h => List.mem_cons_of_mem _ (List.mem_append_right _ h)
set_option maxHeartbeats 4000000 in
set_option maxRecDepth 100000 in
theorem w_X7_visits_61 {Z : yZ} (g : yG) (M : Nat → Nat) (C : yC Z g cX7_visits 4 wsX7_visits RX7) {post : List va_W → Prop} (HR : yRv Z ({ frames := 2, cells := 0, slots := 0, locals := 43 } : Room) cX7_visits post 0 0) {X105 : MV → Int32 → Prop} (hX105 : ∀ (m : MV) (x3 : Int32), X105 m x3 → yJ Z ({ frames := 2, cells := 0, slots := 0, locals := 43 } : Room) 0 0 ([modW g M m] : List va_W) 105 [(0, .ref (M 0)), (3, .int x3)] []) {K : MV → Prop} (hK : ∀ (m : MV), K m → post ([modW g M m] : List va_W)) (m : MV) (x1 : Int32) (h : wp_X7_visits_61  X105 K m x1) : yJ Z ({ frames := 2, cells := 0, slots := 0, locals := 43 } : Room) 0 0 ([modW g M m] : List va_W) 61 [(0, .ref (M 0)), (1, .int x1)] [] := by
  unfold wp_X7_visits_61 at h
  refine y_aload_n C dX7_visits_61 0 rfl rfl ?_
  refine y_get (Cn := RX7) (T := TX7) (N := 26) (v := .ref (M 1)) C dX7_visits_62 hX7_visits_X7 0 (sh_5000 g M m) rfl 1 (Nat.le_of_ble_eq_true rfl) kX7_visits_1 rfl ?_
  refine y_bipush (v := 7) C dX7_visits_65 (by decide) ?_
  refine y_aload_n C dX7_visits_67 0 rfl rfl ?_
  refine y_iload_n C dX7_visits_68 1 rfl rfl ?_
  refine y_callV (As := [.int x1]) (rest := [.int (7 : Int32), .ref (M 1)]) C dX7_visits_69 (u_X7_stopOf g M m x1 h) rfl rfl rfl rfl ⟨Nat.le_of_ble_eq_true rfl, Nat.le_of_ble_eq_true rfl⟩ gX7_visits_X7_stopOf (nA := 1) (by decide +kernel) rfl (sh_5010 g M m) (Nat.le_of_ble_eq_true rfl) ⟨Nat.le_of_ble_eq_true rfl, Nat.le_of_ble_eq_true rfl⟩ [0] [] (nB := 1) rfl (by decide +kernel) (sh_5009 g M m) (fun r1 w9 hw => ?_)
  obtain ⟨h, rfl⟩ := hw
  refine ⟨([modW g M m] : List va_W), ⟨(sh_5009 g M m), rfl, rfl⟩, ?_⟩
  obtain ⟨hb2, h⟩ := h
  obtain ⟨m3, em3⟩ : ∃ z : MV, z = mA m 1 (7 : Int32).toNatClampNeg r1 := ⟨_, rfl⟩
  have h := y_letP h em3
  refine y_iast (N := 186) (f := (m.2 1)) (L1 := ([modW g M m3] : List va_W)) C dX7_visits_72 1 (sh_5001 g M m) hb2 (sh_5003 g M m (7 : Int32).toNatClampNeg r1 m3 em3) ?_
  refine y_aload_n C dX7_visits_73 0 rfl rfl ?_
  refine y_get (Cn := RX7) (T := TX7) (N := 26) (v := .ref (M 1)) C dX7_visits_74 hX7_visits_X7 0 (sh_5000 g M m3) rfl 1 (Nat.le_of_ble_eq_true rfl) kX7_visits_1 rfl ?_
  refine y_bipush (v := 8) C dX7_visits_77 (by decide) ?_
  refine y_aload_n C dX7_visits_79 0 rfl rfl ?_
  refine y_get (Cn := RX7) (T := TX7) (N := 26) (v := .ref (M 8)) C dX7_visits_80 hX7_visits_X7 0 (sh_5000 g M m3) rfl 11 (Nat.le_of_ble_eq_true rfl) kX7_visits_2 rfl ?_
  refine y_iconst (v := 0) C dX7_visits_83 (by decide) ?_
  obtain ⟨hb4, h⟩ := h
  refine y_iald (N := 36) (f := (m3.2 11)) C dX7_visits_84 8 (sh_5012 g M m3) hb4 ?_
  refine y_aload_n C dX7_visits_85 0 rfl rfl ?_
  refine y_get (Cn := RX7) (T := TX7) (N := 26) (v := .ref (M 1)) C dX7_visits_86 hX7_visits_X7 0 (sh_5000 g M m3) rfl 1 (Nat.le_of_ble_eq_true rfl) kX7_visits_1 rfl ?_
  refine y_iconst (v := 2) C dX7_visits_89 (by decide) ?_
  obtain ⟨hb5, h⟩ := h
  refine y_iald (N := 186) (f := (m3.2 1)) C dX7_visits_90 1 (sh_5001 g M m3) hb5 ?_
  refine y_iadd C dX7_visits_91 ?_
  obtain ⟨hb6, h⟩ := h
  obtain ⟨m7, em7⟩ : ∃ z : MV, z = mA m3 1 (8 : Int32).toNatClampNeg (((m3.2 11) (0 : Int32).toNatClampNeg) + ((m3.2 1) (2 : Int32).toNatClampNeg)) := ⟨_, rfl⟩
  have h := y_letP h em7
  refine y_iast (N := 186) (f := (m3.2 1)) (L1 := ([modW g M m7] : List va_W)) C dX7_visits_92 1 (sh_5001 g M m3) hb6 (sh_5003 g M m3 (8 : Int32).toNatClampNeg (((m3.2 11) (0 : Int32).toNatClampNeg) + ((m3.2 1) (2 : Int32).toNatClampNeg)) m7 em7) ?_
  refine y_aload_n C dX7_visits_93 0 rfl rfl ?_
  refine y_get (Cn := RX7) (T := TX7) (N := 26) (v := .ref (M 1)) C dX7_visits_94 hX7_visits_X7 0 (sh_5000 g M m7) rfl 1 (Nat.le_of_ble_eq_true rfl) kX7_visits_1 rfl ?_
  refine y_iconst (v := 5) C dX7_visits_97 (by decide) ?_
  refine y_dup2 C dX7_visits_98 rfl rfl ?_
  obtain ⟨hb8, h⟩ := h
  refine y_iald (N := 186) (f := (m7.2 1)) C dX7_visits_99 1 (sh_5001 g M m7) hb8 ?_
  refine y_iconst (v := 1) C dX7_visits_100 (by decide) ?_
  refine y_isub C dX7_visits_101 ?_
  obtain ⟨hb9, h⟩ := h
  obtain ⟨m10, em10⟩ : ∃ z : MV, z = mA m7 1 (5 : Int32).toNatClampNeg (((m7.2 1) (5 : Int32).toNatClampNeg) - (1 : Int32)) := ⟨_, rfl⟩
  have h := y_letP h em10
  refine y_iast (N := 186) (f := (m7.2 1)) (L1 := ([modW g M m10] : List va_W)) C dX7_visits_102 1 (sh_5001 g M m7) hb9 (sh_5003 g M m7 (5 : Int32).toNatClampNeg (((m7.2 1) (5 : Int32).toNatClampNeg) - (1 : Int32)) m10 em10) ?_
  refine y_iconst (v := 0) C dX7_visits_103 (by decide) ?_
  refine y_istore_n (lv' := [(3, .int (0 : Int32)), (0, .ref (M 0)), (1, .int x1)]) C dX7_visits_104 rfl (Nat.le_of_ble_eq_true rfl) rfl ?_
  refine y_sub (lv' := [(0, .ref (M 0)), (3, .int (0 : Int32))]) [1, 0] rfl ?_
  exact hX105 _ _ h
set_option maxHeartbeats 4000000 in
set_option maxRecDepth 100000 in
theorem w_X7_visits_44 {Z : yZ} (g : yG) (M : Nat → Nat) (C : yC Z g cX7_visits 4 wsX7_visits RX7) {post : List va_W → Prop} (HR : yRv Z ({ frames := 2, cells := 0, slots := 0, locals := 43 } : Room) cX7_visits post 0 0) {X105 : MV → Int32 → Prop} (hX105 : ∀ (m : MV) (x3 : Int32), X105 m x3 → yJ Z ({ frames := 2, cells := 0, slots := 0, locals := 43 } : Room) 0 0 ([modW g M m] : List va_W) 105 [(0, .ref (M 0)), (3, .int x3)] []) {K : MV → Prop} (hK : ∀ (m : MV), K m → post ([modW g M m] : List va_W)) (m : MV) (x1 : Int32) (x2 : Int32) (h : wp_X7_visits_44  X105 K m x1 x2) : yJ Z ({ frames := 2, cells := 0, slots := 0, locals := 43 } : Room) 0 0 ([modW g M m] : List va_W) 44 [(0, .ref (M 0)), (1, .int x1), (2, .int x2)] [] := by
  unfold wp_X7_visits_44 at h
  refine y_aload_n C dX7_visits_44 0 rfl rfl ?_
  refine y_iload_n C dX7_visits_45 1 rfl rfl ?_
  refine y_iconst (v := 2) C dX7_visits_46 (by decide) ?_
  refine y_idiv C dX7_visits_47 (by decide) ?_
  refine y_iconst (v := 4) C dX7_visits_48 (by decide) ?_
  refine y_iload_n C dX7_visits_49 2 rfl rfl ?_
  refine y_if_eq (tgt := 57) C dX7_visits_50 rfl h (fun c50 h => ?_) (fun c50 h => ?_)
  · refine y_iconst (v := 2) C dX7_visits_57 (by decide) ?_
    refine y_callVv (As := [.int (x1 / (2 : Int32)), .int (4 : Int32), .int (2 : Int32)]) (rest := []) C dX7_visits_58 (u_X7_lay g M m (x1 / (2 : Int32)) (4 : Int32) (2 : Int32) h) rfl rfl rfl rfl ⟨Nat.le_of_ble_eq_true rfl, Nat.le_of_ble_eq_true rfl⟩ gX7_visits_X7_lay (nA := 3) (by decide +kernel) rfl (sh_5010 g M m) (Nat.le_of_ble_eq_true rfl) ⟨Nat.le_of_ble_eq_true rfl, Nat.le_of_ble_eq_true rfl⟩ [0] [] (nB := 1) rfl (by decide +kernel) (sh_5009 g M m) (fun w9 hw => ?_)
    obtain ⟨m1, h, rfl⟩ := hw
    refine ⟨([modW g M m1] : List va_W), (sh_5023 g M m m1), ?_⟩
    refine y_sub (lv' := [(0, .ref (M 0)), (1, .int x1)]) [0, 1] rfl ?_
    exact w_X7_visits_61 g M C HR hX105 hK _ _ h
  · refine y_iconst (v := 1) C dX7_visits_53 (by decide) ?_
    refine y_goto (tgt := 58) C dX7_visits_54 rfl ?_
    refine y_callVv (As := [.int (x1 / (2 : Int32)), .int (4 : Int32), .int (1 : Int32)]) (rest := []) C dX7_visits_58 (u_X7_lay g M m (x1 / (2 : Int32)) (4 : Int32) (1 : Int32) h) rfl rfl rfl rfl ⟨Nat.le_of_ble_eq_true rfl, Nat.le_of_ble_eq_true rfl⟩ gX7_visits_X7_lay (nA := 3) (by decide +kernel) rfl (sh_5010 g M m) (Nat.le_of_ble_eq_true rfl) ⟨Nat.le_of_ble_eq_true rfl, Nat.le_of_ble_eq_true rfl⟩ [0] [] (nB := 1) rfl (by decide +kernel) (sh_5009 g M m) (fun w9 hw => ?_)
    obtain ⟨m3, h, rfl⟩ := hw
    refine ⟨([modW g M m3] : List va_W), (sh_5023 g M m m3), ?_⟩
    refine y_sub (lv' := [(0, .ref (M 0)), (1, .int x1)]) [0, 1] rfl ?_
    exact w_X7_visits_61 g M C HR hX105 hK _ _ h
set_option maxHeartbeats 4000000 in
set_option maxRecDepth 100000 in
theorem w_X7_visits_21 {Z : yZ} (g : yG) (M : Nat → Nat) (C : yC Z g cX7_visits 4 wsX7_visits RX7) {post : List va_W → Prop} (HR : yRv Z ({ frames := 2, cells := 0, slots := 0, locals := 43 } : Room) cX7_visits post 0 0) {X105 : MV → Int32 → Prop} (hX105 : ∀ (m : MV) (x3 : Int32), X105 m x3 → yJ Z ({ frames := 2, cells := 0, slots := 0, locals := 43 } : Room) 0 0 ([modW g M m] : List va_W) 105 [(0, .ref (M 0)), (3, .int x3)] []) {K : MV → Prop} (hK : ∀ (m : MV), K m → post ([modW g M m] : List va_W)) (m : MV) (x1 : Int32) (x2 : Int32) (h : wp_X7_visits_21  X105 K m x1 x2) : yJ Z ({ frames := 2, cells := 0, slots := 0, locals := 43 } : Room) 0 0 ([modW g M m] : List va_W) 21 [(0, .ref (M 0)), (1, .int x1), (2, .int x2)] [] := by
  unfold wp_X7_visits_21 at h
  refine y_aload_n C dX7_visits_21 0 rfl rfl ?_
  refine y_iload_n C dX7_visits_22 1 rfl rfl ?_
  refine y_iconst (v := 2) C dX7_visits_23 (by decide) ?_
  refine y_idiv C dX7_visits_24 (by decide) ?_
  refine y_iload_n C dX7_visits_25 2 rfl rfl ?_
  refine y_if_eq (tgt := 33) C dX7_visits_26 rfl h (fun c26 h => ?_) (fun c26 h => ?_)
  · refine y_bipush (v := 6) C dX7_visits_33 (by decide) ?_
    refine y_aload_n C dX7_visits_35 0 rfl rfl ?_
    refine y_get (Cn := RX7) (T := TX7) (N := 26) (v := .ref (M 8)) C dX7_visits_36 hX7_visits_X7 0 (sh_5000 g M m) rfl 11 (Nat.le_of_ble_eq_true rfl) kX7_visits_2 rfl ?_
    refine y_iconst (v := 0) C dX7_visits_39 (by decide) ?_
    obtain ⟨hb1, h⟩ := h
    refine y_iald (N := 36) (f := (m.2 11)) C dX7_visits_40 8 (sh_5012 g M m) hb1 ?_
    refine y_callVv (As := [.int (x1 / (2 : Int32)), .int (6 : Int32), .int ((m.2 11) (0 : Int32).toNatClampNeg)]) (rest := []) C dX7_visits_41 (u_X7_lay g M m (x1 / (2 : Int32)) (6 : Int32) ((m.2 11) (0 : Int32).toNatClampNeg) h) rfl rfl rfl rfl ⟨Nat.le_of_ble_eq_true rfl, Nat.le_of_ble_eq_true rfl⟩ gX7_visits_X7_lay (nA := 3) (by decide +kernel) rfl (sh_5010 g M m) (Nat.le_of_ble_eq_true rfl) ⟨Nat.le_of_ble_eq_true rfl, Nat.le_of_ble_eq_true rfl⟩ [0] [] (nB := 1) rfl (by decide +kernel) (sh_5009 g M m) (fun w9 hw => ?_)
    obtain ⟨m2, h, rfl⟩ := hw
    refine ⟨([modW g M m2] : List va_W), (sh_5023 g M m m2), ?_⟩
    refine y_sub (lv' := [(0, .ref (M 0)), (1, .int x1), (2, .int x2)]) [0, 1, 2] rfl ?_
    exact w_X7_visits_44 g M C HR hX105 hK _ _ _ h
  · refine y_iconst (v := 5) C dX7_visits_29 (by decide) ?_
    refine y_goto (tgt := 35) C dX7_visits_30 rfl ?_
    refine y_aload_n C dX7_visits_35 0 rfl rfl ?_
    refine y_get (Cn := RX7) (T := TX7) (N := 26) (v := .ref (M 8)) C dX7_visits_36 hX7_visits_X7 0 (sh_5000 g M m) rfl 11 (Nat.le_of_ble_eq_true rfl) kX7_visits_2 rfl ?_
    refine y_iconst (v := 0) C dX7_visits_39 (by decide) ?_
    obtain ⟨hb4, h⟩ := h
    refine y_iald (N := 36) (f := (m.2 11)) C dX7_visits_40 8 (sh_5012 g M m) hb4 ?_
    refine y_callVv (As := [.int (x1 / (2 : Int32)), .int (5 : Int32), .int ((m.2 11) (0 : Int32).toNatClampNeg)]) (rest := []) C dX7_visits_41 (u_X7_lay g M m (x1 / (2 : Int32)) (5 : Int32) ((m.2 11) (0 : Int32).toNatClampNeg) h) rfl rfl rfl rfl ⟨Nat.le_of_ble_eq_true rfl, Nat.le_of_ble_eq_true rfl⟩ gX7_visits_X7_lay (nA := 3) (by decide +kernel) rfl (sh_5010 g M m) (Nat.le_of_ble_eq_true rfl) ⟨Nat.le_of_ble_eq_true rfl, Nat.le_of_ble_eq_true rfl⟩ [0] [] (nB := 1) rfl (by decide +kernel) (sh_5009 g M m) (fun w9 hw => ?_)
    obtain ⟨m5, h, rfl⟩ := hw
    refine ⟨([modW g M m5] : List va_W), (sh_5023 g M m m5), ?_⟩
    refine y_sub (lv' := [(0, .ref (M 0)), (1, .int x1), (2, .int x2)]) [0, 1, 2] rfl ?_
    exact w_X7_visits_44 g M C HR hX105 hK _ _ _ h
set_option maxHeartbeats 4000000 in
set_option maxRecDepth 100000 in
theorem w_X7_visits_105 {Z : yZ} (g : yG) (M : Nat → Nat) (C : yC Z g cX7_visits 4 wsX7_visits RX7) {post : List va_W → Prop} (HR : yRv Z ({ frames := 2, cells := 0, slots := 0, locals := 43 } : Room) cX7_visits post 0 0) {X105 : MV → Int32 → Prop} (hX105 : ∀ (m : MV) (x3 : Int32), X105 m x3 → yJ Z ({ frames := 2, cells := 0, slots := 0, locals := 43 } : Room) 0 0 ([modW g M m] : List va_W) 105 [(0, .ref (M 0)), (3, .int x3)] []) {K : MV → Prop} (hK : ∀ (m : MV), K m → post ([modW g M m] : List va_W)) (m : MV) (x3 : Int32) (h : wp_X7_visits_105  X105 K m x3) : yJ Z ({ frames := 2, cells := 0, slots := 0, locals := 43 } : Room) 0 0 ([modW g M m] : List va_W) 105 [(0, .ref (M 0)), (3, .int x3)] [] := by
  unfold wp_X7_visits_105 at h
  refine y_iload_n C dX7_visits_105 1 rfl rfl ?_
  refine y_aload_n C dX7_visits_106 0 rfl rfl ?_
  refine y_get (Cn := RX7) (T := TX7) (N := 26) (v := .ref (M 1)) C dX7_visits_107 hX7_visits_X7 0 (sh_5000 g M m) rfl 1 (Nat.le_of_ble_eq_true rfl) kX7_visits_1 rfl ?_
  refine y_iconst (v := 5) C dX7_visits_110 (by decide) ?_
  obtain ⟨hb1, h⟩ := h
  refine y_iald (N := 186) (f := (m.2 1)) C dX7_visits_111 1 (sh_5001 g M m) hb1 ?_
  refine y_icmp_ge (tgt := 143) C dX7_visits_112 rfl h (fun c112 h => ?_) (fun c112 h => ?_)
  · refine y_aload_n C dX7_visits_143 0 rfl rfl ?_
    refine y_get (Cn := RX7) (T := TX7) (N := 26) (v := .ref (M 1)) C dX7_visits_144 hX7_visits_X7 0 (sh_5000 g M m) rfl 1 (Nat.le_of_ble_eq_true rfl) kX7_visits_1 rfl ?_
    refine y_sipush (v := 152) C dX7_visits_147 (by decide) ?_
    refine y_aload_n C dX7_visits_150 0 rfl rfl ?_
    refine y_get (Cn := RX7) (T := TX7) (N := 26) (v := .ref (M 1)) C dX7_visits_151 hX7_visits_X7 0 (sh_5000 g M m) rfl 1 (Nat.le_of_ble_eq_true rfl) kX7_visits_1 rfl ?_
    refine y_iconst (v := 5) C dX7_visits_154 (by decide) ?_
    obtain ⟨hb2, h⟩ := h
    refine y_iald (N := 186) (f := (m.2 1)) C dX7_visits_155 1 (sh_5001 g M m) hb2 ?_
    refine y_iadd C dX7_visits_156 ?_
    refine y_iconst (v := 0) C dX7_visits_157 (by decide) ?_
    obtain ⟨hb3, h⟩ := h
    obtain ⟨m4, em4⟩ : ∃ z : MV, z = mA m 1 ((152 : Int32) + ((m.2 1) (5 : Int32).toNatClampNeg)).toNatClampNeg (0 : Int32) := ⟨_, rfl⟩
    have h := y_letP h em4
    refine y_iast (N := 186) (f := (m.2 1)) (L1 := ([modW g M m4] : List va_W)) C dX7_visits_158 1 (sh_5001 g M m) hb3 (sh_5003 g M m ((152 : Int32) + ((m.2 1) (5 : Int32).toNatClampNeg)).toNatClampNeg (0 : Int32) m4 em4) ?_
    exact HR 159 dX7_visits_159 _ _ _ _ (Nat.le_of_ble_eq_true rfl) (Nat.le_of_ble_eq_true rfl) (hK _  h)
  · refine y_aload_n C dX7_visits_115 0 rfl rfl ?_
    refine y_get (Cn := RX7) (T := TX7) (N := 26) (v := .ref (M 1)) C dX7_visits_116 hX7_visits_X7 0 (sh_5000 g M m) rfl 1 (Nat.le_of_ble_eq_true rfl) kX7_visits_1 rfl ?_
    refine y_sipush (v := 152) C dX7_visits_119 (by decide) ?_
    refine y_iload_n C dX7_visits_122 1 rfl rfl ?_
    refine y_iadd C dX7_visits_123 ?_
    refine y_aload_n C dX7_visits_124 0 rfl rfl ?_
    refine y_get (Cn := RX7) (T := TX7) (N := 26) (v := .ref (M 1)) C dX7_visits_125 hX7_visits_X7 0 (sh_5000 g M m) rfl 1 (Nat.le_of_ble_eq_true rfl) kX7_visits_1 rfl ?_
    refine y_sipush (v := 152) C dX7_visits_128 (by decide) ?_
    refine y_iload_n C dX7_visits_131 1 rfl rfl ?_
    refine y_iadd C dX7_visits_132 ?_
    refine y_iconst (v := 1) C dX7_visits_133 (by decide) ?_
    refine y_iadd C dX7_visits_134 ?_
    obtain ⟨hb5, h⟩ := h
    refine y_iald (N := 186) (f := (m.2 1)) C dX7_visits_135 1 (sh_5001 g M m) hb5 ?_
    obtain ⟨hb6, h⟩ := h
    obtain ⟨m7, em7⟩ : ∃ z : MV, z = mA m 1 ((152 : Int32) + x3).toNatClampNeg ((m.2 1) (((152 : Int32) + x3) + (1 : Int32)).toNatClampNeg) := ⟨_, rfl⟩
    have h := y_letP h em7
    refine y_iast (N := 186) (f := (m.2 1)) (L1 := ([modW g M m7] : List va_W)) C dX7_visits_136 1 (sh_5001 g M m) hb6 (sh_5003 g M m ((152 : Int32) + x3).toNatClampNeg ((m.2 1) (((152 : Int32) + x3) + (1 : Int32)).toNatClampNeg) m7 em7) ?_
    refine y_iinc (v := (x3 + (1 : Int32))) (lv' := [(3, .int (x3 + (1 : Int32))), (0, .ref (M 0))]) C dX7_visits_137 1 rfl rfl (Nat.le_of_ble_eq_true rfl) rfl ?_
    refine y_goto (tgt := 105) C dX7_visits_140 rfl ?_
    refine y_sub (lv' := [(0, .ref (M 0)), (3, .int (x3 + (1 : Int32)))]) [1, 0] rfl ?_
    exact hX105 _ _ h
set_option maxHeartbeats 4000000 in
set_option maxRecDepth 100000 in
theorem l_X7_visits {Z : yZ} (g : yG) (M : Nat → Nat) (C : yC Z g cX7_visits 4 wsX7_visits RX7) {post : List va_W → Prop} (HR : yRv Z ({ frames := 2, cells := 0, slots := 0, locals := 43 } : Room) cX7_visits post 0 0) {K : MV → Prop} (hK : ∀ (m : MV), K m → post ([modW g M m] : List va_W)) {I105 : Nat → MV → Int32 → Prop} (o105 : ∀ (w0 : Nat) (m : MV) (x3 : Int32), I105 w0 m x3 → wp_X7_visits_105  (fun (m9 : MV) (x39 : Int32) => ∃ w9, w9 < w0 ∧ I105 w9 m9 x39) K m x3) : ∀ w0 : Nat, (∀ (m : MV) (x3 : Int32), I105 w0 m x3 → yJ Z ({ frames := 2, cells := 0, slots := 0, locals := 43 } : Room) 0 0 ([modW g M m] : List va_W) 105 [(0, .ref (M 0)), (3, .int x3)] []) := by
  intro w0
  induction w0 using Nat.strongRecOn with
  | _ w0 ih =>
    exact fun m x3 hi => w_X7_visits_105 g M C HR (fun m x3 hq => by obtain ⟨w9, hlt, hi⟩ := hq; exact (ih w9 hlt) m x3 hi) hK m x3 (o105 w0 m x3 hi)
set_option maxHeartbeats 4000000 in
set_option maxRecDepth 100000 in
theorem t_X7_visits (g : yG) (M : Nat → Nat) (m : MV)  {post : List va_W → Prop} {K : MV → Prop} (hK : ∀ (m : MV), K m → post ([modW g M m] : List va_W)) (hPO : PO_X7_visits  K m ) : yMv g yX7_visits wsX7_visits ({ frames := 2, cells := 0, slots := 0, locals := 43 } : Room) [.ref (M 0)] ([modW g M m] : List va_W) post 0 0 := by
  refine y_entryV (cc := cX7_visits) (maxL := 4) (by decide +kernel) rfl (Nat.le_of_ble_eq_true rfl) (fun Z C _ HR => ?_)
  have C : yC Z g cX7_visits 4 wsX7_visits RX7 := C
  obtain ⟨I105, o105, h⟩ := hPO
  have hX105 : ∀ (m : MV) (x3 : Int32), (fun (m9 : MV) (x39 : Int32) => ∃ w9, I105 w9 m9 x39) m x3 → yJ Z ({ frames := 2, cells := 0, slots := 0, locals := 43 } : Room) 0 0 ([modW g M m] : List va_W) 105 [(0, .ref (M 0)), (3, .int x3)] [] := by
    intro m x3 hq
    obtain ⟨w9, hi⟩ := hq
    exact (l_X7_visits g M C HR hK o105 w9) m x3 hi
  unfold wp_X7_visits_0 at h
  show yJ Z _ 0 0 _ 0 [(0, .ref (M 0))] []
  refine y_aload_n C dX7_visits_0 0 rfl rfl ?_
  refine y_get (Cn := RX7) (T := TX7) (N := 26) (v := .ref (M 1)) C dX7_visits_1 hX7_visits_X7 0 (sh_5000 g M m) rfl 1 (Nat.le_of_ble_eq_true rfl) kX7_visits_1 rfl ?_
  refine y_sipush (v := 152) C dX7_visits_4 (by decide) ?_
  obtain ⟨hb1, h⟩ := h
  refine y_iald (N := 186) (f := (m.2 1)) C dX7_visits_7 1 (sh_5001 g M m) hb1 ?_
  refine y_istore_n (lv' := [(1, .int ((m.2 1) (152 : Int32).toNatClampNeg)), (0, .ref (M 0))]) C dX7_visits_8 rfl (Nat.le_of_ble_eq_true rfl) rfl ?_
  refine y_iload_n C dX7_visits_9 0 rfl rfl ?_
  refine y_iconst (v := 2) C dX7_visits_10 (by decide) ?_
  refine y_irem C dX7_visits_11 (by decide) ?_
  refine y_if_ne (tgt := 19) C dX7_visits_12 rfl h (fun c12 h => ?_) (fun c12 h => ?_)
  · refine y_iconst (v := 0) C dX7_visits_19 (by decide) ?_
    refine y_istore_n (lv' := [(2, .int (0 : Int32)), (1, .int ((m.2 1) (152 : Int32).toNatClampNeg)), (0, .ref (M 0))]) C dX7_visits_20 rfl (Nat.le_of_ble_eq_true rfl) rfl ?_
    refine y_sub (lv' := [(0, .ref (M 0)), (1, .int ((m.2 1) (152 : Int32).toNatClampNeg)), (2, .int (0 : Int32))]) [2, 1, 0] rfl ?_
    exact w_X7_visits_21 g M C HR hX105 hK _ _ _ h
  · refine y_iconst (v := 1) C dX7_visits_15 (by decide) ?_
    refine y_goto (tgt := 20) C dX7_visits_16 rfl ?_
    refine y_istore_n (lv' := [(2, .int (1 : Int32)), (1, .int ((m.2 1) (152 : Int32).toNatClampNeg)), (0, .ref (M 0))]) C dX7_visits_20 rfl (Nat.le_of_ble_eq_true rfl) rfl ?_
    refine y_sub (lv' := [(0, .ref (M 0)), (1, .int ((m.2 1) (152 : Int32).toNatClampNeg)), (2, .int (1 : Int32))]) [2, 1, 0] rfl ?_
    exact w_X7_visits_21 g M C HR hX105 hK _ _ _ h
theorem u_X7_visits (g : yG) (M : Nat → Nat) (m : MV)  {K : MV → Prop} (hPO : PO_X7_visits  K m ) : yMv g yX7_visits wsX7_visits ({ frames := 2, cells := 0, slots := 0, locals := 43 } : Room) [.ref (M 0)] ([modW g M m] : List va_W) (fun w => ∃ m' : MV, K m' ∧ w = ([modW g M m'] : List va_W)) 0 0 :=
  t_X7_visits g M m  (fun m hk => ⟨m, hk, rfl⟩) hPO
