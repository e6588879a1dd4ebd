theorem dX7_count_0 : decode cX7_count 0 = .ok (.aload_n 0, 1) := by decide +kernel
theorem dX7_count_1 : decode cX7_count 1 = .ok (.iconst 0, 1) := by decide +kernel
theorem dX7_count_2 : decode cX7_count 2 = .ok (.putfield 44, 3) := by decide +kernel
theorem dX7_count_5 : decode cX7_count 5 = .ok (.aload_n 0, 1) := by decide +kernel
theorem dX7_count_6 : decode cX7_count 6 = .ok (.invokevirtual 164, 3) := by decide +kernel
theorem dX7_count_9 : decode cX7_count 9 = .ok (.iload_n 1, 1) := by decide +kernel
theorem dX7_count_10 : decode cX7_count 10 = .ok (.tableswitch 136 0 13 #[70, 77, 84, 91, 99, 104, 110, 116, 121, 136, 136, 136, 126, 131], 70) := by decide +kernel
theorem dX7_count_80 : decode cX7_count 80 = .ok (.aload_n 0, 1) := by decide +kernel
theorem dX7_count_81 : decode cX7_count 81 = .ok (.getfield 7, 3) := by decide +kernel
theorem dX7_count_84 : decode cX7_count 84 = .ok (.iconst 3, 1) := by decide +kernel
theorem dX7_count_85 : decode cX7_count 85 = .ok (.iaload, 1) := by decide +kernel
theorem dX7_count_86 : decode cX7_count 86 = .ok (.ireturn, 1) := by decide +kernel
theorem dX7_count_87 : decode cX7_count 87 = .ok (.aload_n 0, 1) := by decide +kernel
theorem dX7_count_88 : decode cX7_count 88 = .ok (.getfield 7, 3) := by decide +kernel
theorem dX7_count_91 : decode cX7_count 91 = .ok (.iconst 4, 1) := by decide +kernel
theorem dX7_count_92 : decode cX7_count 92 = .ok (.iaload, 1) := by decide +kernel
theorem dX7_count_93 : decode cX7_count 93 = .ok (.ireturn, 1) := by decide +kernel
theorem dX7_count_94 : decode cX7_count 94 = .ok (.aload_n 0, 1) := by decide +kernel
theorem dX7_count_95 : decode cX7_count 95 = .ok (.getfield 7, 3) := by decide +kernel
theorem dX7_count_98 : decode cX7_count 98 = .ok (.iconst 5, 1) := by decide +kernel
theorem dX7_count_99 : decode cX7_count 99 = .ok (.iaload, 1) := by decide +kernel
theorem dX7_count_100 : decode cX7_count 100 = .ok (.ireturn, 1) := by decide +kernel
theorem dX7_count_101 : decode cX7_count 101 = .ok (.aload_n 0, 1) := by decide +kernel
theorem dX7_count_102 : decode cX7_count 102 = .ok (.getfield 7, 3) := by decide +kernel
theorem dX7_count_105 : decode cX7_count 105 = .ok (.bipush 6, 2) := by decide +kernel
theorem dX7_count_107 : decode cX7_count 107 = .ok (.iaload, 1) := by decide +kernel
theorem dX7_count_108 : decode cX7_count 108 = .ok (.ireturn, 1) := by decide +kernel
theorem dX7_count_109 : decode cX7_count 109 = .ok (.aload_n 0, 1) := by decide +kernel
theorem dX7_count_110 : decode cX7_count 110 = .ok (.getfield 87, 3) := by decide +kernel
theorem dX7_count_113 : decode cX7_count 113 = .ok (.ireturn, 1) := by decide +kernel
theorem dX7_count_114 : decode cX7_count 114 = .ok (.aload_n 0, 1) := by decide +kernel
theorem dX7_count_115 : decode cX7_count 115 = .ok (.iconst 1, 1) := by decide +kernel
theorem dX7_count_116 : decode cX7_count 116 = .ok (.invokevirtual 203, 3) := by decide +kernel
theorem dX7_count_119 : decode cX7_count 119 = .ok (.ireturn, 1) := by decide +kernel
theorem dX7_count_120 : decode cX7_count 120 = .ok (.aload_n 0, 1) := by decide +kernel
theorem dX7_count_121 : decode cX7_count 121 = .ok (.iconst 2, 1) := by decide +kernel
theorem dX7_count_122 : decode cX7_count 122 = .ok (.invokevirtual 203, 3) := by decide +kernel
theorem dX7_count_125 : decode cX7_count 125 = .ok (.ireturn, 1) := by decide +kernel
theorem dX7_count_126 : decode cX7_count 126 = .ok (.aload_n 0, 1) := by decide +kernel
theorem dX7_count_127 : decode cX7_count 127 = .ok (.getfield 72, 3) := by decide +kernel
theorem dX7_count_130 : decode cX7_count 130 = .ok (.ireturn, 1) := by decide +kernel
theorem dX7_count_131 : decode cX7_count 131 = .ok (.aload_n 0, 1) := by decide +kernel
theorem dX7_count_132 : decode cX7_count 132 = .ok (.invokevirtual 206, 3) := by decide +kernel
theorem dX7_count_135 : decode cX7_count 135 = .ok (.ireturn, 1) := by decide +kernel
theorem dX7_count_136 : decode cX7_count 136 = .ok (.aload_n 0, 1) := by decide +kernel
theorem dX7_count_137 : decode cX7_count 137 = .ok (.getfield 172, 3) := by decide +kernel
theorem dX7_count_140 : decode cX7_count 140 = .ok (.ireturn, 1) := by decide +kernel
theorem dX7_count_141 : decode cX7_count 141 = .ok (.aload_n 0, 1) := by decide +kernel
theorem dX7_count_142 : decode cX7_count 142 = .ok (.getfield 52, 3) := by decide +kernel
theorem dX7_count_145 : decode cX7_count 145 = .ok (.ireturn, 1) := by decide +kernel
theorem dX7_count_146 : decode cX7_count 146 = .ok (.iload_n 1, 1) := by decide +kernel
theorem dX7_count_147 : decode cX7_count 147 = .ok (.bipush 9, 2) := by decide +kernel
theorem dX7_count_149 : decode cX7_count 149 = .ok (.bipush 11, 2) := by decide +kernel
theorem dX7_count_151 : decode cX7_count 151 = .ok (.invokestatic 48, 3) := by decide +kernel
theorem dX7_count_154 : decode cX7_count 154 = .ok (.ifCond .eq 15, 3) := by decide +kernel
theorem dX7_count_157 : decode cX7_count 157 = .ok (.aload_n 0, 1) := by decide +kernel
theorem dX7_count_158 : decode cX7_count 158 = .ok (.getfield 7, 3) := by decide +kernel
theorem dX7_count_161 : decode cX7_count 161 = .ok (.iload_n 1, 1) := by decide +kernel
theorem dX7_count_162 : decode cX7_count 162 = .ok (.bipush 9, 2) := by decide +kernel
theorem dX7_count_164 : decode cX7_count 164 = .ok (.isub, 1) := by decide +kernel
theorem dX7_count_165 : decode cX7_count 165 = .ok (.iaload, 1) := by decide +kernel
theorem dX7_count_166 : decode cX7_count 166 = .ok (.goto 5, 3) := by decide +kernel
theorem dX7_count_169 : decode cX7_count 169 = .ok (.bipush (-2), 2) := by decide +kernel
theorem dX7_count_171 : decode cX7_count 171 = .ok (.ireturn, 1) := by decide +kernel
set_option maxRecDepth 20000 in
theorem ggX7_count_X7_drivesRoute : GoodIn wsX7_count wsX7_drivesRoute := goodIn_r _ [11, 2, 12, 13, 14, 10, 15, 16, 17, 18, 19, 20, 21, 4, 22, 23, 24, 25, 3, 26, 27, 28, 29, 30, 31, 32, 33, 34, 35, 36, 37, 38, 39, 40, 41, 42, 43, 44, 45, 46, 47, 48, 49, 50, 51, 52, 53, 54, 55, 56, 68, 69, 70, 71, 72, 73, 74, 75, 76, 77, 78, 79, 80, 81, 82, 83, 84, 85, 86, 87, 88, 89, 90, 91, 92, 93] (by decide +kernel) (by decide +kernel)
set_option maxRecDepth 20000 in
theorem gX7_count_X7_drivesRoute : GoodIn wsX7_count (wsV RX7 164 RX7 yX7_drivesRoute wsX7_drivesRoute) := goodIn_app (goodIn_of _ (by decide +kernel)) ggX7_count_X7_drivesRoute
set_option maxRecDepth 20000 in
theorem ggX7_count_X7_standing : GoodIn wsX7_count wsX7_standing := goodIn_r _ [60, 2, 30, 31, 32, 10, 33, 68, 69, 70, 71, 72, 73, 74, 75, 76, 77, 78, 79, 80, 81, 82, 83, 84, 85, 86, 87, 88, 89, 90, 91, 92, 93] (by decide +kernel) (by decide +kernel)
set_option maxRecDepth 20000 in
theorem gX7_count_X7_standing : GoodIn wsX7_count (wsV RX7 203 RX7 yX7_standing wsX7_standing) := goodIn_app (goodIn_of _ (by decide +kernel)) ggX7_count_X7_standing
set_option maxRecDepth 20000 in
theorem ggX7_count_X7_waiting : GoodIn wsX7_count wsX7_waiting := goodIn_r _ [64, 16, 23, 68, 69, 70, 71, 72, 73, 74, 75, 76, 77, 78, 79, 80, 81, 82, 83, 84, 85, 86, 87, 88, 89, 90, 91, 92, 93] (by decide +kernel) (by decide +kernel)
set_option maxRecDepth 20000 in
theorem gX7_count_X7_waiting : GoodIn wsX7_count (wsV RX7 206 RX7 yX7_waiting wsX7_waiting) := goodIn_app (goodIn_of _ (by decide +kernel)) ggX7_count_X7_waiting
set_option maxRecDepth 20000 in
theorem ggX7_count_X7_in : GoodIn wsX7_count wsX7_in := goodIn_r _ [67] (by decide +kernel) (by decide +kernel)
set_option maxRecDepth 20000 in
theorem gX7_count_X7_in : GoodIn wsX7_count (va_wsS RX7 48 yX7_in wsX7_in) := goodIn_app (goodIn_of _ (by decide +kernel)) ggX7_count_X7_in
theorem kX7_count_1 : Cond.fieldLink RX7 44 "BookedDetoursModel" "thrown" "I" ∈ wsX7_count := List.mem_of_getElem? (i := 1) (by decide +kernel)
theorem kX7_count_2 : Cond.fieldLink RX7 7 "BookedDetoursModel" "s" "[I" ∈ wsX7_count := List.mem_of_getElem? (i := 2) (by decide +kernel)
theorem kX7_count_3 : Cond.fieldLink RX7 87 "BookedDetoursModel" "over" "I" ∈ wsX7_count := List.mem_of_getElem? (i := 3) (by decide +kernel)
theorem kX7_count_4 : Cond.fieldLink RX7 72 "BookedDetoursModel" "driven" "I" ∈ wsX7_count := List.mem_of_getElem? (i := 4) (by decide +kernel)
theorem kX7_count_5 : Cond.fieldLink RX7 172 "BookedDetoursModel" "length" "I" ∈ wsX7_count := List.mem_of_getElem? (i := 5) (by decide +kernel)
theorem kX7_count_6 : Cond.fieldLink RX7 52 "BookedDetoursModel" "undoMany" "I" ∈ wsX7_count := List.mem_of_getElem? (i := 6) (by decide +kernel)
theorem hX7_count_X7 : ∀ w ∈ u_ws RX7 TX7 26, w ∈ wsX7_count := fun _ h => List.mem_cons_of_mem _ (List.mem_append_right _ h)
set_option maxHeartbeats 4000000 in
set_option maxRecDepth 100000 in
theorem t_X7_count (g : yG) (M : Nat → Nat) (m : MV) (wh : Int32) {post : Int32 → List va_W → Prop} {K : Int32 → MV → Prop} (hK : ∀ (r0 : Int32) (m : MV), K r0 m → post r0 ([modW g M m] : List va_W)) (hPO : PO_X7_count wh K m ) : yM g yX7_count wsX7_count ({ frames := 6, cells := 0, slots := 0, locals := 135 } : Room) [.ref (M 0), .int wh] ([modW g M m] : List va_W) post 0 0 := by
  refine y_entryI (cc := cX7_count) (maxL := 2) (by decide +kernel) rfl (Nat.le_of_ble_eq_true rfl) (fun Z C HR => ?_)
  have C : yC Z g cX7_count 2 wsX7_count RX7 := C
  have h := hPO
  unfold PO_X7_count wp_X7_count_0 at h
  show yJ Z _ 0 0 _ 0 [(0, .ref (M 0)), (1, .int wh)] []
  refine y_aload_n C dX7_count_0 0 rfl rfl ?_
  refine y_iconst (v := 0) C dX7_count_1 (by decide) ?_
  obtain ⟨m1, em1⟩ : ∃ z : MV, z = mI m 0 (0 : Int32) := ⟨_, rfl⟩
  have h := y_letP h em1
  refine y_put (Cn := RX7) (T := TX7) (N := 26) (v := .int (0 : Int32)) (ty0 := tyX7) (L1 := ([modW g M m1] : List va_W)) C dX7_count_2 hX7_count_X7 0 (sh_5000 g M m) rfl 0 (Nat.le_of_ble_eq_true rfl) kX7_count_1 tyX7_ok nmX7 rfl rfl rfl (Nat.le_of_ble_eq_true rfl) (sh_5029 g M m (0 : Int32) m1 em1) ?_
  refine y_aload_n C dX7_count_5 0 rfl rfl ?_
  refine y_callVv (As := []) (rest := []) C dX7_count_6 (u_X7_drivesRoute g M m1 h) rfl rfl rfl rfl ⟨Nat.le_of_ble_eq_true rfl, Nat.le_of_ble_eq_true rfl⟩ gX7_count_X7_drivesRoute (nA := 0) (by decide +kernel) rfl (sh_5010 g M m1) (Nat.le_of_ble_eq_true rfl) ⟨Nat.le_of_ble_eq_true rfl, Nat.le_of_ble_eq_true rfl⟩ [0] [] (nB := 1) rfl (by decide +kernel) (sh_5009 g M m1) (fun w9 hw => ?_)
  obtain ⟨m2, h, rfl⟩ := hw
  refine ⟨([modW g M m2] : List va_W), (sh_5023 g M m1 m2), ?_⟩
  refine y_iload_n C dX7_count_9 1 rfl rfl ?_
  refine y_if h (fun c10_0 h => ?_) (fun c10_0 h => ?_)
  · refine y_tabIn (tgt := 80) C dX7_count_10 c10_0 (by decide) (by decide) rfl rfl ?_
    refine y_aload_n C dX7_count_80 0 rfl rfl ?_
    refine y_get (Cn := RX7) (T := TX7) (N := 26) (v := .ref (M 1)) C dX7_count_81 hX7_count_X7 0 (sh_5000 g M m2) rfl 1 (Nat.le_of_ble_eq_true rfl) kX7_count_2 rfl ?_
    refine y_iconst (v := 3) C dX7_count_84 (by decide) ?_
    obtain ⟨hb4, h⟩ := h
    refine y_iald (N := 186) (f := (m2.2 1)) C dX7_count_85 1 (sh_5001 g M m2) hb4 ?_
    exact HR 86 dX7_count_86 ((m2.2 1) (3 : Int32).toNatClampNeg) _ _ _ _ (rfl) (Nat.le_of_ble_eq_true rfl) (Nat.le_of_ble_eq_true rfl) (hK _ _  h)
  refine y_if h (fun c10_1 h => ?_) (fun c10_1 h => ?_)
  · refine y_tabIn (tgt := 87) C dX7_count_10 c10_1 (by decide) (by decide) rfl rfl ?_
    refine y_aload_n C dX7_count_87 0 rfl rfl ?_
    refine y_get (Cn := RX7) (T := TX7) (N := 26) (v := .ref (M 1)) C dX7_count_88 hX7_count_X7 0 (sh_5000 g M m2) rfl 1 (Nat.le_of_ble_eq_true rfl) kX7_count_2 rfl ?_
    refine y_iconst (v := 4) C dX7_count_91 (by decide) ?_
    obtain ⟨hb5, h⟩ := h
    refine y_iald (N := 186) (f := (m2.2 1)) C dX7_count_92 1 (sh_5001 g M m2) hb5 ?_
    exact HR 93 dX7_count_93 ((m2.2 1) (4 : Int32).toNatClampNeg) _ _ _ _ (rfl) (Nat.le_of_ble_eq_true rfl) (Nat.le_of_ble_eq_true rfl) (hK _ _  h)
  refine y_if h (fun c10_2 h => ?_) (fun c10_2 h => ?_)
  · refine y_tabIn (tgt := 94) C dX7_count_10 c10_2 (by decide) (by decide) rfl rfl ?_
    refine y_aload_n C dX7_count_94 0 rfl rfl ?_
    refine y_get (Cn := RX7) (T := TX7) (N := 26) (v := .ref (M 1)) C dX7_count_95 hX7_count_X7 0 (sh_5000 g M m2) rfl 1 (Nat.le_of_ble_eq_true rfl) kX7_count_2 rfl ?_
    refine y_iconst (v := 5) C dX7_count_98 (by decide) ?_
    obtain ⟨hb6, h⟩ := h
    refine y_iald (N := 186) (f := (m2.2 1)) C dX7_count_99 1 (sh_5001 g M m2) hb6 ?_
    exact HR 100 dX7_count_100 ((m2.2 1) (5 : Int32).toNatClampNeg) _ _ _ _ (rfl) (Nat.le_of_ble_eq_true rfl) (Nat.le_of_ble_eq_true rfl) (hK _ _  h)
  refine y_if h (fun c10_3 h => ?_) (fun c10_3 h => ?_)
  · refine y_tabIn (tgt := 101) C dX7_count_10 c10_3 (by decide) (by decide) rfl rfl ?_
    refine y_aload_n C dX7_count_101 0 rfl rfl ?_
    refine y_get (Cn := RX7) (T := TX7) (N := 26) (v := .ref (M 1)) C dX7_count_102 hX7_count_X7 0 (sh_5000 g M m2) rfl 1 (Nat.le_of_ble_eq_true rfl) kX7_count_2 rfl ?_
    refine y_bipush (v := 6) C dX7_count_105 (by decide) ?_
    obtain ⟨hb7, h⟩ := h
    refine y_iald (N := 186) (f := (m2.2 1)) C dX7_count_107 1 (sh_5001 g M m2) hb7 ?_
    exact HR 108 dX7_count_108 ((m2.2 1) (6 : Int32).toNatClampNeg) _ _ _ _ (rfl) (Nat.le_of_ble_eq_true rfl) (Nat.le_of_ble_eq_true rfl) (hK _ _  h)
  refine y_if h (fun c10_4 h => ?_) (fun c10_4 h => ?_)
  · refine y_tabIn (tgt := 109) C dX7_count_10 c10_4 (by decide) (by decide) rfl rfl ?_
    refine y_aload_n C dX7_count_109 0 rfl rfl ?_
    refine y_get (Cn := RX7) (T := TX7) (N := 26) (v := .int (m2.1 15)) C dX7_count_110 hX7_count_X7 0 (sh_5000 g M m2) rfl 15 (Nat.le_of_ble_eq_true rfl) kX7_count_3 rfl ?_
    exact HR 113 dX7_count_113 (m2.1 15) _ _ _ _ (rfl) (Nat.le_of_ble_eq_true rfl) (Nat.le_of_ble_eq_true rfl) (hK _ _  h)
  refine y_if h (fun c10_5 h => ?_) (fun c10_5 h => ?_)
  · refine y_tabIn (tgt := 114) C dX7_count_10 c10_5 (by decide) (by decide) rfl rfl ?_
    refine y_aload_n C dX7_count_114 0 rfl rfl ?_
    refine y_iconst (v := 1) C dX7_count_115 (by decide) ?_
    refine y_callV (As := [.int (1 : Int32)]) (rest := []) C dX7_count_116 (u_X7_standing g M m2 (1 : Int32) h) rfl rfl rfl rfl ⟨Nat.le_of_ble_eq_true rfl, Nat.le_of_ble_eq_true rfl⟩ gX7_count_X7_standing (nA := 1) (by decide +kernel) rfl (sh_5010 g M m2) (Nat.le_of_ble_eq_true rfl) ⟨Nat.le_of_ble_eq_true rfl, Nat.le_of_ble_eq_true rfl⟩ [0] [] (nB := 1) rfl (by decide +kernel) (sh_5009 g M m2) (fun r8 w9 hw => ?_)
    obtain ⟨h, rfl⟩ := hw
    refine ⟨([modW g M m2] : List va_W), ⟨(sh_5009 g M m2), rfl, rfl⟩, ?_⟩
    exact HR 119 dX7_count_119 r8 _ _ _ _ (rfl) (Nat.le_of_ble_eq_true rfl) (Nat.le_of_ble_eq_true rfl) (hK _ _  h)
  refine y_if h (fun c10_6 h => ?_) (fun c10_6 h => ?_)
  · refine y_tabIn (tgt := 120) C dX7_count_10 c10_6 (by decide) (by decide) rfl rfl ?_
    refine y_aload_n C dX7_count_120 0 rfl rfl ?_
    refine y_iconst (v := 2) C dX7_count_121 (by decide) ?_
    refine y_callV (As := [.int (2 : Int32)]) (rest := []) C dX7_count_122 (u_X7_standing g M m2 (2 : Int32) h) rfl rfl rfl rfl ⟨Nat.le_of_ble_eq_true rfl, Nat.le_of_ble_eq_true rfl⟩ gX7_count_X7_standing (nA := 1) (by decide +kernel) rfl (sh_5010 g M m2) (Nat.le_of_ble_eq_true rfl) ⟨Nat.le_of_ble_eq_true rfl, Nat.le_of_ble_eq_true rfl⟩ [0] [] (nB := 1) rfl (by decide +kernel) (sh_5009 g M m2) (fun r9 w9 hw => ?_)
    obtain ⟨h, rfl⟩ := hw
    refine ⟨([modW g M m2] : List va_W), ⟨(sh_5009 g M m2), rfl, rfl⟩, ?_⟩
    exact HR 125 dX7_count_125 r9 _ _ _ _ (rfl) (Nat.le_of_ble_eq_true rfl) (Nat.le_of_ble_eq_true rfl) (hK _ _  h)
  refine y_if h (fun c10_7 h => ?_) (fun c10_7 h => ?_)
  · refine y_tabIn (tgt := 126) C dX7_count_10 c10_7 (by decide) (by decide) rfl rfl ?_
    refine y_aload_n C dX7_count_126 0 rfl rfl ?_
    refine y_get (Cn := RX7) (T := TX7) (N := 26) (v := .int (m2.1 14)) C dX7_count_127 hX7_count_X7 0 (sh_5000 g M m2) rfl 14 (Nat.le_of_ble_eq_true rfl) kX7_count_4 rfl ?_
    exact HR 130 dX7_count_130 (m2.1 14) _ _ _ _ (rfl) (Nat.le_of_ble_eq_true rfl) (Nat.le_of_ble_eq_true rfl) (hK _ _  h)
  refine y_if h (fun c10_8 h => ?_) (fun c10_8 h => ?_)
  · refine y_tabIn (tgt := 131) C dX7_count_10 c10_8 (by decide) (by decide) rfl rfl ?_
    refine y_aload_n C dX7_count_131 0 rfl rfl ?_
    refine y_callV (As := []) (rest := []) C dX7_count_132 (u_X7_waiting g M m2 h) rfl rfl rfl rfl ⟨Nat.le_of_ble_eq_true rfl, Nat.le_of_ble_eq_true rfl⟩ gX7_count_X7_waiting (nA := 0) (by decide +kernel) rfl (sh_5010 g M m2) (Nat.le_of_ble_eq_true rfl) ⟨Nat.le_of_ble_eq_true rfl, Nat.le_of_ble_eq_true rfl⟩ [0] [] (nB := 1) rfl (by decide +kernel) (sh_5009 g M m2) (fun r10 w9 hw => ?_)
    obtain ⟨h, rfl⟩ := hw
    refine ⟨([modW g M m2] : List va_W), ⟨(sh_5009 g M m2), rfl, rfl⟩, ?_⟩
    exact HR 135 dX7_count_135 r10 _ _ _ _ (rfl) (Nat.le_of_ble_eq_true rfl) (Nat.le_of_ble_eq_true rfl) (hK _ _  h)
  refine y_if h (fun c10_9 h => ?_) (fun c10_9 h => ?_)
  · refine y_tabIn (tgt := 146) C dX7_count_10 c10_9 (by decide) (by decide) rfl rfl ?_
    refine y_iload_n C dX7_count_146 1 rfl rfl ?_
    refine y_bipush (v := 9) C dX7_count_147 (by decide) ?_
    refine y_bipush (v := 11) C dX7_count_149 (by decide) ?_
    refine y_callS (As := [.int wh, .int (9 : Int32), .int (11 : Int32)]) (rest := []) C dX7_count_151 (c_X7_in g wh (9 : Int32) (11 : Int32)) rfl rfl rfl rfl ⟨Nat.le_of_ble_eq_true rfl, Nat.le_of_ble_eq_true rfl⟩ gX7_count_X7_in (nA := 3) (by decide +kernel) rfl (Nat.le_of_ble_eq_true rfl) ⟨Nat.le_of_ble_eq_true rfl, Nat.le_of_ble_eq_true rfl⟩ [] [0] (nB := 1) rfl (by decide +kernel) (sh_5002 g M m2) (fun r11 w9 hw => ?_)
    obtain ⟨er11, rfl⟩ := hw
    have h := y_letP h er11
    refine ⟨([modW g M m2] : List va_W), ⟨(sh_5002 g M m2), rfl, rfl⟩, ?_⟩
    refine y_if_eq (tgt := 169) C dX7_count_154 rfl h (fun c154 h => ?_) (fun c154 h => ?_)
    · refine y_bipush (v := -2) C dX7_count_169 (by decide) ?_
      exact HR 171 dX7_count_171 (-2 : Int32) _ _ _ _ (rfl) (Nat.le_of_ble_eq_true rfl) (Nat.le_of_ble_eq_true rfl) (hK _ _  h)
    · refine y_aload_n C dX7_count_157 0 rfl rfl ?_
      refine y_get (Cn := RX7) (T := TX7) (N := 26) (v := .ref (M 1)) C dX7_count_158 hX7_count_X7 0 (sh_5000 g M m2) rfl 1 (Nat.le_of_ble_eq_true rfl) kX7_count_2 rfl ?_
      refine y_iload_n C dX7_count_161 1 rfl rfl ?_
      refine y_bipush (v := 9) C dX7_count_162 (by decide) ?_
      refine y_isub C dX7_count_164 ?_
      obtain ⟨hb12, h⟩ := h
      refine y_iald (N := 186) (f := (m2.2 1)) C dX7_count_165 1 (sh_5001 g M m2) hb12 ?_
      refine y_goto (tgt := 171) C dX7_count_166 rfl ?_
      exact HR 171 dX7_count_171 ((m2.2 1) (wh - (9 : Int32)).toNatClampNeg) _ _ _ _ (rfl) (Nat.le_of_ble_eq_true rfl) (Nat.le_of_ble_eq_true rfl) (hK _ _  h)
  refine y_if h (fun c10_10 h => ?_) (fun c10_10 h => ?_)
  · refine y_tabIn (tgt := 146) C dX7_count_10 c10_10 (by decide) (by decide) rfl rfl ?_
    refine y_iload_n C dX7_count_146 1 rfl rfl ?_
    refine y_bipush (v := 9) C dX7_count_147 (by decide) ?_
    refine y_bipush (v := 11) C dX7_count_149 (by decide) ?_
    refine y_callS (As := [.int wh, .int (9 : Int32), .int (11 : Int32)]) (rest := []) C dX7_count_151 (c_X7_in g wh (9 : Int32) (11 : Int32)) rfl rfl rfl rfl ⟨Nat.le_of_ble_eq_true rfl, Nat.le_of_ble_eq_true rfl⟩ gX7_count_X7_in (nA := 3) (by decide +kernel) rfl (Nat.le_of_ble_eq_true rfl) ⟨Nat.le_of_ble_eq_true rfl, Nat.le_of_ble_eq_true rfl⟩ [] [0] (nB := 1) rfl (by decide +kernel) (sh_5002 g M m2) (fun r13 w9 hw => ?_)
    obtain ⟨er13, rfl⟩ := hw
    have h := y_letP h er13
    refine ⟨([modW g M m2] : List va_W), ⟨(sh_5002 g M m2), rfl, rfl⟩, ?_⟩
    refine y_if_eq (tgt := 169) C dX7_count_154 rfl h (fun c154 h => ?_) (fun c154 h => ?_)
    · refine y_bipush (v := -2) C dX7_count_169 (by decide) ?_
      exact HR 171 dX7_count_171 (-2 : Int32) _ _ _ _ (rfl) (Nat.le_of_ble_eq_true rfl) (Nat.le_of_ble_eq_true rfl) (hK _ _  h)
    · refine y_aload_n C dX7_count_157 0 rfl rfl ?_
      refine y_get (Cn := RX7) (T := TX7) (N := 26) (v := .ref (M 1)) C dX7_count_158 hX7_count_X7 0 (sh_5000 g M m2) rfl 1 (Nat.le_of_ble_eq_true rfl) kX7_count_2 rfl ?_
      refine y_iload_n C dX7_count_161 1 rfl rfl ?_
      refine y_bipush (v := 9) C dX7_count_162 (by decide) ?_
      refine y_isub C dX7_count_164 ?_
      obtain ⟨hb14, h⟩ := h
      refine y_iald (N := 186) (f := (m2.2 1)) C dX7_count_165 1 (sh_5001 g M m2) hb14 ?_
      refine y_goto (tgt := 171) C dX7_count_166 rfl ?_
      exact HR 171 dX7_count_171 ((m2.2 1) (wh - (9 : Int32)).toNatClampNeg) _ _ _ _ (rfl) (Nat.le_of_ble_eq_true rfl) (Nat.le_of_ble_eq_true rfl) (hK _ _  h)
  refine y_if h (fun c10_11 h => ?_) (fun c10_11 h => ?_)
  · refine y_tabIn (tgt := 146) C dX7_count_10 c10_11 (by decide) (by decide) rfl rfl ?_
    refine y_iload_n C dX7_count_146 1 rfl rfl ?_
    refine y_bipush (v := 9) C dX7_count_147 (by decide) ?_
    refine y_bipush (v := 11) C dX7_count_149 (by decide) ?_
    refine y_callS (As := [.int wh, .int (9 : Int32), .int (11 : Int32)]) (rest := []) C dX7_count_151 (c_X7_in g wh (9 : Int32) (11 : Int32)) rfl rfl rfl rfl ⟨Nat.le_of_ble_eq_true rfl, Nat.le_of_ble_eq_true rfl⟩ gX7_count_X7_in (nA := 3) (by decide +kernel) rfl (Nat.le_of_ble_eq_true rfl) ⟨Nat.le_of_ble_eq_true rfl, Nat.le_of_ble_eq_true rfl⟩ [] [0] (nB := 1) rfl (by decide +kernel) (sh_5002 g M m2) (fun r15 w9 hw => ?_)
    obtain ⟨er15, rfl⟩ := hw
    have h := y_letP h er15
    refine ⟨([modW g M m2] : List va_W), ⟨(sh_5002 g M m2), rfl, rfl⟩, ?_⟩
    refine y_if_eq (tgt := 169) C dX7_count_154 rfl h (fun c154 h => ?_) (fun c154 h => ?_)
    · refine y_bipush (v := -2) C dX7_count_169 (by decide) ?_
      exact HR 171 dX7_count_171 (-2 : Int32) _ _ _ _ (rfl) (Nat.le_of_ble_eq_true rfl) (Nat.le_of_ble_eq_true rfl) (hK _ _  h)
    · refine y_aload_n C dX7_count_157 0 rfl rfl ?_
      refine y_get (Cn := RX7) (T := TX7) (N := 26) (v := .ref (M 1)) C dX7_count_158 hX7_count_X7 0 (sh_5000 g M m2) rfl 1 (Nat.le_of_ble_eq_true rfl) kX7_count_2 rfl ?_
      refine y_iload_n C dX7_count_161 1 rfl rfl ?_
      refine y_bipush (v := 9) C dX7_count_162 (by decide) ?_
      refine y_isub C dX7_count_164 ?_
      obtain ⟨hb16, h⟩ := h
      refine y_iald (N := 186) (f := (m2.2 1)) C dX7_count_165 1 (sh_5001 g M m2) hb16 ?_
      refine y_goto (tgt := 171) C dX7_count_166 rfl ?_
      exact HR 171 dX7_count_171 ((m2.2 1) (wh - (9 : Int32)).toNatClampNeg) _ _ _ _ (rfl) (Nat.le_of_ble_eq_true rfl) (Nat.le_of_ble_eq_true rfl) (hK _ _  h)
  refine y_if h (fun c10_12 h => ?_) (fun c10_12 h => ?_)
  · refine y_tabIn (tgt := 136) C dX7_count_10 c10_12 (by decide) (by decide) rfl rfl ?_
    refine y_aload_n C dX7_count_136 0 rfl rfl ?_
    refine y_get (Cn := RX7) (T := TX7) (N := 26) (v := .int (m2.1 8)) C dX7_count_137 hX7_count_X7 0 (sh_5000 g M m2) rfl 8 (Nat.le_of_ble_eq_true rfl) kX7_count_5 rfl ?_
    exact HR 140 dX7_count_140 (m2.1 8) _ _ _ _ (rfl) (Nat.le_of_ble_eq_true rfl) (Nat.le_of_ble_eq_true rfl) (hK _ _  h)
  refine y_if h (fun c10_13 h => ?_) (fun c10_13 h => ?_)
  · refine y_tabIn (tgt := 141) C dX7_count_10 c10_13 (by decide) (by decide) rfl rfl ?_
    refine y_aload_n C dX7_count_141 0 rfl rfl ?_
    refine y_get (Cn := RX7) (T := TX7) (N := 26) (v := .int (m2.1 4)) C dX7_count_142 hX7_count_X7 0 (sh_5000 g M m2) rfl 4 (Nat.le_of_ble_eq_true rfl) kX7_count_6 rfl ?_
    exact HR 145 dX7_count_145 (m2.1 4) _ _ _ _ (rfl) (Nat.le_of_ble_eq_true rfl) (Nat.le_of_ble_eq_true rfl) (hK _ _  h)
  refine y_tabOut (tgt := 146) C dX7_count_10 (by have q0 := lv_neT c10_0 (show (0 : Int32).toInt = 0 by decide); have q1 := lv_neT c10_1 (show (1 : Int32).toInt = 1 by decide); have q2 := lv_neT c10_2 (show (2 : Int32).toInt = 2 by decide); have q3 := lv_neT c10_3 (show (3 : Int32).toInt = 3 by decide); have q4 := lv_neT c10_4 (show (4 : Int32).toInt = 4 by decide); have q5 := lv_neT c10_5 (show (5 : Int32).toInt = 5 by decide); have q6 := lv_neT c10_6 (show (6 : Int32).toInt = 6 by decide); have q7 := lv_neT c10_7 (show (7 : Int32).toInt = 7 by decide); have q8 := lv_neT c10_8 (show (8 : Int32).toInt = 8 by decide); have q9 := lv_neT c10_9 (show (9 : Int32).toInt = 9 by decide); have q10 := lv_neT c10_10 (show (10 : Int32).toInt = 10 by decide); have q11 := lv_neT c10_11 (show (11 : Int32).toInt = 11 by decide); have q12 := lv_neT c10_12 (show (12 : Int32).toInt = 12 by decide); have q13 := lv_neT c10_13 (show (13 : Int32).toInt = 13 by decide); omega) rfl ?_
  refine y_iload_n C dX7_count_146 1 rfl rfl ?_
  refine y_bipush (v := 9) C dX7_count_147 (by decide) ?_
  refine y_bipush (v := 11) C dX7_count_149 (by decide) ?_
  refine y_callS (As := [.int wh, .int (9 : Int32), .int (11 : Int32)]) (rest := []) C dX7_count_151 (c_X7_in g wh (9 : Int32) (11 : Int32)) rfl rfl rfl rfl ⟨Nat.le_of_ble_eq_true rfl, Nat.le_of_ble_eq_true rfl⟩ gX7_count_X7_in (nA := 3) (by decide +kernel) rfl (Nat.le_of_ble_eq_true rfl) ⟨Nat.le_of_ble_eq_true rfl, Nat.le_of_ble_eq_true rfl⟩ [] [0] (nB := 1) rfl (by decide +kernel) (sh_5002 g M m2) (fun r17 w9 hw => ?_)
  obtain ⟨er17, rfl⟩ := hw
  have h := y_letP h er17
  refine ⟨([modW g M m2] : List va_W), ⟨(sh_5002 g M m2), rfl, rfl⟩, ?_⟩
  refine y_if_eq (tgt := 169) C dX7_count_154 rfl h (fun c154 h => ?_) (fun c154 h => ?_)
  · refine y_bipush (v := -2) C dX7_count_169 (by decide) ?_
    exact HR 171 dX7_count_171 (-2 : Int32) _ _ _ _ (rfl) (Nat.le_of_ble_eq_true rfl) (Nat.le_of_ble_eq_true rfl) (hK _ _  h)
  · refine y_aload_n C dX7_count_157 0 rfl rfl ?_
    refine y_get (Cn := RX7) (T := TX7) (N := 26) (v := .ref (M 1)) C dX7_count_158 hX7_count_X7 0 (sh_5000 g M m2) rfl 1 (Nat.le_of_ble_eq_true rfl) kX7_count_2 rfl ?_
    refine y_iload_n C dX7_count_161 1 rfl rfl ?_
    refine y_bipush (v := 9) C dX7_count_162 (by decide) ?_
    refine y_isub C dX7_count_164 ?_
    obtain ⟨hb18, h⟩ := h
    refine y_iald (N := 186) (f := (m2.2 1)) C dX7_count_165 1 (sh_5001 g M m2) hb18 ?_
    refine y_goto (tgt := 171) C dX7_count_166 rfl ?_
    exact HR 171 dX7_count_171 ((m2.2 1) (wh - (9 : Int32)).toNatClampNeg) _ _ _ _ (rfl) (Nat.le_of_ble_eq_true rfl) (Nat.le_of_ble_eq_true rfl) (hK _ _  h)
theorem u_X7_count (g : yG) (M : Nat → Nat) (m : MV) (wh : Int32) {K : Int32 → MV → Prop} (hPO : PO_X7_count wh K m ) : yM g yX7_count wsX7_count ({ frames := 6, cells := 0, slots := 0, locals := 135 } : Room) [.ref (M 0), .int wh] ([modW g M m] : List va_W) (fun r w => ∃ m' : MV, K r m' ∧ w = ([modW g M m'] : List va_W)) 0 0 :=
  t_X7_count g M m wh (fun r0 m hk => ⟨m, hk, rfl⟩) hPO
