theorem dX7_ifBooked_0 : decode cX7_ifBooked 0 = .ok (.aload_n 0, 1) := by decide +kernel
theorem dX7_ifBooked_1 : decode cX7_ifBooked 1 = .ok (.iconst 0, 1) := by decide +kernel
theorem dX7_ifBooked_2 : decode cX7_ifBooked 2 = .ok (.putfield 44, 3) := by decide +kernel
theorem dX7_ifBooked_5 : decode cX7_ifBooked 5 = .ok (.aload_n 0, 1) := by decide +kernel
theorem dX7_ifBooked_6 : decode cX7_ifBooked 6 = .ok (.iload_n 1, 1) := by decide +kernel
theorem dX7_ifBooked_7 : decode cX7_ifBooked 7 = .ok (.iload_n 2, 1) := by decide +kernel
theorem dX7_ifBooked_8 : decode cX7_ifBooked 8 = .ok (.iload_n 3, 1) := by decide +kernel
theorem dX7_ifBooked_9 : decode cX7_ifBooked 9 = .ok (.iload 4, 2) := by decide +kernel
theorem dX7_ifBooked_11 : decode cX7_ifBooked 11 = .ok (.invokevirtual 136, 3) := by decide +kernel
theorem dX7_ifBooked_14 : decode cX7_ifBooked 14 = .ok (.istore 6, 2) := by decide +kernel
theorem dX7_ifBooked_16 : decode cX7_ifBooked 16 = .ok (.iload 6, 2) := by decide +kernel
theorem dX7_ifBooked_18 : decode cX7_ifBooked 18 = .ok (.ifCond .ne 13, 3) := by decide +kernel
theorem dX7_ifBooked_21 : decode cX7_ifBooked 21 = .ok (.iload 5, 2) := by decide +kernel
theorem dX7_ifBooked_23 : decode cX7_ifBooked 23 = .ok (.iconst 0, 1) := by decide +kernel
theorem dX7_ifBooked_24 : decode cX7_ifBooked 24 = .ok (.iconst 3, 1) := by decide +kernel
theorem dX7_ifBooked_25 : decode cX7_ifBooked 25 = .ok (.invokestatic 48, 3) := by decide +kernel
theorem dX7_ifBooked_28 : decode cX7_ifBooked 28 = .ok (.ifCond .ne 16, 3) := by decide +kernel
theorem dX7_ifBooked_31 : decode cX7_ifBooked 31 = .ok (.iload 6, 2) := by decide +kernel
theorem dX7_ifBooked_33 : decode cX7_ifBooked 33 = .ok (.ifCond .eq 8, 3) := by decide +kernel
theorem dX7_ifBooked_36 : decode cX7_ifBooked 36 = .ok (.iload 6, 2) := by decide +kernel
theorem dX7_ifBooked_38 : decode cX7_ifBooked 38 = .ok (.goto 5, 3) := by decide +kernel
theorem dX7_ifBooked_41 : decode cX7_ifBooked 41 = .ok (.bipush (-2), 2) := by decide +kernel
theorem dX7_ifBooked_43 : decode cX7_ifBooked 43 = .ok (.ireturn, 1) := by decide +kernel
theorem dX7_ifBooked_44 : decode cX7_ifBooked 44 = .ok (.aload_n 0, 1) := by decide +kernel
theorem dX7_ifBooked_45 : decode cX7_ifBooked 45 = .ok (.invokevirtual 164, 3) := by decide +kernel
theorem dX7_ifBooked_48 : decode cX7_ifBooked 48 = .ok (.aload_n 0, 1) := by decide +kernel
theorem dX7_ifBooked_49 : decode cX7_ifBooked 49 = .ok (.getfield 87, 3) := by decide +kernel
theorem dX7_ifBooked_52 : decode cX7_ifBooked 52 = .ok (.istore 7, 2) := by decide +kernel
theorem dX7_ifBooked_54 : decode cX7_ifBooked 54 = .ok (.aload_n 0, 1) := by decide +kernel
theorem dX7_ifBooked_55 : decode cX7_ifBooked 55 = .ok (.iload_n 1, 1) := by decide +kernel
theorem dX7_ifBooked_56 : decode cX7_ifBooked 56 = .ok (.iload_n 2, 1) := by decide +kernel
theorem dX7_ifBooked_57 : decode cX7_ifBooked 57 = .ok (.iload_n 3, 1) := by decide +kernel
theorem dX7_ifBooked_58 : decode cX7_ifBooked 58 = .ok (.iload 4, 2) := by decide +kernel
theorem dX7_ifBooked_60 : decode cX7_ifBooked 60 = .ok (.invokevirtual 140, 3) := by decide +kernel
theorem dX7_ifBooked_63 : decode cX7_ifBooked 63 = .ok (.istore 8, 2) := by decide +kernel
theorem dX7_ifBooked_65 : decode cX7_ifBooked 65 = .ok (.aload_n 0, 1) := by decide +kernel
theorem dX7_ifBooked_66 : decode cX7_ifBooked 66 = .ok (.iload 8, 2) := by decide +kernel
theorem dX7_ifBooked_68 : decode cX7_ifBooked 68 = .ok (.invokevirtual 143, 3) := by decide +kernel
theorem dX7_ifBooked_71 : decode cX7_ifBooked 71 = .ok (.ifCond .ne 16, 3) := by decide +kernel
theorem dX7_ifBooked_74 : decode cX7_ifBooked 74 = .ok (.iload 5, 2) := by decide +kernel
theorem dX7_ifBooked_76 : decode cX7_ifBooked 76 = .ok (.iconst 3, 1) := by decide +kernel
theorem dX7_ifBooked_77 : decode cX7_ifBooked 77 = .ok (.if_icmp .ne 7, 3) := by decide +kernel
theorem dX7_ifBooked_80 : decode cX7_ifBooked 80 = .ok (.iconst 0, 1) := by decide +kernel
theorem dX7_ifBooked_81 : decode cX7_ifBooked 81 = .ok (.goto 5, 3) := by decide +kernel
theorem dX7_ifBooked_84 : decode cX7_ifBooked 84 = .ok (.bipush (-6), 2) := by decide +kernel
theorem dX7_ifBooked_86 : decode cX7_ifBooked 86 = .ok (.ireturn, 1) := by decide +kernel
theorem dX7_ifBooked_87 : decode cX7_ifBooked 87 = .ok (.aload_n 0, 1) := by decide +kernel
theorem dX7_ifBooked_88 : decode cX7_ifBooked 88 = .ok (.iload 8, 2) := by decide +kernel
theorem dX7_ifBooked_90 : decode cX7_ifBooked 90 = .ok (.aload_n 0, 1) := by decide +kernel
theorem dX7_ifBooked_91 : decode cX7_ifBooked 91 = .ok (.getfield 126, 3) := by decide +kernel
theorem dX7_ifBooked_94 : decode cX7_ifBooked 94 = .ok (.aload_n 0, 1) := by decide +kernel
theorem dX7_ifBooked_95 : decode cX7_ifBooked 95 = .ok (.getfield 129, 3) := by decide +kernel
theorem dX7_ifBooked_98 : decode cX7_ifBooked 98 = .ok (.invokevirtual 123, 3) := by decide +kernel
theorem dX7_ifBooked_101 : decode cX7_ifBooked 101 = .ok (.aload_n 0, 1) := by decide +kernel
theorem dX7_ifBooked_102 : decode cX7_ifBooked 102 = .ok (.aload_n 0, 1) := by decide +kernel
theorem dX7_ifBooked_103 : decode cX7_ifBooked 103 = .ok (.invokevirtual 116, 3) := by decide +kernel
theorem dX7_ifBooked_106 : decode cX7_ifBooked 106 = .ok (.invokevirtual 99, 3) := by decide +kernel
theorem dX7_ifBooked_109 : decode cX7_ifBooked 109 = .ok (.iload 5, 2) := by decide +kernel
theorem dX7_ifBooked_111 : decode cX7_ifBooked 111 = .ok (.tableswitch 53 0 2 #[25, 33, 43], 25) := by decide +kernel
theorem dX7_ifBooked_136 : decode cX7_ifBooked 136 = .ok (.aload_n 0, 1) := by decide +kernel
theorem dX7_ifBooked_137 : decode cX7_ifBooked 137 = .ok (.getfield 87, 3) := by decide +kernel
theorem dX7_ifBooked_140 : decode cX7_ifBooked 140 = .ok (.iload 7, 2) := by decide +kernel
theorem dX7_ifBooked_142 : decode cX7_ifBooked 142 = .ok (.isub, 1) := by decide +kernel
theorem dX7_ifBooked_143 : decode cX7_ifBooked 143 = .ok (.ireturn, 1) := by decide +kernel
theorem dX7_ifBooked_144 : decode cX7_ifBooked 144 = .ok (.aload_n 0, 1) := by decide +kernel
theorem dX7_ifBooked_145 : decode cX7_ifBooked 145 = .ok (.getfield 32, 3) := by decide +kernel
theorem dX7_ifBooked_148 : decode cX7_ifBooked 148 = .ok (.aload_n 0, 1) := by decide +kernel
theorem dX7_ifBooked_149 : decode cX7_ifBooked 149 = .ok (.getfield 126, 3) := by decide +kernel
theorem dX7_ifBooked_152 : decode cX7_ifBooked 152 = .ok (.iaload, 1) := by decide +kernel
theorem dX7_ifBooked_153 : decode cX7_ifBooked 153 = .ok (.ireturn, 1) := by decide +kernel
theorem dX7_ifBooked_154 : decode cX7_ifBooked 154 = .ok (.aload_n 0, 1) := by decide +kernel
theorem dX7_ifBooked_155 : decode cX7_ifBooked 155 = .ok (.getfield 32, 3) := by decide +kernel
theorem dX7_ifBooked_158 : decode cX7_ifBooked 158 = .ok (.aload_n 0, 1) := by decide +kernel
theorem dX7_ifBooked_159 : decode cX7_ifBooked 159 = .ok (.getfield 129, 3) := by decide +kernel
theorem dX7_ifBooked_162 : decode cX7_ifBooked 162 = .ok (.iaload, 1) := by decide +kernel
theorem dX7_ifBooked_163 : decode cX7_ifBooked 163 = .ok (.ireturn, 1) := by decide +kernel
theorem dX7_ifBooked_164 : decode cX7_ifBooked 164 = .ok (.aload_n 0, 1) := by decide +kernel
theorem dX7_ifBooked_165 : decode cX7_ifBooked 165 = .ok (.getfield 107, 3) := by decide +kernel
theorem dX7_ifBooked_168 : decode cX7_ifBooked 168 = .ok (.ireturn, 1) := by decide +kernel
set_option maxRecDepth 20000 in
theorem ggX7_ifBooked_X7_refuses : GoodIn wsX7_ifBooked wsX7_refuses := goodIn_r _ [11, 12, 13, 14, 10, 15, 16, 17, 18, 19, 95, 96, 97, 98, 99, 100, 101, 102, 103, 104, 105, 106, 107, 108, 109, 110, 111, 112, 113, 114, 115, 116, 117, 118, 119, 120] (by decide +kernel) (by decide +kernel)
set_option maxRecDepth 20000 in
theorem gX7_ifBooked_X7_refuses : GoodIn wsX7_ifBooked (wsV RX7 136 RX7 yX7_refuses wsX7_refuses) := goodIn_app (goodIn_of _ (by decide +kernel)) ggX7_ifBooked_X7_refuses
set_option maxRecDepth 20000 in
theorem ggX7_ifBooked_X7_in : GoodIn wsX7_ifBooked wsX7_in := goodIn_r _ [19] (by decide +kernel) (by decide +kernel)
set_option maxRecDepth 20000 in
theorem gX7_ifBooked_X7_in : GoodIn wsX7_ifBooked (va_wsS RX7 48 yX7_in wsX7_in) := goodIn_app (goodIn_of _ (by decide +kernel)) ggX7_ifBooked_X7_in
set_option maxRecDepth 20000 in
theorem ggX7_ifBooked_X7_drivesRoute : GoodIn wsX7_ifBooked wsX7_drivesRoute := goodIn_r _ [23, 16, 24, 25, 26, 10, 27, 28, 29, 30, 31, 32, 33, 34, 35, 36, 5, 37, 2, 38, 39, 40, 41, 42, 43, 44, 45, 46, 47, 48, 49, 50, 51, 52, 53, 54, 55, 56, 57, 58, 59, 60, 61, 62, 63, 64, 65, 66, 67, 68, 95, 96, 97, 98, 99, 100, 101, 102, 103, 104, 105, 106, 107, 108, 109, 110, 111, 112, 113, 114, 115, 116, 117, 118, 119, 120] (by decide +kernel) (by decide +kernel)
set_option maxRecDepth 20000 in
theorem gX7_ifBooked_X7_drivesRoute : GoodIn wsX7_ifBooked (wsV RX7 164 RX7 yX7_drivesRoute wsX7_drivesRoute) := goodIn_app (goodIn_of _ (by decide +kernel)) ggX7_ifBooked_X7_drivesRoute
set_option maxRecDepth 20000 in
theorem ggX7_ifBooked_X7_laysRide : GoodIn wsX7_ifBooked wsX7_laysRide := goodIn_r _ [72, 16, 73, 74, 75, 10, 76, 95, 96, 97, 98, 99, 100, 101, 102, 103, 104, 105, 106, 107, 108, 109, 110, 111, 112, 113, 114, 115, 116, 117, 118, 119, 120] (by decide +kernel) (by decide +kernel)
set_option maxRecDepth 20000 in
theorem gX7_ifBooked_X7_laysRide : GoodIn wsX7_ifBooked (wsV RX7 140 RX7 yX7_laysRide wsX7_laysRide) := goodIn_app (goodIn_of _ (by decide +kernel)) ggX7_ifBooked_X7_laysRide
set_option maxRecDepth 20000 in
theorem ggX7_ifBooked_X7_findsWay : GoodIn wsX7_ifBooked wsX7_findsWay := goodIn_r _ [80, 6, 81, 82, 16, 35, 5, 2, 3, 4, 83, 84, 85, 10, 86, 87, 88, 89, 90, 91, 92, 93, 94, 28, 29, 30, 31, 32, 33, 34, 36, 37, 38, 39, 40, 41, 42, 43, 44, 45, 46, 47, 48, 49, 50, 51, 52, 53, 54, 55, 56, 57, 58, 59, 60, 61, 62, 63, 64, 65, 66, 67, 68, 95, 96, 97, 98, 99, 100, 101, 102, 103, 104, 105, 106, 107, 108, 109, 110, 111, 112, 113, 114, 115, 116, 117, 118, 119, 120] (by decide +kernel) (by decide +kernel)
set_option maxRecDepth 20000 in
theorem gX7_ifBooked_X7_findsWay : GoodIn wsX7_ifBooked (wsV RX7 143 RX7 yX7_findsWay wsX7_findsWay) := goodIn_app (goodIn_of _ (by decide +kernel)) ggX7_ifBooked_X7_findsWay
set_option maxRecDepth 20000 in
theorem ggX7_ifBooked_X7_laysWay : GoodIn wsX7_ifBooked wsX7_laysWay := goodIn_r _ [94, 28, 16, 29, 95, 96, 97, 98, 99, 100, 101, 102, 103, 104, 105, 106, 107, 108, 109, 110, 111, 112, 113, 114, 115, 116, 117, 118, 119, 120] (by decide +kernel) (by decide +kernel)
set_option maxRecDepth 20000 in
theorem gX7_ifBooked_X7_laysWay : GoodIn wsX7_ifBooked (wsV RX7 123 RX7 yX7_laysWay wsX7_laysWay) := goodIn_app (goodIn_of _ (by decide +kernel)) ggX7_ifBooked_X7_laysWay
set_option maxRecDepth 20000 in
theorem ggX7_ifBooked_X7_leaving : GoodIn wsX7_ifBooked wsX7_leaving := goodIn_r _ [86, 16, 95, 96, 97, 98, 99, 100, 101, 102, 103, 104, 105, 106, 107, 108, 109, 110, 111, 112, 113, 114, 115, 116, 117, 118, 119, 120] (by decide +kernel) (by decide +kernel)
set_option maxRecDepth 20000 in
theorem gX7_ifBooked_X7_leaving : GoodIn wsX7_ifBooked (wsV RX7 116 RX7 yX7_leaving wsX7_leaving) := goodIn_app (goodIn_of _ (by decide +kernel)) ggX7_ifBooked_X7_leaving
set_option maxRecDepth 20000 in
theorem ggX7_ifBooked_X7_drives : GoodIn wsX7_ifBooked wsX7_drives := goodIn_r _ [33, 16, 34, 35, 28, 29, 36, 5, 37, 2, 38, 39, 40, 10, 41, 42, 43, 44, 45, 46, 47, 48, 49, 50, 51, 52, 53, 54, 55, 56, 57, 58, 59, 60, 61, 62, 63, 64, 65, 66, 67, 68, 95, 96, 97, 98, 99, 100, 101, 102, 103, 104, 105, 106, 107, 108, 109, 110, 111, 112, 113, 114, 115, 116, 117, 118, 119, 120] (by decide +kernel) (by decide +kernel)
set_option maxRecDepth 20000 in
theorem gX7_ifBooked_X7_drives : GoodIn wsX7_ifBooked (wsV RX7 99 RX7 yX7_drives wsX7_drives) := goodIn_app (goodIn_of _ (by decide +kernel)) ggX7_ifBooked_X7_drives
theorem kX7_ifBooked_1 : Cond.fieldLink RX7 44 "BookedDetoursModel" "thrown" "I" ∈ wsX7_ifBooked := List.mem_of_getElem? (i := 1) (by decide +kernel)
theorem kX7_ifBooked_2 : Cond.fieldLink RX7 87 "BookedDetoursModel" "over" "I" ∈ wsX7_ifBooked := List.mem_of_getElem? (i := 2) (by decide +kernel)
theorem kX7_ifBooked_3 : Cond.fieldLink RX7 126 "BookedDetoursModel" "bestPick" "I" ∈ wsX7_ifBooked := List.mem_of_getElem? (i := 3) (by decide +kernel)
theorem kX7_ifBooked_4 : Cond.fieldLink RX7 129 "BookedDetoursModel" "bestSet" "I" ∈ wsX7_ifBooked := List.mem_of_getElem? (i := 4) (by decide +kernel)
theorem kX7_ifBooked_5 : Cond.fieldLink RX7 32 "BookedDetoursModel" "times" "[I" ∈ wsX7_ifBooked := List.mem_of_getElem? (i := 5) (by decide +kernel)
theorem kX7_ifBooked_6 : Cond.fieldLink RX7 107 "BookedDetoursModel" "wayCount" "I" ∈ wsX7_ifBooked := List.mem_of_getElem? (i := 6) (by decide +kernel)
theorem hX7_ifBooked_X7 : ∀ w ∈ u_ws RX7 TX7 26, w ∈ wsX7_ifBooked := fun _ h => List.mem_cons_of_mem _ (List.mem_append_right _ h)
set_option maxHeartbeats 4000000 in
set_option maxRecDepth 100000 in
theorem t_X7_ifBooked (g : yG) (M : Nat → Nat) (m : MV) (fr : Int32) (to : Int32) (wa : Int32) (bt : Int32) (wh : Int32) {post : Int32 → List va_W → Prop} {K : Int32 → MV → Prop} (hK : ∀ (r0 : Int32) (m : MV), K r0 m → post r0 ([modW g M m] : List va_W)) (hPO : PO_X7_ifBooked fr to wa bt wh K m ) : yM g yX7_ifBooked wsX7_ifBooked ({ frames := 6, cells := 0, slots := 0, locals := 139 } : Room) [.ref (M 0), .int fr, .int to, .int wa, .int bt, .int wh] ([modW g M m] : List va_W) post 0 0 := by
  refine y_entryI (cc := cX7_ifBooked) (maxL := 9) (by decide +kernel) rfl (Nat.le_of_ble_eq_true rfl) (fun Z C HR => ?_)
  have C : yC Z g cX7_ifBooked 9 wsX7_ifBooked RX7 := C
  have h := hPO
  unfold PO_X7_ifBooked wp_X7_ifBooked_0 at h
  show yJ Z _ 0 0 _ 0 [(0, .ref (M 0)), (1, .int fr), (2, .int to), (3, .int wa), (4, .int bt), (5, .int wh)] []
  refine y_aload_n C dX7_ifBooked_0 0 rfl rfl ?_
  refine y_iconst (v := 0) C dX7_ifBooked_1 (by decide) ?_
  obtain ⟨m1, em1⟩ : ∃ z : MV, z = mI m 0 (0 : Int32) := ⟨_, rfl⟩
  have h := y_letP h em1
  refine y_put (Cn := RX7) (T := TX7) (N := 26) (v := .int (0 : Int32)) (ty0 := tyX7) (L1 := ([modW g M m1] : List va_W)) C dX7_ifBooked_2 hX7_ifBooked_X7 0 (sh_5000 g M m) rfl 0 (Nat.le_of_ble_eq_true rfl) kX7_ifBooked_1 tyX7_ok nmX7 rfl rfl rfl (Nat.le_of_ble_eq_true rfl) (sh_5029 g M m (0 : Int32) m1 em1) ?_
  refine y_aload_n C dX7_ifBooked_5 0 rfl rfl ?_
  refine y_iload_n C dX7_ifBooked_6 1 rfl rfl ?_
  refine y_iload_n C dX7_ifBooked_7 2 rfl rfl ?_
  refine y_iload_n C dX7_ifBooked_8 3 rfl rfl ?_
  refine y_iload C dX7_ifBooked_9 4 rfl ?_
  refine y_callV (As := [.int fr, .int to, .int wa, .int bt]) (rest := []) C dX7_ifBooked_11 (u_X7_refuses g M m1 fr to wa bt h) rfl rfl rfl rfl ⟨Nat.le_of_ble_eq_true rfl, Nat.le_of_ble_eq_true rfl⟩ gX7_ifBooked_X7_refuses (nA := 4) (by decide +kernel) rfl (sh_5010 g M m1) (Nat.le_of_ble_eq_true rfl) ⟨Nat.le_of_ble_eq_true rfl, Nat.le_of_ble_eq_true rfl⟩ [0] [] (nB := 1) rfl (by decide +kernel) (sh_5009 g M m1) (fun r2 w9 hw => ?_)
  obtain ⟨h, rfl⟩ := hw
  refine ⟨([modW g M m1] : List va_W), ⟨(sh_5009 g M m1), rfl, rfl⟩, ?_⟩
  refine y_istore (lv' := [(6, .int r2), (0, .ref (M 0)), (1, .int fr), (2, .int to), (3, .int wa), (4, .int bt), (5, .int wh)]) C dX7_ifBooked_14 (Nat.le_of_ble_eq_true rfl) rfl ?_
  refine y_iload C dX7_ifBooked_16 0 rfl ?_
  refine y_if_ne (tgt := 31) C dX7_ifBooked_18 rfl h (fun c18 h => ?_) (fun c18 h => ?_)
  · refine y_iload C dX7_ifBooked_31 0 rfl ?_
    refine y_if_eq (tgt := 41) C dX7_ifBooked_33 rfl (y_same (c := r2 = 0) h) (fun c33 h => ?_) (fun c33 h => ?_)
    · exact absurd c33 c18
    · refine y_iload C dX7_ifBooked_36 0 rfl ?_
      refine y_goto (tgt := 43) C dX7_ifBooked_38 rfl ?_
      exact HR 43 dX7_ifBooked_43 r2 _ _ _ _ (rfl) (Nat.le_of_ble_eq_true rfl) (Nat.le_of_ble_eq_true rfl) (hK _ _  h)
  · refine y_iload C dX7_ifBooked_21 6 rfl ?_
    refine y_iconst (v := 0) C dX7_ifBooked_23 (by decide) ?_
    refine y_iconst (v := 3) C dX7_ifBooked_24 (by decide) ?_
    refine y_callS (As := [.int wh, .int (0 : Int32), .int (3 : Int32)]) (rest := []) C dX7_ifBooked_25 (c_X7_in g wh (0 : Int32) (3 : Int32)) rfl rfl rfl rfl ⟨Nat.le_of_ble_eq_true rfl, Nat.le_of_ble_eq_true rfl⟩ gX7_ifBooked_X7_in (nA := 3) (by decide +kernel) rfl (Nat.le_of_ble_eq_true rfl) ⟨Nat.le_of_ble_eq_true rfl, Nat.le_of_ble_eq_true rfl⟩ [] [0] (nB := 1) rfl (by decide +kernel) (sh_5002 g M m1) (fun r3 w9 hw => ?_)
    obtain ⟨er3, rfl⟩ := hw
    have h := y_letP h er3
    refine ⟨([modW g M m1] : List va_W), ⟨(sh_5002 g M m1), rfl, rfl⟩, ?_⟩
    refine y_if_ne (tgt := 44) C dX7_ifBooked_28 rfl h (fun c28 h => ?_) (fun c28 h => ?_)
    · refine y_aload_n C dX7_ifBooked_44 1 rfl rfl ?_
      refine y_callVv (As := []) (rest := []) C dX7_ifBooked_45 (u_X7_drivesRoute g M m1 h) rfl rfl rfl rfl ⟨Nat.le_of_ble_eq_true rfl, Nat.le_of_ble_eq_true rfl⟩ gX7_ifBooked_X7_drivesRoute (nA := 0) (by decide +kernel) rfl (sh_5010 g M m1) (Nat.le_of_ble_eq_true rfl) ⟨Nat.le_of_ble_eq_true rfl, Nat.le_of_ble_eq_true rfl⟩ [0] [] (nB := 1) rfl (by decide +kernel) (sh_5009 g M m1) (fun w9 hw => ?_)
      obtain ⟨m4, h, rfl⟩ := hw
      refine ⟨([modW g M m4] : List va_W), (sh_5023 g M m1 m4), ?_⟩
      refine y_aload_n C dX7_ifBooked_48 1 rfl rfl ?_
      refine y_get (Cn := RX7) (T := TX7) (N := 26) (v := .int (m4.1 15)) C dX7_ifBooked_49 hX7_ifBooked_X7 0 (sh_5000 g M m4) rfl 15 (Nat.le_of_ble_eq_true rfl) kX7_ifBooked_2 rfl ?_
      refine y_istore (lv' := [(7, .int (m4.1 15)), (6, .int r2), (0, .ref (M 0)), (1, .int fr), (2, .int to), (3, .int wa), (4, .int bt), (5, .int wh)]) C dX7_ifBooked_52 (Nat.le_of_ble_eq_true rfl) rfl ?_
      refine y_aload_n C dX7_ifBooked_54 2 rfl rfl ?_
      refine y_iload_n C dX7_ifBooked_55 3 rfl rfl ?_
      refine y_iload_n C dX7_ifBooked_56 4 rfl rfl ?_
      refine y_iload_n C dX7_ifBooked_57 5 rfl rfl ?_
      refine y_iload C dX7_ifBooked_58 6 rfl ?_
      refine y_callV (As := [.int fr, .int to, .int wa, .int bt]) (rest := []) C dX7_ifBooked_60 (u_X7_laysRide g M m4 fr to wa bt h) rfl rfl rfl rfl ⟨Nat.le_of_ble_eq_true rfl, Nat.le_of_ble_eq_true rfl⟩ gX7_ifBooked_X7_laysRide (nA := 4) (by decide +kernel) rfl (sh_5010 g M m4) (Nat.le_of_ble_eq_true rfl) ⟨Nat.le_of_ble_eq_true rfl, Nat.le_of_ble_eq_true rfl⟩ [0] [] (nB := 1) rfl (by decide +kernel) (sh_5009 g M m4) (fun r8 w9 hw => ?_)
      obtain ⟨m6, h, rfl⟩ := hw
      refine ⟨([modW g M m6] : List va_W), (sh_5023 g M m4 m6), ?_⟩
      refine y_istore (lv' := [(8, .int r8), (7, .int (m4.1 15)), (6, .int r2), (0, .ref (M 0)), (1, .int fr), (2, .int to), (3, .int wa), (4, .int bt), (5, .int wh)]) C dX7_ifBooked_63 (Nat.le_of_ble_eq_true rfl) rfl ?_
      refine y_aload_n C dX7_ifBooked_65 3 rfl rfl ?_
      refine y_iload C dX7_ifBooked_66 0 rfl ?_
      refine y_callV (As := [.int r8]) (rest := []) C dX7_ifBooked_68 (u_X7_findsWay g M m6 r8 h) rfl rfl rfl rfl ⟨Nat.le_of_ble_eq_true rfl, Nat.le_of_ble_eq_true rfl⟩ gX7_ifBooked_X7_findsWay (nA := 1) (by decide +kernel) rfl (sh_5010 g M m6) (Nat.le_of_ble_eq_true rfl) ⟨Nat.le_of_ble_eq_true rfl, Nat.le_of_ble_eq_true rfl⟩ [0] [] (nB := 1) rfl (by decide +kernel) (sh_5009 g M m6) (fun r11 w9 hw => ?_)
      obtain ⟨m9, h, rfl⟩ := hw
      refine ⟨([modW g M m9] : List va_W), (sh_5023 g M m6 m9), ?_⟩
      refine y_if_ne (tgt := 87) C dX7_ifBooked_71 rfl h (fun c71 h => ?_) (fun c71 h => ?_)
      · refine y_aload_n C dX7_ifBooked_87 3 rfl rfl ?_
        refine y_iload C dX7_ifBooked_88 0 rfl ?_
        refine y_aload_n C dX7_ifBooked_90 3 rfl rfl ?_
        refine y_get (Cn := RX7) (T := TX7) (N := 26) (v := .int (m9.1 17)) C dX7_ifBooked_91 hX7_ifBooked_X7 0 (sh_5000 g M m9) rfl 17 (Nat.le_of_ble_eq_true rfl) kX7_ifBooked_3 rfl ?_
        refine y_aload_n C dX7_ifBooked_94 3 rfl rfl ?_
        refine y_get (Cn := RX7) (T := TX7) (N := 26) (v := .int (m9.1 18)) C dX7_ifBooked_95 hX7_ifBooked_X7 0 (sh_5000 g M m9) rfl 18 (Nat.le_of_ble_eq_true rfl) kX7_ifBooked_4 rfl ?_
        refine y_callVv (As := [.int r8, .int (m9.1 17), .int (m9.1 18)]) (rest := []) C dX7_ifBooked_98 (u_X7_laysWay g M m9 r8 (m9.1 17) (m9.1 18) h) rfl rfl rfl rfl ⟨Nat.le_of_ble_eq_true rfl, Nat.le_of_ble_eq_true rfl⟩ gX7_ifBooked_X7_laysWay (nA := 3) (by decide +kernel) rfl (sh_5010 g M m9) (Nat.le_of_ble_eq_true rfl) ⟨Nat.le_of_ble_eq_true rfl, Nat.le_of_ble_eq_true rfl⟩ [0] [] (nB := 1) rfl (by decide +kernel) (sh_5009 g M m9) (fun w9 hw => ?_)
        obtain ⟨m12, h, rfl⟩ := hw
        refine ⟨([modW g M m12] : List va_W), (sh_5023 g M m9 m12), ?_⟩
        refine y_aload_n C dX7_ifBooked_101 3 rfl rfl ?_
        refine y_aload_n C dX7_ifBooked_102 3 rfl rfl ?_
        refine y_callV (As := []) (rest := [.ref (M 0)]) C dX7_ifBooked_103 (u_X7_leaving g M m12 h) rfl rfl rfl rfl ⟨Nat.le_of_ble_eq_true rfl, Nat.le_of_ble_eq_true rfl⟩ gX7_ifBooked_X7_leaving (nA := 0) (by decide +kernel) rfl (sh_5010 g M m12) (Nat.le_of_ble_eq_true rfl) ⟨Nat.le_of_ble_eq_true rfl, Nat.le_of_ble_eq_true rfl⟩ [0] [] (nB := 1) rfl (by decide +kernel) (sh_5009 g M m12) (fun r14 w9 hw => ?_)
        obtain ⟨h, rfl⟩ := hw
        refine ⟨([modW g M m12] : List va_W), ⟨(sh_5009 g M m12), rfl, rfl⟩, ?_⟩
        refine y_callVv (As := [.int r14]) (rest := []) C dX7_ifBooked_106 (u_X7_drives g M m12 r14 h) rfl rfl rfl rfl ⟨Nat.le_of_ble_eq_true rfl, Nat.le_of_ble_eq_true rfl⟩ gX7_ifBooked_X7_drives (nA := 1) (by decide +kernel) rfl (sh_5010 g M m12) (Nat.le_of_ble_eq_true rfl) ⟨Nat.le_of_ble_eq_true rfl, Nat.le_of_ble_eq_true rfl⟩ [0] [] (nB := 1) rfl (by decide +kernel) (sh_5009 g M m12) (fun w9 hw => ?_)
        obtain ⟨m15, h, rfl⟩ := hw
        refine ⟨([modW g M m15] : List va_W), (sh_5023 g M m12 m15), ?_⟩
        refine y_iload C dX7_ifBooked_109 8 rfl ?_
        refine y_if h (fun c111_0 h => ?_) (fun c111_0 h => ?_)
        · refine y_tabIn (tgt := 136) C dX7_ifBooked_111 c111_0 (by decide) (by decide) rfl rfl ?_
          refine y_aload_n C dX7_ifBooked_136 3 rfl rfl ?_
          refine y_get (Cn := RX7) (T := TX7) (N := 26) (v := .int (m15.1 15)) C dX7_ifBooked_137 hX7_ifBooked_X7 0 (sh_5000 g M m15) rfl 15 (Nat.le_of_ble_eq_true rfl) kX7_ifBooked_2 rfl ?_
          refine y_iload C dX7_ifBooked_140 1 rfl ?_
          refine y_isub C dX7_ifBooked_142 ?_
          exact HR 143 dX7_ifBooked_143 ((m15.1 15) - (m4.1 15)) _ _ _ _ (rfl) (Nat.le_of_ble_eq_true rfl) (Nat.le_of_ble_eq_true rfl) (hK _ _  h)
        refine y_if h (fun c111_1 h => ?_) (fun c111_1 h => ?_)
        · refine y_tabIn (tgt := 144) C dX7_ifBooked_111 c111_1 (by decide) (by decide) rfl rfl ?_
          refine y_aload_n C dX7_ifBooked_144 3 rfl rfl ?_
          refine y_get (Cn := RX7) (T := TX7) (N := 26) (v := .ref (M 8)) C dX7_ifBooked_145 hX7_ifBooked_X7 0 (sh_5000 g M m15) rfl 11 (Nat.le_of_ble_eq_true rfl) kX7_ifBooked_5 rfl ?_
          refine y_aload_n C dX7_ifBooked_148 3 rfl rfl ?_
          refine y_get (Cn := RX7) (T := TX7) (N := 26) (v := .int (m15.1 17)) C dX7_ifBooked_149 hX7_ifBooked_X7 0 (sh_5000 g M m15) rfl 17 (Nat.le_of_ble_eq_true rfl) kX7_ifBooked_3 rfl ?_
          obtain ⟨hb17, h⟩ := h
          refine y_iald (N := 36) (f := (m15.2 11)) C dX7_ifBooked_152 8 (sh_5012 g M m15) hb17 ?_
          exact HR 153 dX7_ifBooked_153 ((m15.2 11) (m15.1 17).toNatClampNeg) _ _ _ _ (rfl) (Nat.le_of_ble_eq_true rfl) (Nat.le_of_ble_eq_true rfl) (hK _ _  h)
        refine y_if h (fun c111_2 h => ?_) (fun c111_2 h => ?_)
        · refine y_tabIn (tgt := 154) C dX7_ifBooked_111 c111_2 (by decide) (by decide) rfl rfl ?_
          refine y_aload_n C dX7_ifBooked_154 3 rfl rfl ?_
          refine y_get (Cn := RX7) (T := TX7) (N := 26) (v := .ref (M 8)) C dX7_ifBooked_155 hX7_ifBooked_X7 0 (sh_5000 g M m15) rfl 11 (Nat.le_of_ble_eq_true rfl) kX7_ifBooked_5 rfl ?_
          refine y_aload_n C dX7_ifBooked_158 3 rfl rfl ?_
          refine y_get (Cn := RX7) (T := TX7) (N := 26) (v := .int (m15.1 18)) C dX7_ifBooked_159 hX7_ifBooked_X7 0 (sh_5000 g M m15) rfl 18 (Nat.le_of_ble_eq_true rfl) kX7_ifBooked_4 rfl ?_
          obtain ⟨hb18, h⟩ := h
          refine y_iald (N := 36) (f := (m15.2 11)) C dX7_ifBooked_162 8 (sh_5012 g M m15) hb18 ?_
          exact HR 163 dX7_ifBooked_163 ((m15.2 11) (m15.1 18).toNatClampNeg) _ _ _ _ (rfl) (Nat.le_of_ble_eq_true rfl) (Nat.le_of_ble_eq_true rfl) (hK _ _  h)
        refine y_tabOut (tgt := 164) C dX7_ifBooked_111 (by have q0 := lv_neT c111_0 (show (0 : Int32).toInt = 0 by decide); have q1 := lv_neT c111_1 (show (1 : Int32).toInt = 1 by decide); have q2 := lv_neT c111_2 (show (2 : Int32).toInt = 2 by decide); omega) rfl ?_
        refine y_aload_n C dX7_ifBooked_164 3 rfl rfl ?_
        refine y_get (Cn := RX7) (T := TX7) (N := 26) (v := .int (m15.1 20)) C dX7_ifBooked_165 hX7_ifBooked_X7 0 (sh_5000 g M m15) rfl 20 (Nat.le_of_ble_eq_true rfl) kX7_ifBooked_6 rfl ?_
        exact HR 168 dX7_ifBooked_168 (m15.1 20) _ _ _ _ (rfl) (Nat.le_of_ble_eq_true rfl) (Nat.le_of_ble_eq_true rfl) (hK _ _  h)
      · refine y_iload C dX7_ifBooked_74 8 rfl ?_
        refine y_iconst (v := 3) C dX7_ifBooked_76 (by decide) ?_
        refine y_icmp_ne (tgt := 84) C dX7_ifBooked_77 rfl h (fun c77 h => ?_) (fun c77 h => ?_)
        · refine y_bipush (v := -6) C dX7_ifBooked_84 (by decide) ?_
          exact HR 86 dX7_ifBooked_86 (-6 : Int32) _ _ _ _ (rfl) (Nat.le_of_ble_eq_true rfl) (Nat.le_of_ble_eq_true rfl) (hK _ _  h)
        · refine y_iconst (v := 0) C dX7_ifBooked_80 (by decide) ?_
          refine y_goto (tgt := 86) C dX7_ifBooked_81 rfl ?_
          exact HR 86 dX7_ifBooked_86 (0 : Int32) _ _ _ _ (rfl) (Nat.le_of_ble_eq_true rfl) (Nat.le_of_ble_eq_true rfl) (hK _ _  h)
    · refine y_iload C dX7_ifBooked_31 0 rfl ?_
      refine y_if_eq (tgt := 41) C dX7_ifBooked_33 rfl (y_same (c := r2 = 0) h) (fun c33 h => ?_) (fun c33 h => ?_)
      · refine y_bipush (v := -2) C dX7_ifBooked_41 (by decide) ?_
        exact HR 43 dX7_ifBooked_43 (-2 : Int32) _ _ _ _ (rfl) (Nat.le_of_ble_eq_true rfl) (Nat.le_of_ble_eq_true rfl) (hK _ _  h)
      · exact absurd c18 c33
theorem u_X7_ifBooked (g : yG) (M : Nat → Nat) (m : MV) (fr : Int32) (to : Int32) (wa : Int32) (bt : Int32) (wh : Int32) {K : Int32 → MV → Prop} (hPO : PO_X7_ifBooked fr to wa bt wh K m ) : yM g yX7_ifBooked wsX7_ifBooked ({ frames := 6, cells := 0, slots := 0, locals := 139 } : Room) [.ref (M 0), .int fr, .int to, .int wa, .int bt, .int wh] ([modW g M m] : List va_W) (fun r w => ∃ m' : MV, K r m' ∧ w = ([modW g M m'] : List va_W)) 0 0 :=
  t_X7_ifBooked g M m fr to wa bt wh (fun r0 m hk => ⟨m, hk, rfl⟩) hPO
