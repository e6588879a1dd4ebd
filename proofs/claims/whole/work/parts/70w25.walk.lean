theorem dX7_visit_0 : decode cX7_visit 0 = .ok (.aload_n 0, 1) := by decide +kernel
theorem dX7_visit_1 : decode cX7_visit 1 = .ok (.iconst 0, 1) := by decide +kernel
theorem dX7_visit_2 : decode cX7_visit 2 = .ok (.putfield 44, 3) := by decide +kernel
theorem dX7_visit_5 : decode cX7_visit 5 = .ok (.iload_n 1, 1) := by decide +kernel
theorem dX7_visit_6 : decode cX7_visit 6 = .ok (.iconst 0, 1) := by decide +kernel
theorem dX7_visit_7 : decode cX7_visit 7 = .ok (.aload_n 0, 1) := by decide +kernel
theorem dX7_visit_8 : decode cX7_visit 8 = .ok (.getfield 7, 3) := by decide +kernel
theorem dX7_visit_11 : decode cX7_visit 11 = .ok (.iconst 5, 1) := by decide +kernel
theorem dX7_visit_12 : decode cX7_visit 12 = .ok (.iaload, 1) := by decide +kernel
theorem dX7_visit_13 : decode cX7_visit 13 = .ok (.iconst 1, 1) := by decide +kernel
theorem dX7_visit_14 : decode cX7_visit 14 = .ok (.isub, 1) := by decide +kernel
theorem dX7_visit_15 : decode cX7_visit 15 = .ok (.invokestatic 48, 3) := by decide +kernel
theorem dX7_visit_18 : decode cX7_visit 18 = .ok (.ifCond .ne 5, 3) := by decide +kernel
theorem dX7_visit_21 : decode cX7_visit 21 = .ok (.iconst (-1), 1) := by decide +kernel
theorem dX7_visit_22 : decode cX7_visit 22 = .ok (.ireturn, 1) := by decide +kernel
theorem dX7_visit_23 : decode cX7_visit 23 = .ok (.aload_n 0, 1) := by decide +kernel
theorem dX7_visit_24 : decode cX7_visit 24 = .ok (.invokevirtual 164, 3) := by decide +kernel
theorem dX7_visit_27 : decode cX7_visit 27 = .ok (.iload_n 2, 1) := by decide +kernel
theorem dX7_visit_28 : decode cX7_visit 28 = .ok (.tableswitch 90 0 5 #[40, 49, 58, 69, 76, 83], 40) := by decide +kernel
theorem dX7_visit_68 : decode cX7_visit 68 = .ok (.aload_n 0, 1) := by decide +kernel
theorem dX7_visit_69 : decode cX7_visit 69 = .ok (.getfield 29, 3) := by decide +kernel
theorem dX7_visit_72 : decode cX7_visit 72 = .ok (.iload_n 1, 1) := by decide +kernel
theorem dX7_visit_73 : decode cX7_visit 73 = .ok (.iaload, 1) := by decide +kernel
theorem dX7_visit_74 : decode cX7_visit 74 = .ok (.iconst 2, 1) := by decide +kernel
theorem dX7_visit_75 : decode cX7_visit 75 = .ok (.idiv, 1) := by decide +kernel
theorem dX7_visit_76 : decode cX7_visit 76 = .ok (.ireturn, 1) := by decide +kernel
theorem dX7_visit_77 : decode cX7_visit 77 = .ok (.aload_n 0, 1) := by decide +kernel
theorem dX7_visit_78 : decode cX7_visit 78 = .ok (.getfield 29, 3) := by decide +kernel
theorem dX7_visit_81 : decode cX7_visit 81 = .ok (.iload_n 1, 1) := by decide +kernel
theorem dX7_visit_82 : decode cX7_visit 82 = .ok (.iaload, 1) := by decide +kernel
theorem dX7_visit_83 : decode cX7_visit 83 = .ok (.iconst 2, 1) := by decide +kernel
theorem dX7_visit_84 : decode cX7_visit 84 = .ok (.irem, 1) := by decide +kernel
theorem dX7_visit_85 : decode cX7_visit 85 = .ok (.ireturn, 1) := by decide +kernel
theorem dX7_visit_86 : decode cX7_visit 86 = .ok (.aload_n 0, 1) := by decide +kernel
theorem dX7_visit_87 : decode cX7_visit 87 = .ok (.aload_n 0, 1) := by decide +kernel
theorem dX7_visit_88 : decode cX7_visit 88 = .ok (.getfield 29, 3) := by decide +kernel
theorem dX7_visit_91 : decode cX7_visit 91 = .ok (.iload_n 1, 1) := by decide +kernel
theorem dX7_visit_92 : decode cX7_visit 92 = .ok (.iaload, 1) := by decide +kernel
theorem dX7_visit_93 : decode cX7_visit 93 = .ok (.invokevirtual 79, 3) := by decide +kernel
theorem dX7_visit_96 : decode cX7_visit 96 = .ok (.ireturn, 1) := by decide +kernel
theorem dX7_visit_97 : decode cX7_visit 97 = .ok (.aload_n 0, 1) := by decide +kernel
theorem dX7_visit_98 : decode cX7_visit 98 = .ok (.getfield 32, 3) := by decide +kernel
theorem dX7_visit_101 : decode cX7_visit 101 = .ok (.iload_n 1, 1) := by decide +kernel
theorem dX7_visit_102 : decode cX7_visit 102 = .ok (.iaload, 1) := by decide +kernel
theorem dX7_visit_103 : decode cX7_visit 103 = .ok (.ireturn, 1) := by decide +kernel
theorem dX7_visit_104 : decode cX7_visit 104 = .ok (.aload_n 0, 1) := by decide +kernel
theorem dX7_visit_105 : decode cX7_visit 105 = .ok (.getfield 38, 3) := by decide +kernel
theorem dX7_visit_108 : decode cX7_visit 108 = .ok (.iload_n 1, 1) := by decide +kernel
theorem dX7_visit_109 : decode cX7_visit 109 = .ok (.iaload, 1) := by decide +kernel
theorem dX7_visit_110 : decode cX7_visit 110 = .ok (.ireturn, 1) := by decide +kernel
theorem dX7_visit_111 : decode cX7_visit 111 = .ok (.aload_n 0, 1) := by decide +kernel
theorem dX7_visit_112 : decode cX7_visit 112 = .ok (.getfield 35, 3) := by decide +kernel
theorem dX7_visit_115 : decode cX7_visit 115 = .ok (.iload_n 1, 1) := by decide +kernel
theorem dX7_visit_116 : decode cX7_visit 116 = .ok (.iaload, 1) := by decide +kernel
theorem dX7_visit_117 : decode cX7_visit 117 = .ok (.ireturn, 1) := by decide +kernel
theorem dX7_visit_118 : decode cX7_visit 118 = .ok (.bipush (-2), 2) := by decide +kernel
theorem dX7_visit_120 : decode cX7_visit 120 = .ok (.ireturn, 1) := by decide +kernel
set_option maxRecDepth 20000 in
theorem ggX7_visit_X7_in : GoodIn wsX7_visit wsX7_in := goodIn_r _ [10] (by decide +kernel) (by decide +kernel)
set_option maxRecDepth 20000 in
theorem gX7_visit_X7_in : GoodIn wsX7_visit (va_wsS RX7 48 yX7_in wsX7_in) := goodIn_app (goodIn_of _ (by decide +kernel)) ggX7_visit_X7_in
set_option maxRecDepth 20000 in
theorem ggX7_visit_X7_drivesRoute : GoodIn wsX7_visit wsX7_drivesRoute := goodIn_r _ [14, 2, 15, 16, 17, 9, 18, 19, 3, 20, 21, 22, 23, 24, 25, 6, 4, 5, 26, 27, 28, 29, 30, 31, 32, 33, 34, 35, 36, 37, 38, 39, 40, 41, 42, 43, 44, 45, 46, 47, 48, 49, 50, 51, 52, 53, 54, 55, 56, 57, 58, 59, 60, 61, 62, 63, 64, 65, 66, 67, 68, 69, 70, 71, 72, 73, 74, 75, 76, 77, 78, 79, 80, 81, 82, 83] (by decide +kernel) (by decide +kernel)
set_option maxRecDepth 20000 in
theorem gX7_visit_X7_drivesRoute : GoodIn wsX7_visit (wsV RX7 164 RX7 yX7_drivesRoute wsX7_drivesRoute) := goodIn_app (goodIn_of _ (by decide +kernel)) ggX7_visit_X7_drivesRoute
set_option maxRecDepth 20000 in
theorem ggX7_visit_X7_stopOf : GoodIn wsX7_visit wsX7_stopOf := goodIn_r _ [38, 31, 32, 33, 9, 34, 2, 58, 59, 60, 61, 62, 63, 64, 65, 66, 67, 68, 69, 70, 71, 72, 73, 74, 75, 76, 77, 78, 79, 80, 81, 82, 83] (by decide +kernel) (by decide +kernel)
set_option maxRecDepth 20000 in
theorem gX7_visit_X7_stopOf : GoodIn wsX7_visit (wsV RX7 79 RX7 yX7_stopOf wsX7_stopOf) := goodIn_app (goodIn_of _ (by decide +kernel)) ggX7_visit_X7_stopOf
theorem kX7_visit_1 : Cond.fieldLink RX7 44 "BookedDetoursModel" "thrown" "I" ∈ wsX7_visit := List.mem_of_getElem? (i := 1) (by decide +kernel)
theorem kX7_visit_2 : Cond.fieldLink RX7 7 "BookedDetoursModel" "s" "[I" ∈ wsX7_visit := List.mem_of_getElem? (i := 2) (by decide +kernel)
theorem kX7_visit_3 : Cond.fieldLink RX7 29 "BookedDetoursModel" "way" "[I" ∈ wsX7_visit := List.mem_of_getElem? (i := 3) (by decide +kernel)
theorem kX7_visit_4 : Cond.fieldLink RX7 32 "BookedDetoursModel" "times" "[I" ∈ wsX7_visit := List.mem_of_getElem? (i := 4) (by decide +kernel)
theorem kX7_visit_5 : Cond.fieldLink RX7 38 "BookedDetoursModel" "aboards" "[I" ∈ wsX7_visit := List.mem_of_getElem? (i := 5) (by decide +kernel)
theorem kX7_visit_6 : Cond.fieldLink RX7 35 "BookedDetoursModel" "waits" "[I" ∈ wsX7_visit := List.mem_of_getElem? (i := 6) (by decide +kernel)
theorem hX7_visit_X7 : ∀ w ∈ u_ws RX7 TX7 26, w ∈ wsX7_visit := fun _ h => List.mem_cons_of_mem _ (List.mem_append_right _ h)
set_option maxHeartbeats 4000000 in
set_option maxRecDepth 100000 in
theorem t_X7_visit (g : yG) (M : Nat → Nat) (m : MV) (pl : Int32) (wh : Int32) {post : Int32 → List va_W → Prop} {K : Int32 → MV → Prop} (hK : ∀ (r0 : Int32) (m : MV), K r0 m → post r0 ([modW g M m] : List va_W)) (hPO : PO_X7_visit pl wh K m ) : yM g yX7_visit wsX7_visit ({ frames := 6, cells := 0, slots := 0, locals := 135 } : Room) [.ref (M 0), .int pl, .int wh] ([modW g M m] : List va_W) post 0 0 := by
  refine y_entryI (cc := cX7_visit) (maxL := 3) (by decide +kernel) rfl (Nat.le_of_ble_eq_true rfl) (fun Z C HR => ?_)
  have C : yC Z g cX7_visit 3 wsX7_visit RX7 := C
  have h := hPO
  unfold PO_X7_visit wp_X7_visit_0 at h
  show yJ Z _ 0 0 _ 0 [(0, .ref (M 0)), (1, .int pl), (2, .int wh)] []
  refine y_aload_n C dX7_visit_0 0 rfl rfl ?_
  refine y_iconst (v := 0) C dX7_visit_1 (by decide) ?_
  obtain ⟨m1, em1⟩ : ∃ z : MV, z = mI m 0 (0 : Int32) := ⟨_, rfl⟩
  have h := y_letP h em1
  refine y_put (Cn := RX7) (T := TX7) (N := 26) (v := .int (0 : Int32)) (ty0 := tyX7) (L1 := ([modW g M m1] : List va_W)) C dX7_visit_2 hX7_visit_X7 0 (sh_5000 g M m) rfl 0 (Nat.le_of_ble_eq_true rfl) kX7_visit_1 tyX7_ok nmX7 rfl rfl rfl (Nat.le_of_ble_eq_true rfl) (sh_5029 g M m (0 : Int32) m1 em1) ?_
  refine y_iload_n C dX7_visit_5 1 rfl rfl ?_
  refine y_iconst (v := 0) C dX7_visit_6 (by decide) ?_
  refine y_aload_n C dX7_visit_7 0 rfl rfl ?_
  refine y_get (Cn := RX7) (T := TX7) (N := 26) (v := .ref (M 1)) C dX7_visit_8 hX7_visit_X7 0 (sh_5000 g M m1) rfl 1 (Nat.le_of_ble_eq_true rfl) kX7_visit_2 rfl ?_
  refine y_iconst (v := 5) C dX7_visit_11 (by decide) ?_
  obtain ⟨hb2, h⟩ := h
  refine y_iald (N := 186) (f := (m1.2 1)) C dX7_visit_12 1 (sh_5001 g M m1) hb2 ?_
  refine y_iconst (v := 1) C dX7_visit_13 (by decide) ?_
  refine y_isub C dX7_visit_14 ?_
  refine y_callS (As := [.int pl, .int (0 : Int32), .int (((m1.2 1) (5 : Int32).toNatClampNeg) - (1 : Int32))]) (rest := []) C dX7_visit_15 (c_X7_in g pl (0 : Int32) (((m1.2 1) (5 : Int32).toNatClampNeg) - (1 : Int32))) rfl rfl rfl rfl ⟨Nat.le_of_ble_eq_true rfl, Nat.le_of_ble_eq_true rfl⟩ gX7_visit_X7_in (nA := 3) (by decide +kernel) rfl (Nat.le_of_ble_eq_true rfl) ⟨Nat.le_of_ble_eq_true rfl, Nat.le_of_ble_eq_true rfl⟩ [] [0] (nB := 1) rfl (by decide +kernel) (sh_5002 g M m1) (fun r3 w9 hw => ?_)
  obtain ⟨er3, rfl⟩ := hw
  have h := y_letP h er3
  refine ⟨([modW g M m1] : List va_W), ⟨(sh_5002 g M m1), rfl, rfl⟩, ?_⟩
  refine y_if_ne (tgt := 23) C dX7_visit_18 rfl h (fun c18 h => ?_) (fun c18 h => ?_)
  · refine y_aload_n C dX7_visit_23 0 rfl rfl ?_
    refine y_callVv (As := []) (rest := []) C dX7_visit_24 (u_X7_drivesRoute g M m1 h) rfl rfl rfl rfl ⟨Nat.le_of_ble_eq_true rfl, Nat.le_of_ble_eq_true rfl⟩ gX7_visit_X7_drivesRoute (nA := 0) (by decide +kernel) rfl (sh_5010 g M m1) (Nat.le_of_ble_eq_true rfl) ⟨Nat.le_of_ble_eq_true rfl, Nat.le_of_ble_eq_true rfl⟩ [0] [] (nB := 1) rfl (by decide +kernel) (sh_5009 g M m1) (fun w9 hw => ?_)
    obtain ⟨m4, h, rfl⟩ := hw
    refine ⟨([modW g M m4] : List va_W), (sh_5023 g M m1 m4), ?_⟩
    refine y_iload_n C dX7_visit_27 2 rfl rfl ?_
    refine y_if h (fun c28_0 h => ?_) (fun c28_0 h => ?_)
    · refine y_tabIn (tgt := 68) C dX7_visit_28 c28_0 (by decide) (by decide) rfl rfl ?_
      refine y_aload_n C dX7_visit_68 0 rfl rfl ?_
      refine y_get (Cn := RX7) (T := TX7) (N := 26) (v := .ref (M 7)) C dX7_visit_69 hX7_visit_X7 0 (sh_5000 g M m4) rfl 9 (Nat.le_of_ble_eq_true rfl) kX7_visit_3 rfl ?_
      refine y_iload_n C dX7_visit_72 1 rfl rfl ?_
      obtain ⟨hb6, h⟩ := h
      refine y_iald (N := 36) (f := (m4.2 9)) C dX7_visit_73 7 (sh_5011 g M m4) hb6 ?_
      refine y_iconst (v := 2) C dX7_visit_74 (by decide) ?_
      refine y_idiv C dX7_visit_75 (by decide) ?_
      exact HR 76 dX7_visit_76 (((m4.2 9) pl.toNatClampNeg) / (2 : Int32)) _ _ _ _ (rfl) (Nat.le_of_ble_eq_true rfl) (Nat.le_of_ble_eq_true rfl) (hK _ _  h)
    refine y_if h (fun c28_1 h => ?_) (fun c28_1 h => ?_)
    · refine y_tabIn (tgt := 77) C dX7_visit_28 c28_1 (by decide) (by decide) rfl rfl ?_
      refine y_aload_n C dX7_visit_77 0 rfl rfl ?_
      refine y_get (Cn := RX7) (T := TX7) (N := 26) (v := .ref (M 7)) C dX7_visit_78 hX7_visit_X7 0 (sh_5000 g M m4) rfl 9 (Nat.le_of_ble_eq_true rfl) kX7_visit_3 rfl ?_
      refine y_iload_n C dX7_visit_81 1 rfl rfl ?_
      obtain ⟨hb7, h⟩ := h
      refine y_iald (N := 36) (f := (m4.2 9)) C dX7_visit_82 7 (sh_5011 g M m4) hb7 ?_
      refine y_iconst (v := 2) C dX7_visit_83 (by decide) ?_
      refine y_irem C dX7_visit_84 (by decide) ?_
      exact HR 85 dX7_visit_85 (((m4.2 9) pl.toNatClampNeg) - ((m4.2 9) pl.toNatClampNeg) / (2 : Int32) * (2 : Int32)) _ _ _ _ (rfl) (Nat.le_of_ble_eq_true rfl) (Nat.le_of_ble_eq_true rfl) (hK _ _  h)
    refine y_if h (fun c28_2 h => ?_) (fun c28_2 h => ?_)
    · refine y_tabIn (tgt := 86) C dX7_visit_28 c28_2 (by decide) (by decide) rfl rfl ?_
      refine y_aload_n C dX7_visit_86 0 rfl rfl ?_
      refine y_aload_n C dX7_visit_87 0 rfl rfl ?_
      refine y_get (Cn := RX7) (T := TX7) (N := 26) (v := .ref (M 7)) C dX7_visit_88 hX7_visit_X7 0 (sh_5000 g M m4) rfl 9 (Nat.le_of_ble_eq_true rfl) kX7_visit_3 rfl ?_
      refine y_iload_n C dX7_visit_91 1 rfl rfl ?_
      obtain ⟨hb8, h⟩ := h
      refine y_iald (N := 36) (f := (m4.2 9)) C dX7_visit_92 7 (sh_5011 g M m4) hb8 ?_
      refine y_callV (As := [.int ((m4.2 9) pl.toNatClampNeg)]) (rest := []) C dX7_visit_93 (u_X7_stopOf g M m4 ((m4.2 9) pl.toNatClampNeg) h) rfl rfl rfl rfl ⟨Nat.le_of_ble_eq_true rfl, Nat.le_of_ble_eq_true rfl⟩ gX7_visit_X7_stopOf (nA := 1) (by decide +kernel) rfl (sh_5010 g M m4) (Nat.le_of_ble_eq_true rfl) ⟨Nat.le_of_ble_eq_true rfl, Nat.le_of_ble_eq_true rfl⟩ [0] [] (nB := 1) rfl (by decide +kernel) (sh_5009 g M m4) (fun r9 w9 hw => ?_)
      obtain ⟨h, rfl⟩ := hw
      refine ⟨([modW g M m4] : List va_W), ⟨(sh_5009 g M m4), rfl, rfl⟩, ?_⟩
      exact HR 96 dX7_visit_96 r9 _ _ _ _ (rfl) (Nat.le_of_ble_eq_true rfl) (Nat.le_of_ble_eq_true rfl) (hK _ _  h)
    refine y_if h (fun c28_3 h => ?_) (fun c28_3 h => ?_)
    · refine y_tabIn (tgt := 97) C dX7_visit_28 c28_3 (by decide) (by decide) rfl rfl ?_
      refine y_aload_n C dX7_visit_97 0 rfl rfl ?_
      refine y_get (Cn := RX7) (T := TX7) (N := 26) (v := .ref (M 8)) C dX7_visit_98 hX7_visit_X7 0 (sh_5000 g M m4) rfl 11 (Nat.le_of_ble_eq_true rfl) kX7_visit_4 rfl ?_
      refine y_iload_n C dX7_visit_101 1 rfl rfl ?_
      obtain ⟨hb10, h⟩ := h
      refine y_iald (N := 36) (f := (m4.2 11)) C dX7_visit_102 8 (sh_5012 g M m4) hb10 ?_
      exact HR 103 dX7_visit_103 ((m4.2 11) pl.toNatClampNeg) _ _ _ _ (rfl) (Nat.le_of_ble_eq_true rfl) (Nat.le_of_ble_eq_true rfl) (hK _ _  h)
    refine y_if h (fun c28_4 h => ?_) (fun c28_4 h => ?_)
    · refine y_tabIn (tgt := 104) C dX7_visit_28 c28_4 (by decide) (by decide) rfl rfl ?_
      refine y_aload_n C dX7_visit_104 0 rfl rfl ?_
      refine y_get (Cn := RX7) (T := TX7) (N := 26) (v := .ref (M 10)) C dX7_visit_105 hX7_visit_X7 0 (sh_5000 g M m4) rfl 13 (Nat.le_of_ble_eq_true rfl) kX7_visit_5 rfl ?_
      refine y_iload_n C dX7_visit_108 1 rfl rfl ?_
      obtain ⟨hb11, h⟩ := h
      refine y_iald (N := 36) (f := (m4.2 13)) C dX7_visit_109 10 (sh_5018 g M m4) hb11 ?_
      exact HR 110 dX7_visit_110 ((m4.2 13) pl.toNatClampNeg) _ _ _ _ (rfl) (Nat.le_of_ble_eq_true rfl) (Nat.le_of_ble_eq_true rfl) (hK _ _  h)
    refine y_if h (fun c28_5 h => ?_) (fun c28_5 h => ?_)
    · refine y_tabIn (tgt := 111) C dX7_visit_28 c28_5 (by decide) (by decide) rfl rfl ?_
      refine y_aload_n C dX7_visit_111 0 rfl rfl ?_
      refine y_get (Cn := RX7) (T := TX7) (N := 26) (v := .ref (M 9)) C dX7_visit_112 hX7_visit_X7 0 (sh_5000 g M m4) rfl 12 (Nat.le_of_ble_eq_true rfl) kX7_visit_6 rfl ?_
      refine y_iload_n C dX7_visit_115 1 rfl rfl ?_
      obtain ⟨hb12, h⟩ := h
      refine y_iald (N := 36) (f := (m4.2 12)) C dX7_visit_116 9 (sh_5015 g M m4) hb12 ?_
      exact HR 117 dX7_visit_117 ((m4.2 12) pl.toNatClampNeg) _ _ _ _ (rfl) (Nat.le_of_ble_eq_true rfl) (Nat.le_of_ble_eq_true rfl) (hK _ _  h)
    refine y_tabOut (tgt := 118) C dX7_visit_28 (by have q0 := lv_neT c28_0 (show (0 : Int32).toInt = 0 by decide); have q1 := lv_neT c28_1 (show (1 : Int32).toInt = 1 by decide); have q2 := lv_neT c28_2 (show (2 : Int32).toInt = 2 by decide); have q3 := lv_neT c28_3 (show (3 : Int32).toInt = 3 by decide); have q4 := lv_neT c28_4 (show (4 : Int32).toInt = 4 by decide); have q5 := lv_neT c28_5 (show (5 : Int32).toInt = 5 by decide); omega) rfl ?_
    refine y_bipush (v := -2) C dX7_visit_118 (by decide) ?_
    exact HR 120 dX7_visit_120 (-2 : Int32) _ _ _ _ (rfl) (Nat.le_of_ble_eq_true rfl) (Nat.le_of_ble_eq_true rfl) (hK _ _  h)
  · refine y_iconst (v := -1) C dX7_visit_21 (by decide) ?_
    exact HR 22 dX7_visit_22 (-1 : Int32) _ _ _ _ (rfl) (Nat.le_of_ble_eq_true rfl) (Nat.le_of_ble_eq_true rfl) (hK _ _  h)
theorem u_X7_visit (g : yG) (M : Nat → Nat) (m : MV) (pl : Int32) (wh : Int32) {K : Int32 → MV → Prop} (hPO : PO_X7_visit pl wh K m ) : yM g yX7_visit wsX7_visit ({ frames := 6, cells := 0, slots := 0, locals := 135 } : Room) [.ref (M 0), .int pl, .int wh] ([modW g M m] : List va_W) (fun r w => ∃ m' : MV, K r m' ∧ w = ([modW g M m'] : List va_W)) 0 0 :=
  t_X7_visit g M m pl wh (fun r0 m hk => ⟨m, hk, rfl⟩) hPO
theorem dX7_coordinate_0 : decode cX7_coordinate 0 = .ok (.aload_n 0, 1) := by decide +kernel
theorem dX7_coordinate_1 : decode cX7_coordinate 1 = .ok (.iconst 0, 1) := by decide +kernel
theorem dX7_coordinate_2 : decode cX7_coordinate 2 = .ok (.putfield 44, 3) := by decide +kernel
theorem dX7_coordinate_5 : decode cX7_coordinate 5 = .ok (.aload_n 0, 1) := by decide +kernel
theorem dX7_coordinate_6 : decode cX7_coordinate 6 = .ok (.iload_n 1, 1) := by decide +kernel
theorem dX7_coordinate_7 : decode cX7_coordinate 7 = .ok (.invokevirtual 132, 3) := by decide +kernel
theorem dX7_coordinate_10 : decode cX7_coordinate 10 = .ok (.ifCond .ne 5, 3) := by decide +kernel
theorem dX7_coordinate_13 : decode cX7_coordinate 13 = .ok (.iconst (-1), 1) := by decide +kernel
theorem dX7_coordinate_14 : decode cX7_coordinate 14 = .ok (.ireturn, 1) := by decide +kernel
theorem dX7_coordinate_15 : decode cX7_coordinate 15 = .ok (.iload_n 2, 1) := by decide +kernel
theorem dX7_coordinate_16 : decode cX7_coordinate 16 = .ok (.iconst 0, 1) := by decide +kernel
theorem dX7_coordinate_17 : decode cX7_coordinate 17 = .ok (.iconst 1, 1) := by decide +kernel
theorem dX7_coordinate_18 : decode cX7_coordinate 18 = .ok (.invokestatic 48, 3) := by decide +kernel
theorem dX7_coordinate_21 : decode cX7_coordinate 21 = .ok (.ifCond .eq 19, 3) := by decide +kernel
theorem dX7_coordinate_24 : decode cX7_coordinate 24 = .ok (.aload_n 0, 1) := by decide +kernel
theorem dX7_coordinate_25 : decode cX7_coordinate 25 = .ok (.getfield 7, 3) := by decide +kernel
theorem dX7_coordinate_28 : decode cX7_coordinate 28 = .ok (.bipush 9, 2) := by decide +kernel
theorem dX7_coordinate_30 : decode cX7_coordinate 30 = .ok (.iconst 2, 1) := by decide +kernel
theorem dX7_coordinate_31 : decode cX7_coordinate 31 = .ok (.iload_n 1, 1) := by decide +kernel
theorem dX7_coordinate_32 : decode cX7_coordinate 32 = .ok (.imul, 1) := by decide +kernel
theorem dX7_coordinate_33 : decode cX7_coordinate 33 = .ok (.iadd, 1) := by decide +kernel
theorem dX7_coordinate_34 : decode cX7_coordinate 34 = .ok (.iload_n 2, 1) := by decide +kernel
theorem dX7_coordinate_35 : decode cX7_coordinate 35 = .ok (.iadd, 1) := by decide +kernel
theorem dX7_coordinate_36 : decode cX7_coordinate 36 = .ok (.iaload, 1) := by decide +kernel
theorem dX7_coordinate_37 : decode cX7_coordinate 37 = .ok (.goto 5, 3) := by decide +kernel
theorem dX7_coordinate_40 : decode cX7_coordinate 40 = .ok (.bipush (-2), 2) := by decide +kernel
theorem dX7_coordinate_42 : decode cX7_coordinate 42 = .ok (.ireturn, 1) := by decide +kernel
set_option maxRecDepth 20000 in
theorem ggX7_coordinate_X7_isStop : GoodIn wsX7_coordinate wsX7_isStop := goodIn_r _ [7, 2, 8, 9, 6, 10, 11, 12, 13, 14, 15, 16, 17, 18, 19, 20, 21, 22, 23, 24, 25, 26, 27, 28, 29, 30, 31, 32, 33, 34, 35, 36] (by decide +kernel) (by decide +kernel)
set_option maxRecDepth 20000 in
theorem gX7_coordinate_X7_isStop : GoodIn wsX7_coordinate (wsV RX7 132 RX7 yX7_isStop wsX7_isStop) := goodIn_app (goodIn_of _ (by decide +kernel)) ggX7_coordinate_X7_isStop
set_option maxRecDepth 20000 in
theorem ggX7_coordinate_X7_in : GoodIn wsX7_coordinate wsX7_in := goodIn_r _ [10] (by decide +kernel) (by decide +kernel)
set_option maxRecDepth 20000 in
theorem gX7_coordinate_X7_in : GoodIn wsX7_coordinate (va_wsS RX7 48 yX7_in wsX7_in) := goodIn_app (goodIn_of _ (by decide +kernel)) ggX7_coordinate_X7_in
theorem kX7_coordinate_1 : Cond.fieldLink RX7 44 "BookedDetoursModel" "thrown" "I" ∈ wsX7_coordinate := List.mem_of_getElem? (i := 1) (by decide +kernel)
theorem kX7_coordinate_2 : Cond.fieldLink RX7 7 "BookedDetoursModel" "s" "[I" ∈ wsX7_coordinate := List.mem_of_getElem? (i := 2) (by decide +kernel)
theorem hX7_coordinate_X7 : ∀ w ∈ u_ws RX7 TX7 26, w ∈ wsX7_coordinate := fun _ h => List.mem_cons_of_mem _ (List.mem_append_right _ h)
set_option maxHeartbeats 4000000 in
set_option maxRecDepth 100000 in
theorem t_X7_coordinate (g : yG) (M : Nat → Nat) (m : MV) (st : Int32) (wh : Int32) {post : Int32 → List va_W → Prop} {K : Int32 → MV → Prop} (hK : ∀ (r0 : Int32) (m : MV), K r0 m → post r0 ([modW g M m] : List va_W)) (hPO : PO_X7_coordinate st wh K m ) : yM g yX7_coordinate wsX7_coordinate ({ frames := 2, cells := 0, slots := 0, locals := 43 } : Room) [.ref (M 0), .int st, .int wh] ([modW g M m] : List va_W) post 0 0 := by
  refine y_entryI (cc := cX7_coordinate) (maxL := 3) (by decide +kernel) rfl (Nat.le_of_ble_eq_true rfl) (fun Z C HR => ?_)
  have C : yC Z g cX7_coordinate 3 wsX7_coordinate RX7 := C
  have h := hPO
  unfold PO_X7_coordinate wp_X7_coordinate_0 at h
  show yJ Z _ 0 0 _ 0 [(0, .ref (M 0)), (1, .int st), (2, .int wh)] []
  refine y_aload_n C dX7_coordinate_0 0 rfl rfl ?_
  refine y_iconst (v := 0) C dX7_coordinate_1 (by decide) ?_
  obtain ⟨m1, em1⟩ : ∃ z : MV, z = mI m 0 (0 : Int32) := ⟨_, rfl⟩
  have h := y_letP h em1
  refine y_put (Cn := RX7) (T := TX7) (N := 26) (v := .int (0 : Int32)) (ty0 := tyX7) (L1 := ([modW g M m1] : List va_W)) C dX7_coordinate_2 hX7_coordinate_X7 0 (sh_5000 g M m) rfl 0 (Nat.le_of_ble_eq_true rfl) kX7_coordinate_1 tyX7_ok nmX7 rfl rfl rfl (Nat.le_of_ble_eq_true rfl) (sh_5029 g M m (0 : Int32) m1 em1) ?_
  refine y_aload_n C dX7_coordinate_5 0 rfl rfl ?_
  refine y_iload_n C dX7_coordinate_6 1 rfl rfl ?_
  refine y_callV (As := [.int st]) (rest := []) C dX7_coordinate_7 (u_X7_isStop g M m1 st h) rfl rfl rfl rfl ⟨Nat.le_of_ble_eq_true rfl, Nat.le_of_ble_eq_true rfl⟩ gX7_coordinate_X7_isStop (nA := 1) (by decide +kernel) rfl (sh_5010 g M m1) (Nat.le_of_ble_eq_true rfl) ⟨Nat.le_of_ble_eq_true rfl, Nat.le_of_ble_eq_true rfl⟩ [0] [] (nB := 1) rfl (by decide +kernel) (sh_5009 g M m1) (fun r2 w9 hw => ?_)
  obtain ⟨h, rfl⟩ := hw
  refine ⟨([modW g M m1] : List va_W), ⟨(sh_5009 g M m1), rfl, rfl⟩, ?_⟩
  refine y_if_ne (tgt := 15) C dX7_coordinate_10 rfl h (fun c10 h => ?_) (fun c10 h => ?_)
  · refine y_iload_n C dX7_coordinate_15 2 rfl rfl ?_
    refine y_iconst (v := 0) C dX7_coordinate_16 (by decide) ?_
    refine y_iconst (v := 1) C dX7_coordinate_17 (by decide) ?_
    refine y_callS (As := [.int wh, .int (0 : Int32), .int (1 : Int32)]) (rest := []) C dX7_coordinate_18 (c_X7_in g wh (0 : Int32) (1 : Int32)) rfl rfl rfl rfl ⟨Nat.le_of_ble_eq_true rfl, Nat.le_of_ble_eq_true rfl⟩ gX7_coordinate_X7_in (nA := 3) (by decide +kernel) rfl (Nat.le_of_ble_eq_true rfl) ⟨Nat.le_of_ble_eq_true rfl, Nat.le_of_ble_eq_true rfl⟩ [] [0] (nB := 1) rfl (by decide +kernel) (sh_5002 g M m1) (fun r3 w9 hw => ?_)
    obtain ⟨er3, rfl⟩ := hw
    have h := y_letP h er3
    refine ⟨([modW g M m1] : List va_W), ⟨(sh_5002 g M m1), rfl, rfl⟩, ?_⟩
    refine y_if_eq (tgt := 40) C dX7_coordinate_21 rfl h (fun c21 h => ?_) (fun c21 h => ?_)
    · refine y_bipush (v := -2) C dX7_coordinate_40 (by decide) ?_
      exact HR 42 dX7_coordinate_42 (-2 : Int32) _ _ _ _ (rfl) (Nat.le_of_ble_eq_true rfl) (Nat.le_of_ble_eq_true rfl) (hK _ _  h)
    · refine y_aload_n C dX7_coordinate_24 0 rfl rfl ?_
      refine y_get (Cn := RX7) (T := TX7) (N := 26) (v := .ref (M 1)) C dX7_coordinate_25 hX7_coordinate_X7 0 (sh_5000 g M m1) rfl 1 (Nat.le_of_ble_eq_true rfl) kX7_coordinate_2 rfl ?_
      refine y_bipush (v := 9) C dX7_coordinate_28 (by decide) ?_
      refine y_iconst (v := 2) C dX7_coordinate_30 (by decide) ?_
      refine y_iload_n C dX7_coordinate_31 1 rfl rfl ?_
      refine y_imul C dX7_coordinate_32 ?_
      refine y_iadd C dX7_coordinate_33 ?_
      refine y_iload_n C dX7_coordinate_34 2 rfl rfl ?_
      refine y_iadd C dX7_coordinate_35 ?_
      obtain ⟨hb4, h⟩ := h
      refine y_iald (N := 186) (f := (m1.2 1)) C dX7_coordinate_36 1 (sh_5001 g M m1) hb4 ?_
      refine y_goto (tgt := 42) C dX7_coordinate_37 rfl ?_
      exact HR 42 dX7_coordinate_42 ((m1.2 1) (((9 : Int32) + ((2 : Int32) * st)) + wh).toNatClampNeg) _ _ _ _ (rfl) (Nat.le_of_ble_eq_true rfl) (Nat.le_of_ble_eq_true rfl) (hK _ _  h)
  · refine y_iconst (v := -1) C dX7_coordinate_13 (by decide) ?_
    exact HR 14 dX7_coordinate_14 (-1 : Int32) _ _ _ _ (rfl) (Nat.le_of_ble_eq_true rfl) (Nat.le_of_ble_eq_true rfl) (hK _ _  h)
theorem u_X7_coordinate (g : yG) (M : Nat → Nat) (m : MV) (st : Int32) (wh : Int32) {K : Int32 → MV → Prop} (hPO : PO_X7_coordinate st wh K m ) : yM g yX7_coordinate wsX7_coordinate ({ frames := 2, cells := 0, slots := 0, locals := 43 } : Room) [.ref (M 0), .int st, .int wh] ([modW g M m] : List va_W) (fun r w => ∃ m' : MV, K r m' ∧ w = ([modW g M m'] : List va_W)) 0 0 :=
  t_X7_coordinate g M m st wh (fun r0 m hk => ⟨m, hk, rfl⟩) hPO
