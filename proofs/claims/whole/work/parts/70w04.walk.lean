theorem dX7_isInTime_0 : decode cX7_isInTime 0 = .ok (.aload_n 0, 1) := by decide +kernel
theorem dX7_isInTime_1 : decode cX7_isInTime 1 = .ok (.iconst 2, 1) := by decide +kernel
theorem dX7_isInTime_2 : decode cX7_isInTime 2 = .ok (.iload_n 1, 1) := by decide +kernel
theorem dX7_isInTime_3 : decode cX7_isInTime 3 = .ok (.imul, 1) := by decide +kernel
theorem dX7_isInTime_4 : decode cX7_isInTime 4 = .ok (.invokevirtual 90, 3) := by decide +kernel
theorem dX7_isInTime_7 : decode cX7_isInTime 7 = .ok (.istore_n 3, 1) := by decide +kernel
theorem dX7_isInTime_8 : decode cX7_isInTime 8 = .ok (.iload_n 3, 1) := by decide +kernel
theorem dX7_isInTime_9 : decode cX7_isInTime 9 = .ok (.bipush (-6), 2) := by decide +kernel
theorem dX7_isInTime_11 : decode cX7_isInTime 11 = .ok (.if_icmp .ne 12, 3) := by decide +kernel
theorem dX7_isInTime_14 : decode cX7_isInTime 14 = .ok (.aload_n 0, 1) := by decide +kernel
theorem dX7_isInTime_15 : decode cX7_isInTime 15 = .ok (.iload_n 1, 1) := by decide +kernel
theorem dX7_isInTime_16 : decode cX7_isInTime 16 = .ok (.iconst 5, 1) := by decide +kernel
theorem dX7_isInTime_17 : decode cX7_isInTime 17 = .ok (.invokevirtual 59, 3) := by decide +kernel
theorem dX7_isInTime_20 : decode cX7_isInTime 20 = .ok (.goto 9, 3) := by decide +kernel
theorem dX7_isInTime_23 : decode cX7_isInTime 23 = .ok (.aload_n 0, 1) := by decide +kernel
theorem dX7_isInTime_24 : decode cX7_isInTime 24 = .ok (.getfield 32, 3) := by decide +kernel
theorem dX7_isInTime_27 : decode cX7_isInTime 27 = .ok (.iload_n 3, 1) := by decide +kernel
theorem dX7_isInTime_28 : decode cX7_isInTime 28 = .ok (.iaload, 1) := by decide +kernel
theorem dX7_isInTime_29 : decode cX7_isInTime 29 = .ok (.aload_n 0, 1) := by decide +kernel
theorem dX7_isInTime_30 : decode cX7_isInTime 30 = .ok (.getfield 7, 3) := by decide +kernel
theorem dX7_isInTime_33 : decode cX7_isInTime 33 = .ok (.iconst 2, 1) := by decide +kernel
theorem dX7_isInTime_34 : decode cX7_isInTime 34 = .ok (.iaload, 1) := by decide +kernel
theorem dX7_isInTime_35 : decode cX7_isInTime 35 = .ok (.iadd, 1) := by decide +kernel
theorem dX7_isInTime_36 : decode cX7_isInTime 36 = .ok (.istore 4, 2) := by decide +kernel
theorem dX7_isInTime_38 : decode cX7_isInTime 38 = .ok (.iload_n 2, 1) := by decide +kernel
theorem dX7_isInTime_39 : decode cX7_isInTime 39 = .ok (.aload_n 0, 1) := by decide +kernel
theorem dX7_isInTime_40 : decode cX7_isInTime 40 = .ok (.iload_n 1, 1) := by decide +kernel
theorem dX7_isInTime_41 : decode cX7_isInTime 41 = .ok (.iconst 3, 1) := by decide +kernel
theorem dX7_isInTime_42 : decode cX7_isInTime 42 = .ok (.invokevirtual 59, 3) := by decide +kernel
theorem dX7_isInTime_45 : decode cX7_isInTime 45 = .ok (.if_icmp .gt 26, 3) := by decide +kernel
theorem dX7_isInTime_48 : decode cX7_isInTime 48 = .ok (.iload_n 2, 1) := by decide +kernel
theorem dX7_isInTime_49 : decode cX7_isInTime 49 = .ok (.iload 4, 2) := by decide +kernel
theorem dX7_isInTime_51 : decode cX7_isInTime 51 = .ok (.isub, 1) := by decide +kernel
theorem dX7_isInTime_52 : decode cX7_isInTime 52 = .ok (.aload_n 0, 1) := by decide +kernel
theorem dX7_isInTime_53 : decode cX7_isInTime 53 = .ok (.iload_n 1, 1) := by decide +kernel
theorem dX7_isInTime_54 : decode cX7_isInTime 54 = .ok (.invokevirtual 93, 3) := by decide +kernel
theorem dX7_isInTime_57 : decode cX7_isInTime 57 = .ok (.aload_n 0, 1) := by decide +kernel
theorem dX7_isInTime_58 : decode cX7_isInTime 58 = .ok (.getfield 7, 3) := by decide +kernel
theorem dX7_isInTime_61 : decode cX7_isInTime 61 = .ok (.iconst 1, 1) := by decide +kernel
theorem dX7_isInTime_62 : decode cX7_isInTime 62 = .ok (.iaload, 1) := by decide +kernel
theorem dX7_isInTime_63 : decode cX7_isInTime 63 = .ok (.iadd, 1) := by decide +kernel
theorem dX7_isInTime_64 : decode cX7_isInTime 64 = .ok (.if_icmp .gt 7, 3) := by decide +kernel
theorem dX7_isInTime_67 : decode cX7_isInTime 67 = .ok (.iconst 1, 1) := by decide +kernel
theorem dX7_isInTime_68 : decode cX7_isInTime 68 = .ok (.goto 4, 3) := by decide +kernel
theorem dX7_isInTime_71 : decode cX7_isInTime 71 = .ok (.iconst 0, 1) := by decide +kernel
theorem dX7_isInTime_72 : decode cX7_isInTime 72 = .ok (.ireturn, 1) := by decide +kernel
set_option maxRecDepth 20000 in
theorem ggX7_isInTime_X7_placeOf : GoodIn wsX7_isInTime wsX7_placeOf := goodIn_r _ [7, 8, 9, 25, 26, 27, 28, 29, 30, 31, 32, 33, 34, 35, 36, 37, 38, 39, 40, 41, 42, 43, 44, 45, 46, 47, 48, 49, 50] (by decide +kernel) (by decide +kernel)
set_option maxRecDepth 20000 in
theorem gX7_isInTime_X7_placeOf : GoodIn wsX7_isInTime (wsV RX7 90 RX7 yX7_placeOf wsX7_placeOf) := goodIn_app (goodIn_of _ (by decide +kernel)) ggX7_isInTime_X7_placeOf
set_option maxRecDepth 20000 in
theorem ggX7_isInTime_X7_of : GoodIn wsX7_isInTime wsX7_of := goodIn_r _ [13, 2, 25, 26, 27, 28, 29, 30, 31, 32, 33, 34, 35, 36, 37, 38, 39, 40, 41, 42, 43, 44, 45, 46, 47, 48, 49, 50] (by decide +kernel) (by decide +kernel)
set_option maxRecDepth 20000 in
theorem gX7_isInTime_X7_of : GoodIn wsX7_isInTime (wsV RX7 59 RX7 yX7_of wsX7_of) := goodIn_app (goodIn_of _ (by decide +kernel)) ggX7_isInTime_X7_of
set_option maxRecDepth 20000 in
theorem ggX7_isInTime_X7_straight : GoodIn wsX7_isInTime wsX7_straight := goodIn_r _ [17, 10, 11, 12, 6, 13, 2, 18, 19, 20, 21, 22, 23, 24, 25, 26, 27, 28, 29, 30, 31, 32, 33, 34, 35, 36, 37, 38, 39, 40, 41, 42, 43, 44, 45, 46, 47, 48, 49, 50] (by decide +kernel) (by decide +kernel)
set_option maxRecDepth 20000 in
theorem gX7_isInTime_X7_straight : GoodIn wsX7_isInTime (wsV RX7 93 RX7 yX7_straight wsX7_straight) := goodIn_app (goodIn_of _ (by decide +kernel)) ggX7_isInTime_X7_straight
theorem kX7_isInTime_1 : Cond.fieldLink RX7 32 "BookedDetoursModel" "times" "[I" ∈ wsX7_isInTime := List.mem_of_getElem? (i := 1) (by decide +kernel)
theorem kX7_isInTime_2 : Cond.fieldLink RX7 7 "BookedDetoursModel" "s" "[I" ∈ wsX7_isInTime := List.mem_of_getElem? (i := 2) (by decide +kernel)
theorem hX7_isInTime_X7 : ∀ w ∈ u_ws RX7 TX7 26, w ∈ wsX7_isInTime := fun _ h => List.mem_cons_of_mem _ (List.mem_append_right _ h)
set_option maxHeartbeats 4000000 in
set_option maxRecDepth 100000 in
theorem t_X7_isInTime (g : yG) (M : Nat → Nat) (m : MV) (ri : Int32) (ti : Int32) {post : Int32 → List va_W → Prop} {K : Int32 → Prop} (hK : ∀ (r0 : Int32), K r0 → post r0 ([modW g M m] : List va_W)) (hPO : PO_X7_isInTime m ri ti K  ) : yM g yX7_isInTime wsX7_isInTime ({ frames := 3, cells := 0, slots := 0, locals := 64 } : Room) [.ref (M 0), .int ri, .int ti] ([modW g M m] : List va_W) post 0 0 := by
  refine y_entryI (cc := cX7_isInTime) (maxL := 5) (by decide +kernel) rfl (Nat.le_of_ble_eq_true rfl) (fun Z C HR => ?_)
  have C : yC Z g cX7_isInTime 5 wsX7_isInTime RX7 := C
  have h := hPO
  unfold PO_X7_isInTime wp_X7_isInTime_0 at h
  show yJ Z _ 0 0 _ 0 [(0, .ref (M 0)), (1, .int ri), (2, .int ti)] []
  refine y_aload_n C dX7_isInTime_0 0 rfl rfl ?_
  refine y_iconst (v := 2) C dX7_isInTime_1 (by decide) ?_
  refine y_iload_n C dX7_isInTime_2 1 rfl rfl ?_
  refine y_imul C dX7_isInTime_3 ?_
  refine y_callV (As := [.int ((2 : Int32) * ri)]) (rest := []) C dX7_isInTime_4 (u_X7_placeOf g M m ((2 : Int32) * ri) h) rfl rfl rfl rfl ⟨Nat.le_of_ble_eq_true rfl, Nat.le_of_ble_eq_true rfl⟩ gX7_isInTime_X7_placeOf (nA := 1) (by decide +kernel) rfl (sh_5010 g M m) (Nat.le_of_ble_eq_true rfl) ⟨Nat.le_of_ble_eq_true rfl, Nat.le_of_ble_eq_true rfl⟩ [0] [] (nB := 1) rfl (by decide +kernel) (sh_5009 g M m) (fun r1 w9 hw => ?_)
  obtain ⟨h, rfl⟩ := hw
  refine ⟨([modW g M m] : List va_W), ⟨(sh_5009 g M m), rfl, rfl⟩, ?_⟩
  refine y_istore_n (lv' := [(3, .int r1), (0, .ref (M 0)), (1, .int ri), (2, .int ti)]) C dX7_isInTime_7 rfl (Nat.le_of_ble_eq_true rfl) rfl ?_
  refine y_iload_n C dX7_isInTime_8 0 rfl rfl ?_
  refine y_bipush (v := -6) C dX7_isInTime_9 (by decide) ?_
  refine y_icmp_ne (tgt := 23) C dX7_isInTime_11 rfl h (fun c11 h => ?_) (fun c11 h => ?_)
  · refine y_aload_n C dX7_isInTime_23 1 rfl rfl ?_
    refine y_get (Cn := RX7) (T := TX7) (N := 26) (v := .ref (M 8)) C dX7_isInTime_24 hX7_isInTime_X7 0 (sh_5000 g M m) rfl 11 (Nat.le_of_ble_eq_true rfl) kX7_isInTime_1 rfl ?_
    refine y_iload_n C dX7_isInTime_27 0 rfl rfl ?_
    obtain ⟨hb2, h⟩ := h
    refine y_iald (N := 36) (f := (m.2 11)) C dX7_isInTime_28 8 (sh_5012 g M m) hb2 ?_
    refine y_aload_n C dX7_isInTime_29 1 rfl rfl ?_
    refine y_get (Cn := RX7) (T := TX7) (N := 26) (v := .ref (M 1)) C dX7_isInTime_30 hX7_isInTime_X7 0 (sh_5000 g M m) rfl 1 (Nat.le_of_ble_eq_true rfl) kX7_isInTime_2 rfl ?_
    refine y_iconst (v := 2) C dX7_isInTime_33 (by decide) ?_
    obtain ⟨hb3, h⟩ := h
    refine y_iald (N := 186) (f := (m.2 1)) C dX7_isInTime_34 1 (sh_5001 g M m) hb3 ?_
    refine y_iadd C dX7_isInTime_35 ?_
    refine y_istore (lv' := [(4, .int (((m.2 11) r1.toNatClampNeg) + ((m.2 1) (2 : Int32).toNatClampNeg))), (3, .int r1), (0, .ref (M 0)), (1, .int ri), (2, .int ti)]) C dX7_isInTime_36 (Nat.le_of_ble_eq_true rfl) rfl ?_
    refine y_iload_n C dX7_isInTime_38 4 rfl rfl ?_
    refine y_aload_n C dX7_isInTime_39 2 rfl rfl ?_
    refine y_iload_n C dX7_isInTime_40 3 rfl rfl ?_
    refine y_iconst (v := 3) C dX7_isInTime_41 (by decide) ?_
    refine y_callV (As := [.int ri, .int (3 : Int32)]) (rest := [.int ti]) C dX7_isInTime_42 (u_X7_of g M m ri (3 : Int32) h) rfl rfl rfl rfl ⟨Nat.le_of_ble_eq_true rfl, Nat.le_of_ble_eq_true rfl⟩ gX7_isInTime_X7_of (nA := 2) (by decide +kernel) rfl (sh_5010 g M m) (Nat.le_of_ble_eq_true rfl) ⟨Nat.le_of_ble_eq_true rfl, Nat.le_of_ble_eq_true rfl⟩ [0] [] (nB := 1) rfl (by decide +kernel) (sh_5009 g M m) (fun r4 w9 hw => ?_)
    obtain ⟨h, rfl⟩ := hw
    refine ⟨([modW g M m] : List va_W), ⟨(sh_5009 g M m), rfl, rfl⟩, ?_⟩
    refine y_icmp_gt (tgt := 71) C dX7_isInTime_45 rfl h (fun c45 h => ?_) (fun c45 h => ?_)
    · refine y_iconst (v := 0) C dX7_isInTime_71 (by decide) ?_
      exact HR 72 dX7_isInTime_72 (0 : Int32) _ _ _ _ (rfl) (Nat.le_of_ble_eq_true rfl) (Nat.le_of_ble_eq_true rfl) (hK _  h)
    · refine y_iload_n C dX7_isInTime_48 4 rfl rfl ?_
      refine y_iload C dX7_isInTime_49 0 rfl ?_
      refine y_isub C dX7_isInTime_51 ?_
      refine y_aload_n C dX7_isInTime_52 2 rfl rfl ?_
      refine y_iload_n C dX7_isInTime_53 3 rfl rfl ?_
      refine y_callV (As := [.int ri]) (rest := [.int (ti - (((m.2 11) r1.toNatClampNeg) + ((m.2 1) (2 : Int32).toNatClampNeg)))]) C dX7_isInTime_54 (u_X7_straight g M m ri h) rfl rfl rfl rfl ⟨Nat.le_of_ble_eq_true rfl, Nat.le_of_ble_eq_true rfl⟩ gX7_isInTime_X7_straight (nA := 1) (by decide +kernel) rfl (sh_5010 g M m) (Nat.le_of_ble_eq_true rfl) ⟨Nat.le_of_ble_eq_true rfl, Nat.le_of_ble_eq_true rfl⟩ [0] [] (nB := 1) rfl (by decide +kernel) (sh_5009 g M m) (fun r5 w9 hw => ?_)
      obtain ⟨h, rfl⟩ := hw
      refine ⟨([modW g M m] : List va_W), ⟨(sh_5009 g M m), rfl, rfl⟩, ?_⟩
      refine y_aload_n C dX7_isInTime_57 2 rfl rfl ?_
      refine y_get (Cn := RX7) (T := TX7) (N := 26) (v := .ref (M 1)) C dX7_isInTime_58 hX7_isInTime_X7 0 (sh_5000 g M m) rfl 1 (Nat.le_of_ble_eq_true rfl) kX7_isInTime_2 rfl ?_
      refine y_iconst (v := 1) C dX7_isInTime_61 (by decide) ?_
      obtain ⟨hb6, h⟩ := h
      refine y_iald (N := 186) (f := (m.2 1)) C dX7_isInTime_62 1 (sh_5001 g M m) hb6 ?_
      refine y_iadd C dX7_isInTime_63 ?_
      refine y_icmp_gt (tgt := 71) C dX7_isInTime_64 rfl h (fun c64 h => ?_) (fun c64 h => ?_)
      · refine y_iconst (v := 0) C dX7_isInTime_71 (by decide) ?_
        exact HR 72 dX7_isInTime_72 (0 : Int32) _ _ _ _ (rfl) (Nat.le_of_ble_eq_true rfl) (Nat.le_of_ble_eq_true rfl) (hK _  h)
      · refine y_iconst (v := 1) C dX7_isInTime_67 (by decide) ?_
        refine y_goto (tgt := 72) C dX7_isInTime_68 rfl ?_
        exact HR 72 dX7_isInTime_72 (1 : Int32) _ _ _ _ (rfl) (Nat.le_of_ble_eq_true rfl) (Nat.le_of_ble_eq_true rfl) (hK _  h)
  · refine y_aload_n C dX7_isInTime_14 1 rfl rfl ?_
    refine y_iload_n C dX7_isInTime_15 2 rfl rfl ?_
    refine y_iconst (v := 5) C dX7_isInTime_16 (by decide) ?_
    refine y_callV (As := [.int ri, .int (5 : Int32)]) (rest := []) C dX7_isInTime_17 (u_X7_of g M m ri (5 : Int32) h) rfl rfl rfl rfl ⟨Nat.le_of_ble_eq_true rfl, Nat.le_of_ble_eq_true rfl⟩ gX7_isInTime_X7_of (nA := 2) (by decide +kernel) rfl (sh_5010 g M m) (Nat.le_of_ble_eq_true rfl) ⟨Nat.le_of_ble_eq_true rfl, Nat.le_of_ble_eq_true rfl⟩ [0] [] (nB := 1) rfl (by decide +kernel) (sh_5009 g M m) (fun r7 w9 hw => ?_)
    obtain ⟨h, rfl⟩ := hw
    refine ⟨([modW g M m] : List va_W), ⟨(sh_5009 g M m), rfl, rfl⟩, ?_⟩
    refine y_goto (tgt := 29) C dX7_isInTime_20 rfl ?_
    refine y_aload_n C dX7_isInTime_29 1 rfl rfl ?_
    refine y_get (Cn := RX7) (T := TX7) (N := 26) (v := .ref (M 1)) C dX7_isInTime_30 hX7_isInTime_X7 0 (sh_5000 g M m) rfl 1 (Nat.le_of_ble_eq_true rfl) kX7_isInTime_2 rfl ?_
    refine y_iconst (v := 2) C dX7_isInTime_33 (by decide) ?_
    obtain ⟨hb8, h⟩ := h
    refine y_iald (N := 186) (f := (m.2 1)) C dX7_isInTime_34 1 (sh_5001 g M m) hb8 ?_
    refine y_iadd C dX7_isInTime_35 ?_
    refine y_istore (lv' := [(4, .int (r7 + ((m.2 1) (2 : Int32).toNatClampNeg))), (3, .int r1), (0, .ref (M 0)), (1, .int ri), (2, .int ti)]) C dX7_isInTime_36 (Nat.le_of_ble_eq_true rfl) rfl ?_
    refine y_iload_n C dX7_isInTime_38 4 rfl rfl ?_
    refine y_aload_n C dX7_isInTime_39 2 rfl rfl ?_
    refine y_iload_n C dX7_isInTime_40 3 rfl rfl ?_
    refine y_iconst (v := 3) C dX7_isInTime_41 (by decide) ?_
    refine y_callV (As := [.int ri, .int (3 : Int32)]) (rest := [.int ti]) C dX7_isInTime_42 (u_X7_of g M m ri (3 : Int32) h) rfl rfl rfl rfl ⟨Nat.le_of_ble_eq_true rfl, Nat.le_of_ble_eq_true rfl⟩ gX7_isInTime_X7_of (nA := 2) (by decide +kernel) rfl (sh_5010 g M m) (Nat.le_of_ble_eq_true rfl) ⟨Nat.le_of_ble_eq_true rfl, Nat.le_of_ble_eq_true rfl⟩ [0] [] (nB := 1) rfl (by decide +kernel) (sh_5009 g M m) (fun r9 w9 hw => ?_)
    obtain ⟨h, rfl⟩ := hw
    refine ⟨([modW g M m] : List va_W), ⟨(sh_5009 g M m), rfl, rfl⟩, ?_⟩
    refine y_icmp_gt (tgt := 71) C dX7_isInTime_45 rfl h (fun c45 h => ?_) (fun c45 h => ?_)
    · refine y_iconst (v := 0) C dX7_isInTime_71 (by decide) ?_
      exact HR 72 dX7_isInTime_72 (0 : Int32) _ _ _ _ (rfl) (Nat.le_of_ble_eq_true rfl) (Nat.le_of_ble_eq_true rfl) (hK _  h)
    · refine y_iload_n C dX7_isInTime_48 4 rfl rfl ?_
      refine y_iload C dX7_isInTime_49 0 rfl ?_
      refine y_isub C dX7_isInTime_51 ?_
      refine y_aload_n C dX7_isInTime_52 2 rfl rfl ?_
      refine y_iload_n C dX7_isInTime_53 3 rfl rfl ?_
      refine y_callV (As := [.int ri]) (rest := [.int (ti - (r7 + ((m.2 1) (2 : Int32).toNatClampNeg)))]) C dX7_isInTime_54 (u_X7_straight g M m ri h) rfl rfl rfl rfl ⟨Nat.le_of_ble_eq_true rfl, Nat.le_of_ble_eq_true rfl⟩ gX7_isInTime_X7_straight (nA := 1) (by decide +kernel) rfl (sh_5010 g M m) (Nat.le_of_ble_eq_true rfl) ⟨Nat.le_of_ble_eq_true rfl, Nat.le_of_ble_eq_true rfl⟩ [0] [] (nB := 1) rfl (by decide +kernel) (sh_5009 g M m) (fun r10 w9 hw => ?_)
      obtain ⟨h, rfl⟩ := hw
      refine ⟨([modW g M m] : List va_W), ⟨(sh_5009 g M m), rfl, rfl⟩, ?_⟩
      refine y_aload_n C dX7_isInTime_57 2 rfl rfl ?_
      refine y_get (Cn := RX7) (T := TX7) (N := 26) (v := .ref (M 1)) C dX7_isInTime_58 hX7_isInTime_X7 0 (sh_5000 g M m) rfl 1 (Nat.le_of_ble_eq_true rfl) kX7_isInTime_2 rfl ?_
      refine y_iconst (v := 1) C dX7_isInTime_61 (by decide) ?_
      obtain ⟨hb11, h⟩ := h
      refine y_iald (N := 186) (f := (m.2 1)) C dX7_isInTime_62 1 (sh_5001 g M m) hb11 ?_
      refine y_iadd C dX7_isInTime_63 ?_
      refine y_icmp_gt (tgt := 71) C dX7_isInTime_64 rfl h (fun c64 h => ?_) (fun c64 h => ?_)
      · refine y_iconst (v := 0) C dX7_isInTime_71 (by decide) ?_
        exact HR 72 dX7_isInTime_72 (0 : Int32) _ _ _ _ (rfl) (Nat.le_of_ble_eq_true rfl) (Nat.le_of_ble_eq_true rfl) (hK _  h)
      · refine y_iconst (v := 1) C dX7_isInTime_67 (by decide) ?_
        refine y_goto (tgt := 72) C dX7_isInTime_68 rfl ?_
        exact HR 72 dX7_isInTime_72 (1 : Int32) _ _ _ _ (rfl) (Nat.le_of_ble_eq_true rfl) (Nat.le_of_ble_eq_true rfl) (hK _  h)
theorem u_X7_isInTime (g : yG) (M : Nat → Nat) (m : MV) (ri : Int32) (ti : Int32) {K : Int32 → Prop} (hPO : PO_X7_isInTime m ri ti K  ) : yM g yX7_isInTime wsX7_isInTime ({ frames := 3, cells := 0, slots := 0, locals := 64 } : Room) [.ref (M 0), .int ri, .int ti] ([modW g M m] : List va_W) (fun r w => K r ∧ w = ([modW g M m] : List va_W)) 0 0 :=
  t_X7_isInTime g M m ri ti (fun r0 hk => ⟨hk, rfl⟩) hPO
