theorem dX7_timeOf_0 : decode cX7_timeOf 0 = .ok (.aload_n 0, 1) := by decide +kernel
theorem dX7_timeOf_1 : decode cX7_timeOf 1 = .ok (.invokevirtual 164, 3) := by decide +kernel
theorem dX7_timeOf_4 : decode cX7_timeOf 4 = .ok (.aload_n 0, 1) := by decide +kernel
theorem dX7_timeOf_5 : decode cX7_timeOf 5 = .ok (.iconst 2, 1) := by decide +kernel
theorem dX7_timeOf_6 : decode cX7_timeOf 6 = .ok (.iload_n 1, 1) := by decide +kernel
theorem dX7_timeOf_7 : decode cX7_timeOf 7 = .ok (.imul, 1) := by decide +kernel
theorem dX7_timeOf_8 : decode cX7_timeOf 8 = .ok (.iload_n 2, 1) := by decide +kernel
theorem dX7_timeOf_9 : decode cX7_timeOf 9 = .ok (.ifCond .eq 7, 3) := by decide +kernel
theorem dX7_timeOf_12 : decode cX7_timeOf 12 = .ok (.iconst 1, 1) := by decide +kernel
theorem dX7_timeOf_13 : decode cX7_timeOf 13 = .ok (.goto 4, 3) := by decide +kernel
theorem dX7_timeOf_16 : decode cX7_timeOf 16 = .ok (.iconst 0, 1) := by decide +kernel
theorem dX7_timeOf_17 : decode cX7_timeOf 17 = .ok (.iadd, 1) := by decide +kernel
theorem dX7_timeOf_18 : decode cX7_timeOf 18 = .ok (.invokevirtual 90, 3) := by decide +kernel
theorem dX7_timeOf_21 : decode cX7_timeOf 21 = .ok (.istore_n 3, 1) := by decide +kernel
theorem dX7_timeOf_22 : decode cX7_timeOf 22 = .ok (.iload_n 3, 1) := by decide +kernel
theorem dX7_timeOf_23 : decode cX7_timeOf 23 = .ok (.bipush (-6), 2) := by decide +kernel
theorem dX7_timeOf_25 : decode cX7_timeOf 25 = .ok (.if_icmp .eq 12, 3) := by decide +kernel
theorem dX7_timeOf_28 : decode cX7_timeOf 28 = .ok (.aload_n 0, 1) := by decide +kernel
theorem dX7_timeOf_29 : decode cX7_timeOf 29 = .ok (.getfield 32, 3) := by decide +kernel
theorem dX7_timeOf_32 : decode cX7_timeOf 32 = .ok (.iload_n 3, 1) := by decide +kernel
theorem dX7_timeOf_33 : decode cX7_timeOf 33 = .ok (.iaload, 1) := by decide +kernel
theorem dX7_timeOf_34 : decode cX7_timeOf 34 = .ok (.goto 18, 3) := by decide +kernel
theorem dX7_timeOf_37 : decode cX7_timeOf 37 = .ok (.aload_n 0, 1) := by decide +kernel
theorem dX7_timeOf_38 : decode cX7_timeOf 38 = .ok (.iload_n 1, 1) := by decide +kernel
theorem dX7_timeOf_39 : decode cX7_timeOf 39 = .ok (.iload_n 2, 1) := by decide +kernel
theorem dX7_timeOf_40 : decode cX7_timeOf 40 = .ok (.ifCond .eq 8, 3) := by decide +kernel
theorem dX7_timeOf_43 : decode cX7_timeOf 43 = .ok (.bipush 6, 2) := by decide +kernel
theorem dX7_timeOf_45 : decode cX7_timeOf 45 = .ok (.goto 4, 3) := by decide +kernel
theorem dX7_timeOf_48 : decode cX7_timeOf 48 = .ok (.iconst 5, 1) := by decide +kernel
theorem dX7_timeOf_49 : decode cX7_timeOf 49 = .ok (.invokevirtual 59, 3) := by decide +kernel
theorem dX7_timeOf_52 : decode cX7_timeOf 52 = .ok (.ireturn, 1) := by decide +kernel
set_option maxRecDepth 20000 in
theorem ggX7_timeOf_X7_drivesRoute : GoodIn wsX7_timeOf wsX7_drivesRoute := goodIn_r _ [6, 7, 8, 9, 10, 5, 11, 12, 13, 14, 15, 16, 17, 18, 19, 20, 1, 21, 22, 23, 24, 25, 26, 27, 28, 29, 30, 31, 32, 33, 34, 35, 36, 37, 38, 39, 40, 41, 42, 43, 44, 45, 46, 47, 48, 49, 50, 51, 52, 53, 54, 55, 56, 57, 58, 59, 60, 61, 62, 63, 64, 65, 66, 67, 68, 69, 70, 71, 72, 73, 74, 75, 76, 77, 78, 79] (by decide +kernel) (by decide +kernel)
set_option maxRecDepth 20000 in
theorem gX7_timeOf_X7_drivesRoute : GoodIn wsX7_timeOf (wsV RX7 164 RX7 yX7_drivesRoute wsX7_drivesRoute) := goodIn_app (goodIn_of _ (by decide +kernel)) ggX7_timeOf_X7_drivesRoute
set_option maxRecDepth 20000 in
theorem ggX7_timeOf_X7_placeOf : GoodIn wsX7_timeOf wsX7_placeOf := goodIn_r _ [49, 12, 13, 54, 55, 56, 57, 58, 59, 60, 61, 62, 63, 64, 65, 66, 67, 68, 69, 70, 71, 72, 73, 74, 75, 76, 77, 78, 79] (by decide +kernel) (by decide +kernel)
set_option maxRecDepth 20000 in
theorem gX7_timeOf_X7_placeOf : GoodIn wsX7_timeOf (wsV RX7 90 RX7 yX7_placeOf wsX7_placeOf) := goodIn_app (goodIn_of _ (by decide +kernel)) ggX7_timeOf_X7_placeOf
set_option maxRecDepth 20000 in
theorem ggX7_timeOf_X7_of : GoodIn wsX7_timeOf wsX7_of := goodIn_r _ [30, 7, 54, 55, 56, 57, 58, 59, 60, 61, 62, 63, 64, 65, 66, 67, 68, 69, 70, 71, 72, 73, 74, 75, 76, 77, 78, 79] (by decide +kernel) (by decide +kernel)
set_option maxRecDepth 20000 in
theorem gX7_timeOf_X7_of : GoodIn wsX7_timeOf (wsV RX7 59 RX7 yX7_of wsX7_of) := goodIn_app (goodIn_of _ (by decide +kernel)) ggX7_timeOf_X7_of
theorem kX7_timeOf_1 : Cond.fieldLink RX7 32 "BookedDetoursModel" "times" "[I" ∈ wsX7_timeOf := List.mem_of_getElem? (i := 1) (by decide +kernel)
theorem hX7_timeOf_X7 : ∀ w ∈ u_ws RX7 TX7 26, w ∈ wsX7_timeOf := fun _ h => List.mem_cons_of_mem _ (List.mem_append_right _ h)
set_option maxHeartbeats 4000000 in
set_option maxRecDepth 100000 in
theorem t_X7_timeOf (g : yG) (M : Nat → Nat) (m : MV) (ri : Int32) (sets : Int32) {post : Int32 → List va_W → Prop} {K : Int32 → MV → Prop} (hK : ∀ (r0 : Int32) (m : MV), K r0 m → post r0 ([modW g M m] : List va_W)) (hPO : PO_X7_timeOf ri sets K m ) : yM g yX7_timeOf wsX7_timeOf ({ frames := 6, cells := 0, slots := 0, locals := 135 } : Room) [.ref (M 0), .int ri, .int sets] ([modW g M m] : List va_W) post 0 0 := by
  refine y_entryI (cc := cX7_timeOf) (maxL := 4) (by decide +kernel) rfl (Nat.le_of_ble_eq_true rfl) (fun Z C HR => ?_)
  have C : yC Z g cX7_timeOf 4 wsX7_timeOf RX7 := C
  have h := hPO
  unfold PO_X7_timeOf wp_X7_timeOf_0 at h
  show yJ Z _ 0 0 _ 0 [(0, .ref (M 0)), (1, .int ri), (2, .int sets)] []
  refine y_aload_n C dX7_timeOf_0 0 rfl rfl ?_
  refine y_callVv (As := []) (rest := []) C dX7_timeOf_1 (u_X7_drivesRoute g M m h) rfl rfl rfl rfl ⟨Nat.le_of_ble_eq_true rfl, Nat.le_of_ble_eq_true rfl⟩ gX7_timeOf_X7_drivesRoute (nA := 0) (by decide +kernel) rfl (sh_5010 g M m) (Nat.le_of_ble_eq_true rfl) ⟨Nat.le_of_ble_eq_true rfl, Nat.le_of_ble_eq_true rfl⟩ [0] [] (nB := 1) rfl (by decide +kernel) (sh_5009 g M m) (fun w9 hw => ?_)
  obtain ⟨m1, h, rfl⟩ := hw
  refine ⟨([modW g M m1] : List va_W), (sh_5023 g M m m1), ?_⟩
  refine y_aload_n C dX7_timeOf_4 0 rfl rfl ?_
  refine y_iconst (v := 2) C dX7_timeOf_5 (by decide) ?_
  refine y_iload_n C dX7_timeOf_6 1 rfl rfl ?_
  refine y_imul C dX7_timeOf_7 ?_
  refine y_iload_n C dX7_timeOf_8 2 rfl rfl ?_
  refine y_if_eq (tgt := 16) C dX7_timeOf_9 rfl h (fun c9 h => ?_) (fun c9 h => ?_)
  · refine y_iconst (v := 0) C dX7_timeOf_16 (by decide) ?_
    refine y_iadd C dX7_timeOf_17 ?_
    refine y_callV (As := [.int (((2 : Int32) * ri) + (0 : Int32))]) (rest := []) C dX7_timeOf_18 (u_X7_placeOf g M m1 (((2 : Int32) * ri) + (0 : Int32)) h) rfl rfl rfl rfl ⟨Nat.le_of_ble_eq_true rfl, Nat.le_of_ble_eq_true rfl⟩ gX7_timeOf_X7_placeOf (nA := 1) (by decide +kernel) rfl (sh_5010 g M m1) (Nat.le_of_ble_eq_true rfl) ⟨Nat.le_of_ble_eq_true rfl, Nat.le_of_ble_eq_true rfl⟩ [0] [] (nB := 1) rfl (by decide +kernel) (sh_5009 g M m1) (fun r3 w9 hw => ?_)
    obtain ⟨h, rfl⟩ := hw
    refine ⟨([modW g M m1] : List va_W), ⟨(sh_5009 g M m1), rfl, rfl⟩, ?_⟩
    refine y_istore_n (lv' := [(3, .int r3), (0, .ref (M 0)), (1, .int ri), (2, .int sets)]) C dX7_timeOf_21 rfl (Nat.le_of_ble_eq_true rfl) rfl ?_
    refine y_iload_n C dX7_timeOf_22 0 rfl rfl ?_
    refine y_bipush (v := -6) C dX7_timeOf_23 (by decide) ?_
    refine y_icmp_eq (tgt := 37) C dX7_timeOf_25 rfl h (fun c25 h => ?_) (fun c25 h => ?_)
    · refine y_aload_n C dX7_timeOf_37 1 rfl rfl ?_
      refine y_iload_n C dX7_timeOf_38 2 rfl rfl ?_
      refine y_iload_n C dX7_timeOf_39 3 rfl rfl ?_
      refine y_if_eq (tgt := 48) C dX7_timeOf_40 rfl (y_same (c := sets = 0) h) (fun c40 h => ?_) (fun c40 h => ?_)
      · refine y_iconst (v := 5) C dX7_timeOf_48 (by decide) ?_
        refine y_callV (As := [.int ri, .int (5 : Int32)]) (rest := []) C dX7_timeOf_49 (u_X7_of g M m1 ri (5 : Int32) h) rfl rfl rfl rfl ⟨Nat.le_of_ble_eq_true rfl, Nat.le_of_ble_eq_true rfl⟩ gX7_timeOf_X7_of (nA := 2) (by decide +kernel) rfl (sh_5010 g M m1) (Nat.le_of_ble_eq_true rfl) ⟨Nat.le_of_ble_eq_true rfl, Nat.le_of_ble_eq_true rfl⟩ [0] [] (nB := 1) rfl (by decide +kernel) (sh_5009 g M m1) (fun r4 w9 hw => ?_)
        obtain ⟨h, rfl⟩ := hw
        refine ⟨([modW g M m1] : List va_W), ⟨(sh_5009 g M m1), rfl, rfl⟩, ?_⟩
        exact HR 52 dX7_timeOf_52 r4 _ _ _ _ (rfl) (Nat.le_of_ble_eq_true rfl) (Nat.le_of_ble_eq_true rfl) (hK _ _  h)
      · exact absurd c9 c40
    · refine y_aload_n C dX7_timeOf_28 1 rfl rfl ?_
      refine y_get (Cn := RX7) (T := TX7) (N := 26) (v := .ref (M 8)) C dX7_timeOf_29 hX7_timeOf_X7 0 (sh_5000 g M m1) rfl 11 (Nat.le_of_ble_eq_true rfl) kX7_timeOf_1 rfl ?_
      refine y_iload_n C dX7_timeOf_32 0 rfl rfl ?_
      obtain ⟨hb5, h⟩ := h
      refine y_iald (N := 36) (f := (m1.2 11)) C dX7_timeOf_33 8 (sh_5012 g M m1) hb5 ?_
      refine y_goto (tgt := 52) C dX7_timeOf_34 rfl ?_
      exact HR 52 dX7_timeOf_52 ((m1.2 11) r3.toNatClampNeg) _ _ _ _ (rfl) (Nat.le_of_ble_eq_true rfl) (Nat.le_of_ble_eq_true rfl) (hK _ _  h)
  · refine y_iconst (v := 1) C dX7_timeOf_12 (by decide) ?_
    refine y_goto (tgt := 17) C dX7_timeOf_13 rfl ?_
    refine y_iadd C dX7_timeOf_17 ?_
    refine y_callV (As := [.int (((2 : Int32) * ri) + (1 : Int32))]) (rest := []) C dX7_timeOf_18 (u_X7_placeOf g M m1 (((2 : Int32) * ri) + (1 : Int32)) h) rfl rfl rfl rfl ⟨Nat.le_of_ble_eq_true rfl, Nat.le_of_ble_eq_true rfl⟩ gX7_timeOf_X7_placeOf (nA := 1) (by decide +kernel) rfl (sh_5010 g M m1) (Nat.le_of_ble_eq_true rfl) ⟨Nat.le_of_ble_eq_true rfl, Nat.le_of_ble_eq_true rfl⟩ [0] [] (nB := 1) rfl (by decide +kernel) (sh_5009 g M m1) (fun r6 w9 hw => ?_)
    obtain ⟨h, rfl⟩ := hw
    refine ⟨([modW g M m1] : List va_W), ⟨(sh_5009 g M m1), rfl, rfl⟩, ?_⟩
    refine y_istore_n (lv' := [(3, .int r6), (0, .ref (M 0)), (1, .int ri), (2, .int sets)]) C dX7_timeOf_21 rfl (Nat.le_of_ble_eq_true rfl) rfl ?_
    refine y_iload_n C dX7_timeOf_22 0 rfl rfl ?_
    refine y_bipush (v := -6) C dX7_timeOf_23 (by decide) ?_
    refine y_icmp_eq (tgt := 37) C dX7_timeOf_25 rfl h (fun c25 h => ?_) (fun c25 h => ?_)
    · refine y_aload_n C dX7_timeOf_37 1 rfl rfl ?_
      refine y_iload_n C dX7_timeOf_38 2 rfl rfl ?_
      refine y_iload_n C dX7_timeOf_39 3 rfl rfl ?_
      refine y_if_eq (tgt := 48) C dX7_timeOf_40 rfl (y_same (c := sets = 0) h) (fun c40 h => ?_) (fun c40 h => ?_)
      · exact absurd c40 c9
      · refine y_bipush (v := 6) C dX7_timeOf_43 (by decide) ?_
        refine y_goto (tgt := 49) C dX7_timeOf_45 rfl ?_
        refine y_callV (As := [.int ri, .int (6 : Int32)]) (rest := []) C dX7_timeOf_49 (u_X7_of g M m1 ri (6 : Int32) h) rfl rfl rfl rfl ⟨Nat.le_of_ble_eq_true rfl, Nat.le_of_ble_eq_true rfl⟩ gX7_timeOf_X7_of (nA := 2) (by decide +kernel) rfl (sh_5010 g M m1) (Nat.le_of_ble_eq_true rfl) ⟨Nat.le_of_ble_eq_true rfl, Nat.le_of_ble_eq_true rfl⟩ [0] [] (nB := 1) rfl (by decide +kernel) (sh_5009 g M m1) (fun r7 w9 hw => ?_)
        obtain ⟨h, rfl⟩ := hw
        refine ⟨([modW g M m1] : List va_W), ⟨(sh_5009 g M m1), rfl, rfl⟩, ?_⟩
        exact HR 52 dX7_timeOf_52 r7 _ _ _ _ (rfl) (Nat.le_of_ble_eq_true rfl) (Nat.le_of_ble_eq_true rfl) (hK _ _  h)
    · refine y_aload_n C dX7_timeOf_28 1 rfl rfl ?_
      refine y_get (Cn := RX7) (T := TX7) (N := 26) (v := .ref (M 8)) C dX7_timeOf_29 hX7_timeOf_X7 0 (sh_5000 g M m1) rfl 11 (Nat.le_of_ble_eq_true rfl) kX7_timeOf_1 rfl ?_
      refine y_iload_n C dX7_timeOf_32 0 rfl rfl ?_
      obtain ⟨hb8, h⟩ := h
      refine y_iald (N := 36) (f := (m1.2 11)) C dX7_timeOf_33 8 (sh_5012 g M m1) hb8 ?_
      refine y_goto (tgt := 52) C dX7_timeOf_34 rfl ?_
      exact HR 52 dX7_timeOf_52 ((m1.2 11) r6.toNatClampNeg) _ _ _ _ (rfl) (Nat.le_of_ble_eq_true rfl) (Nat.le_of_ble_eq_true rfl) (hK _ _  h)
theorem u_X7_timeOf (g : yG) (M : Nat → Nat) (m : MV) (ri : Int32) (sets : Int32) {K : Int32 → MV → Prop} (hPO : PO_X7_timeOf ri sets K m ) : yM g yX7_timeOf wsX7_timeOf ({ frames := 6, cells := 0, slots := 0, locals := 135 } : Room) [.ref (M 0), .int ri, .int sets] ([modW g M m] : List va_W) (fun r w => ∃ m' : MV, K r m' ∧ w = ([modW g M m'] : List va_W)) 0 0 :=
  t_X7_timeOf g M m ri sets (fun r0 m hk => ⟨m, hk, rfl⟩) hPO
theorem dX7_ride_0 : decode cX7_ride 0 = .ok (.aload_n 0, 1) := by decide +kernel
theorem dX7_ride_1 : decode cX7_ride 1 = .ok (.iconst 0, 1) := by decide +kernel
theorem dX7_ride_2 : decode cX7_ride 2 = .ok (.putfield 44, 3) := by decide +kernel
theorem dX7_ride_5 : decode cX7_ride 5 = .ok (.aload_n 0, 1) := by decide +kernel
theorem dX7_ride_6 : decode cX7_ride 6 = .ok (.iload_n 1, 1) := by decide +kernel
theorem dX7_ride_7 : decode cX7_ride 7 = .ok (.invokevirtual 158, 3) := by decide +kernel
theorem dX7_ride_10 : decode cX7_ride 10 = .ok (.ifCond .ne 5, 3) := by decide +kernel
theorem dX7_ride_13 : decode cX7_ride 13 = .ok (.iconst (-1), 1) := by decide +kernel
theorem dX7_ride_14 : decode cX7_ride 14 = .ok (.ireturn, 1) := by decide +kernel
theorem dX7_ride_15 : decode cX7_ride 15 = .ok (.iload_n 2, 1) := by decide +kernel
theorem dX7_ride_16 : decode cX7_ride 16 = .ok (.tableswitch 48 5 7 #[28, 35, 42], 28) := by decide +kernel
theorem dX7_ride_44 : decode cX7_ride 44 = .ok (.aload_n 0, 1) := by decide +kernel
theorem dX7_ride_45 : decode cX7_ride 45 = .ok (.iload_n 1, 1) := by decide +kernel
theorem dX7_ride_46 : decode cX7_ride 46 = .ok (.iconst 0, 1) := by decide +kernel
theorem dX7_ride_47 : decode cX7_ride 47 = .ok (.invokevirtual 199, 3) := by decide +kernel
theorem dX7_ride_50 : decode cX7_ride 50 = .ok (.ireturn, 1) := by decide +kernel
theorem dX7_ride_51 : decode cX7_ride 51 = .ok (.aload_n 0, 1) := by decide +kernel
theorem dX7_ride_52 : decode cX7_ride 52 = .ok (.iload_n 1, 1) := by decide +kernel
theorem dX7_ride_53 : decode cX7_ride 53 = .ok (.iconst 1, 1) := by decide +kernel
theorem dX7_ride_54 : decode cX7_ride 54 = .ok (.invokevirtual 199, 3) := by decide +kernel
theorem dX7_ride_57 : decode cX7_ride 57 = .ok (.ireturn, 1) := by decide +kernel
theorem dX7_ride_58 : decode cX7_ride 58 = .ok (.aload_n 0, 1) := by decide +kernel
theorem dX7_ride_59 : decode cX7_ride 59 = .ok (.iload_n 1, 1) := by decide +kernel
theorem dX7_ride_60 : decode cX7_ride 60 = .ok (.invokevirtual 93, 3) := by decide +kernel
theorem dX7_ride_63 : decode cX7_ride 63 = .ok (.ireturn, 1) := by decide +kernel
theorem dX7_ride_64 : decode cX7_ride 64 = .ok (.iload_n 2, 1) := by decide +kernel
theorem dX7_ride_65 : decode cX7_ride 65 = .ok (.iconst 0, 1) := by decide +kernel
theorem dX7_ride_66 : decode cX7_ride 66 = .ok (.iconst 4, 1) := by decide +kernel
theorem dX7_ride_67 : decode cX7_ride 67 = .ok (.invokestatic 48, 3) := by decide +kernel
theorem dX7_ride_70 : decode cX7_ride 70 = .ok (.ifCond .eq 12, 3) := by decide +kernel
theorem dX7_ride_73 : decode cX7_ride 73 = .ok (.aload_n 0, 1) := by decide +kernel
theorem dX7_ride_74 : decode cX7_ride 74 = .ok (.iload_n 1, 1) := by decide +kernel
theorem dX7_ride_75 : decode cX7_ride 75 = .ok (.iload_n 2, 1) := by decide +kernel
theorem dX7_ride_76 : decode cX7_ride 76 = .ok (.invokevirtual 59, 3) := by decide +kernel
theorem dX7_ride_79 : decode cX7_ride 79 = .ok (.goto 5, 3) := by decide +kernel
theorem dX7_ride_82 : decode cX7_ride 82 = .ok (.bipush (-2), 2) := by decide +kernel
theorem dX7_ride_84 : decode cX7_ride 84 = .ok (.ireturn, 1) := by decide +kernel
set_option maxRecDepth 20000 in
theorem ggX7_ride_X7_isRide : GoodIn wsX7_ride wsX7_isRide := goodIn_r _ [6, 7, 8, 9, 5, 10, 66, 67, 68, 69, 70, 71, 72, 73, 74, 75, 76, 77, 78, 79, 80, 81, 82, 83, 84, 85, 86, 87, 88, 89, 90, 91] (by decide +kernel) (by decide +kernel)
set_option maxRecDepth 20000 in
theorem gX7_ride_X7_isRide : GoodIn wsX7_ride (wsV RX7 158 RX7 yX7_isRide wsX7_isRide) := goodIn_app (goodIn_of _ (by decide +kernel)) ggX7_ride_X7_isRide
set_option maxRecDepth 20000 in
theorem ggX7_ride_X7_timeOf : GoodIn wsX7_ride wsX7_timeOf := goodIn_r _ [14, 15, 16, 17, 18, 5, 19, 7, 20, 21, 22, 23, 24, 25, 26, 27, 28, 29, 30, 31, 32, 33, 34, 35, 36, 37, 38, 39, 40, 41, 42, 43, 44, 45, 46, 47, 48, 49, 50, 51, 52, 53, 54, 55, 56, 57, 58, 59, 60, 61, 62, 63, 64, 65, 66, 67, 68, 69, 70, 71, 72, 73, 74, 75, 76, 77, 78, 79, 80, 81, 82, 83, 84, 85, 86, 87, 88, 89, 90, 91] (by decide +kernel) (by decide +kernel)
set_option maxRecDepth 20000 in
theorem gX7_ride_X7_timeOf : GoodIn wsX7_ride (wsV RX7 199 RX7 yX7_timeOf wsX7_timeOf) := goodIn_app (goodIn_of _ (by decide +kernel)) ggX7_ride_X7_timeOf
set_option maxRecDepth 20000 in
theorem ggX7_ride_X7_straight : GoodIn wsX7_ride wsX7_straight := goodIn_r _ [65, 39, 40, 41, 5, 42, 7, 47, 48, 49, 50, 51, 52, 53, 66, 67, 68, 69, 70, 71, 72, 73, 74, 75, 76, 77, 78, 79, 80, 81, 82, 83, 84, 85, 86, 87, 88, 89, 90, 91] (by decide +kernel) (by decide +kernel)
set_option maxRecDepth 20000 in
theorem gX7_ride_X7_straight : GoodIn wsX7_ride (wsV RX7 93 RX7 yX7_straight wsX7_straight) := goodIn_app (goodIn_of _ (by decide +kernel)) ggX7_ride_X7_straight
set_option maxRecDepth 20000 in
theorem ggX7_ride_X7_in : GoodIn wsX7_ride wsX7_in := goodIn_r _ [10] (by decide +kernel) (by decide +kernel)
set_option maxRecDepth 20000 in
theorem gX7_ride_X7_in : GoodIn wsX7_ride (va_wsS RX7 48 yX7_in wsX7_in) := goodIn_app (goodIn_of _ (by decide +kernel)) ggX7_ride_X7_in
set_option maxRecDepth 20000 in
theorem ggX7_ride_X7_of : GoodIn wsX7_ride wsX7_of := goodIn_r _ [42, 7, 66, 67, 68, 69, 70, 71, 72, 73, 74, 75, 76, 77, 78, 79, 80, 81, 82, 83, 84, 85, 86, 87, 88, 89, 90, 91] (by decide +kernel) (by decide +kernel)
set_option maxRecDepth 20000 in
theorem gX7_ride_X7_of : GoodIn wsX7_ride (wsV RX7 59 RX7 yX7_of wsX7_of) := goodIn_app (goodIn_of _ (by decide +kernel)) ggX7_ride_X7_of
theorem kX7_ride_1 : Cond.fieldLink RX7 44 "BookedDetoursModel" "thrown" "I" ∈ wsX7_ride := List.mem_of_getElem? (i := 1) (by decide +kernel)
theorem hX7_ride_X7 : ∀ w ∈ u_ws RX7 TX7 26, w ∈ wsX7_ride := fun _ h => List.mem_cons_of_mem _ (List.mem_append_right _ h)
set_option maxHeartbeats 4000000 in
set_option maxRecDepth 100000 in
theorem t_X7_ride (g : yG) (M : Nat → Nat) (m : MV) (ri : Int32) (wh : Int32) {post : Int32 → List va_W → Prop} {K : Int32 → MV → Prop} (hK : ∀ (r0 : Int32) (m : MV), K r0 m → post r0 ([modW g M m] : List va_W)) (hPO : PO_X7_ride ri wh K m ) : yM g yX7_ride wsX7_ride ({ frames := 7, cells := 0, slots := 0, locals := 158 } : Room) [.ref (M 0), .int ri, .int wh] ([modW g M m] : List va_W) post 0 0 := by
  refine y_entryI (cc := cX7_ride) (maxL := 3) (by decide +kernel) rfl (Nat.le_of_ble_eq_true rfl) (fun Z C HR => ?_)
  have C : yC Z g cX7_ride 3 wsX7_ride RX7 := C
  have h := hPO
  unfold PO_X7_ride wp_X7_ride_0 at h
  show yJ Z _ 0 0 _ 0 [(0, .ref (M 0)), (1, .int ri), (2, .int wh)] []
  refine y_aload_n C dX7_ride_0 0 rfl rfl ?_
  refine y_iconst (v := 0) C dX7_ride_1 (by decide) ?_
  obtain ⟨m1, em1⟩ : ∃ z : MV, z = mI m 0 (0 : Int32) := ⟨_, rfl⟩
  have h := y_letP h em1
  refine y_put (Cn := RX7) (T := TX7) (N := 26) (v := .int (0 : Int32)) (ty0 := tyX7) (L1 := ([modW g M m1] : List va_W)) C dX7_ride_2 hX7_ride_X7 0 (sh_5000 g M m) rfl 0 (Nat.le_of_ble_eq_true rfl) kX7_ride_1 tyX7_ok nmX7 rfl rfl rfl (Nat.le_of_ble_eq_true rfl) (sh_5029 g M m (0 : Int32) m1 em1) ?_
  refine y_aload_n C dX7_ride_5 0 rfl rfl ?_
  refine y_iload_n C dX7_ride_6 1 rfl rfl ?_
  refine y_callV (As := [.int ri]) (rest := []) C dX7_ride_7 (u_X7_isRide g M m1 ri h) rfl rfl rfl rfl ⟨Nat.le_of_ble_eq_true rfl, Nat.le_of_ble_eq_true rfl⟩ gX7_ride_X7_isRide (nA := 1) (by decide +kernel) rfl (sh_5010 g M m1) (Nat.le_of_ble_eq_true rfl) ⟨Nat.le_of_ble_eq_true rfl, Nat.le_of_ble_eq_true rfl⟩ [0] [] (nB := 1) rfl (by decide +kernel) (sh_5009 g M m1) (fun r2 w9 hw => ?_)
  obtain ⟨h, rfl⟩ := hw
  refine ⟨([modW g M m1] : List va_W), ⟨(sh_5009 g M m1), rfl, rfl⟩, ?_⟩
  refine y_if_ne (tgt := 15) C dX7_ride_10 rfl h (fun c10 h => ?_) (fun c10 h => ?_)
  · refine y_iload_n C dX7_ride_15 2 rfl rfl ?_
    refine y_if h (fun c16_5 h => ?_) (fun c16_5 h => ?_)
    · refine y_tabIn (tgt := 44) C dX7_ride_16 c16_5 (by decide) (by decide) rfl rfl ?_
      refine y_aload_n C dX7_ride_44 0 rfl rfl ?_
      refine y_iload_n C dX7_ride_45 1 rfl rfl ?_
      refine y_iconst (v := 0) C dX7_ride_46 (by decide) ?_
      refine y_callV (As := [.int ri, .int (0 : Int32)]) (rest := []) C dX7_ride_47 (u_X7_timeOf g M m1 ri (0 : Int32) h) rfl rfl rfl rfl ⟨Nat.le_of_ble_eq_true rfl, Nat.le_of_ble_eq_true rfl⟩ gX7_ride_X7_timeOf (nA := 2) (by decide +kernel) rfl (sh_5010 g M m1) (Nat.le_of_ble_eq_true rfl) ⟨Nat.le_of_ble_eq_true rfl, Nat.le_of_ble_eq_true rfl⟩ [0] [] (nB := 1) rfl (by decide +kernel) (sh_5009 g M m1) (fun r5 w9 hw => ?_)
      obtain ⟨m3, h, rfl⟩ := hw
      refine ⟨([modW g M m3] : List va_W), (sh_5023 g M m1 m3), ?_⟩
      exact HR 50 dX7_ride_50 r5 _ _ _ _ (rfl) (Nat.le_of_ble_eq_true rfl) (Nat.le_of_ble_eq_true rfl) (hK _ _  h)
    refine y_if h (fun c16_6 h => ?_) (fun c16_6 h => ?_)
    · refine y_tabIn (tgt := 51) C dX7_ride_16 c16_6 (by decide) (by decide) rfl rfl ?_
      refine y_aload_n C dX7_ride_51 0 rfl rfl ?_
      refine y_iload_n C dX7_ride_52 1 rfl rfl ?_
      refine y_iconst (v := 1) C dX7_ride_53 (by decide) ?_
      refine y_callV (As := [.int ri, .int (1 : Int32)]) (rest := []) C dX7_ride_54 (u_X7_timeOf g M m1 ri (1 : Int32) h) rfl rfl rfl rfl ⟨Nat.le_of_ble_eq_true rfl, Nat.le_of_ble_eq_true rfl⟩ gX7_ride_X7_timeOf (nA := 2) (by decide +kernel) rfl (sh_5010 g M m1) (Nat.le_of_ble_eq_true rfl) ⟨Nat.le_of_ble_eq_true rfl, Nat.le_of_ble_eq_true rfl⟩ [0] [] (nB := 1) rfl (by decide +kernel) (sh_5009 g M m1) (fun r8 w9 hw => ?_)
      obtain ⟨m6, h, rfl⟩ := hw
      refine ⟨([modW g M m6] : List va_W), (sh_5023 g M m1 m6), ?_⟩
      exact HR 57 dX7_ride_57 r8 _ _ _ _ (rfl) (Nat.le_of_ble_eq_true rfl) (Nat.le_of_ble_eq_true rfl) (hK _ _  h)
    refine y_if h (fun c16_7 h => ?_) (fun c16_7 h => ?_)
    · refine y_tabIn (tgt := 58) C dX7_ride_16 c16_7 (by decide) (by decide) rfl rfl ?_
      refine y_aload_n C dX7_ride_58 0 rfl rfl ?_
      refine y_iload_n C dX7_ride_59 1 rfl rfl ?_
      refine y_callV (As := [.int ri]) (rest := []) C dX7_ride_60 (u_X7_straight g M m1 ri h) rfl rfl rfl rfl ⟨Nat.le_of_ble_eq_true rfl, Nat.le_of_ble_eq_true rfl⟩ gX7_ride_X7_straight (nA := 1) (by decide +kernel) rfl (sh_5010 g M m1) (Nat.le_of_ble_eq_true rfl) ⟨Nat.le_of_ble_eq_true rfl, Nat.le_of_ble_eq_true rfl⟩ [0] [] (nB := 1) rfl (by decide +kernel) (sh_5009 g M m1) (fun r9 w9 hw => ?_)
      obtain ⟨h, rfl⟩ := hw
      refine ⟨([modW g M m1] : List va_W), ⟨(sh_5009 g M m1), rfl, rfl⟩, ?_⟩
      exact HR 63 dX7_ride_63 r9 _ _ _ _ (rfl) (Nat.le_of_ble_eq_true rfl) (Nat.le_of_ble_eq_true rfl) (hK _ _  h)
    refine y_tabOut (tgt := 64) C dX7_ride_16 (by have q5 := lv_neT c16_5 (show (5 : Int32).toInt = 5 by decide); have q6 := lv_neT c16_6 (show (6 : Int32).toInt = 6 by decide); have q7 := lv_neT c16_7 (show (7 : Int32).toInt = 7 by decide); omega) rfl ?_
    refine y_iload_n C dX7_ride_64 2 rfl rfl ?_
    refine y_iconst (v := 0) C dX7_ride_65 (by decide) ?_
    refine y_iconst (v := 4) C dX7_ride_66 (by decide) ?_
    refine y_callS (As := [.int wh, .int (0 : Int32), .int (4 : Int32)]) (rest := []) C dX7_ride_67 (c_X7_in g wh (0 : Int32) (4 : Int32)) rfl rfl rfl rfl ⟨Nat.le_of_ble_eq_true rfl, Nat.le_of_ble_eq_true rfl⟩ gX7_ride_X7_in (nA := 3) (by decide +kernel) rfl (Nat.le_of_ble_eq_true rfl) ⟨Nat.le_of_ble_eq_true rfl, Nat.le_of_ble_eq_true rfl⟩ [] [0] (nB := 1) rfl (by decide +kernel) (sh_5002 g M m1) (fun r10 w9 hw => ?_)
    obtain ⟨er10, rfl⟩ := hw
    have h := y_letP h er10
    refine ⟨([modW g M m1] : List va_W), ⟨(sh_5002 g M m1), rfl, rfl⟩, ?_⟩
    refine y_if_eq (tgt := 82) C dX7_ride_70 rfl h (fun c70 h => ?_) (fun c70 h => ?_)
    · refine y_bipush (v := -2) C dX7_ride_82 (by decide) ?_
      exact HR 84 dX7_ride_84 (-2 : Int32) _ _ _ _ (rfl) (Nat.le_of_ble_eq_true rfl) (Nat.le_of_ble_eq_true rfl) (hK _ _  h)
    · refine y_aload_n C dX7_ride_73 0 rfl rfl ?_
      refine y_iload_n C dX7_ride_74 1 rfl rfl ?_
      refine y_iload_n C dX7_ride_75 2 rfl rfl ?_
      refine y_callV (As := [.int ri, .int wh]) (rest := []) C dX7_ride_76 (u_X7_of g M m1 ri wh h) rfl rfl rfl rfl ⟨Nat.le_of_ble_eq_true rfl, Nat.le_of_ble_eq_true rfl⟩ gX7_ride_X7_of (nA := 2) (by decide +kernel) rfl (sh_5010 g M m1) (Nat.le_of_ble_eq_true rfl) ⟨Nat.le_of_ble_eq_true rfl, Nat.le_of_ble_eq_true rfl⟩ [0] [] (nB := 1) rfl (by decide +kernel) (sh_5009 g M m1) (fun r11 w9 hw => ?_)
      obtain ⟨h, rfl⟩ := hw
      refine ⟨([modW g M m1] : List va_W), ⟨(sh_5009 g M m1), rfl, rfl⟩, ?_⟩
      refine y_goto (tgt := 84) C dX7_ride_79 rfl ?_
      exact HR 84 dX7_ride_84 r11 _ _ _ _ (rfl) (Nat.le_of_ble_eq_true rfl) (Nat.le_of_ble_eq_true rfl) (hK _ _  h)
  · refine y_iconst (v := -1) C dX7_ride_13 (by decide) ?_
    exact HR 14 dX7_ride_14 (-1 : Int32) _ _ _ _ (rfl) (Nat.le_of_ble_eq_true rfl) (Nat.le_of_ble_eq_true rfl) (hK _ _  h)
theorem u_X7_ride (g : yG) (M : Nat → Nat) (m : MV) (ri : Int32) (wh : Int32) {K : Int32 → MV → Prop} (hPO : PO_X7_ride ri wh K m ) : yM g yX7_ride wsX7_ride ({ frames := 7, cells := 0, slots := 0, locals := 158 } : Room) [.ref (M 0), .int ri, .int wh] ([modW g M m] : List va_W) (fun r w => ∃ m' : MV, K r m' ∧ w = ([modW g M m'] : List va_W)) 0 0 :=
  t_X7_ride g M m ri wh (fun r0 m hk => ⟨m, hk, rfl⟩) hPO
