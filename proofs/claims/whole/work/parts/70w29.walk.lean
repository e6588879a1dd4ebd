theorem dX7_earliestBy_0 : decode cX7_earliestBy 0 = .ok (.aload_n 0, 1) := by decide +kernel
theorem dX7_earliestBy_1 : decode cX7_earliestBy 1 = .ok (.iconst 0, 1) := by decide +kernel
theorem dX7_earliestBy_2 : decode cX7_earliestBy 2 = .ok (.putfield 44, 3) := by decide +kernel
theorem dX7_earliestBy_5 : decode cX7_earliestBy 5 = .ok (.aload_n 0, 1) := by decide +kernel
theorem dX7_earliestBy_6 : decode cX7_earliestBy 6 = .ok (.iload_n 1, 1) := by decide +kernel
theorem dX7_earliestBy_7 : decode cX7_earliestBy 7 = .ok (.iload_n 2, 1) := by decide +kernel
theorem dX7_earliestBy_8 : decode cX7_earliestBy 8 = .ok (.iload_n 3, 1) := by decide +kernel
theorem dX7_earliestBy_9 : decode cX7_earliestBy 9 = .ok (.iconst 0, 1) := by decide +kernel
theorem dX7_earliestBy_10 : decode cX7_earliestBy 10 = .ok (.invokevirtual 136, 3) := by decide +kernel
theorem dX7_earliestBy_13 : decode cX7_earliestBy 13 = .ok (.istore 4, 2) := by decide +kernel
theorem dX7_earliestBy_15 : decode cX7_earliestBy 15 = .ok (.iload 4, 2) := by decide +kernel
theorem dX7_earliestBy_17 : decode cX7_earliestBy 17 = .ok (.ifCond .eq 6, 3) := by decide +kernel
theorem dX7_earliestBy_20 : decode cX7_earliestBy 20 = .ok (.iload 4, 2) := by decide +kernel
theorem dX7_earliestBy_22 : decode cX7_earliestBy 22 = .ok (.ireturn, 1) := by decide +kernel
theorem dX7_earliestBy_23 : decode cX7_earliestBy 23 = .ok (.aload_n 0, 1) := by decide +kernel
theorem dX7_earliestBy_24 : decode cX7_earliestBy 24 = .ok (.aload_n 0, 1) := by decide +kernel
theorem dX7_earliestBy_25 : decode cX7_earliestBy 25 = .ok (.iload_n 1, 1) := by decide +kernel
theorem dX7_earliestBy_26 : decode cX7_earliestBy 26 = .ok (.iload_n 2, 1) := by decide +kernel
theorem dX7_earliestBy_27 : decode cX7_earliestBy 27 = .ok (.iload_n 3, 1) := by decide +kernel
theorem dX7_earliestBy_28 : decode cX7_earliestBy 28 = .ok (.sipush 900, 3) := by decide +kernel
theorem dX7_earliestBy_31 : decode cX7_earliestBy 31 = .ok (.invokevirtual 140, 3) := by decide +kernel
theorem dX7_earliestBy_34 : decode cX7_earliestBy 34 = .ok (.invokevirtual 143, 3) := by decide +kernel
theorem dX7_earliestBy_37 : decode cX7_earliestBy 37 = .ok (.ifCond .eq 10, 3) := by decide +kernel
theorem dX7_earliestBy_40 : decode cX7_earliestBy 40 = .ok (.aload_n 0, 1) := by decide +kernel
theorem dX7_earliestBy_41 : decode cX7_earliestBy 41 = .ok (.getfield 113, 3) := by decide +kernel
theorem dX7_earliestBy_44 : decode cX7_earliestBy 44 = .ok (.goto 5, 3) := by decide +kernel
theorem dX7_earliestBy_47 : decode cX7_earliestBy 47 = .ok (.bipush (-6), 2) := by decide +kernel
theorem dX7_earliestBy_49 : decode cX7_earliestBy 49 = .ok (.ireturn, 1) := by decide +kernel
set_option maxRecDepth 20000 in
theorem ggX7_earliestBy_X7_refuses : GoodIn wsX7_earliestBy wsX7_refuses := goodIn_r _ [7, 8, 9, 10, 6, 11, 12, 13, 14, 15, 87, 88, 89, 90, 91, 92, 93, 94, 95, 96, 97, 98, 99, 100, 101, 102, 103, 104, 105, 106, 107, 108, 109, 110, 111, 112] (by decide +kernel) (by decide +kernel)
set_option maxRecDepth 20000 in
theorem gX7_earliestBy_X7_refuses : GoodIn wsX7_earliestBy (wsV RX7 136 RX7 yX7_refuses wsX7_refuses) := goodIn_app (goodIn_of _ (by decide +kernel)) ggX7_earliestBy_X7_refuses
set_option maxRecDepth 20000 in
theorem ggX7_earliestBy_X7_laysRide : GoodIn wsX7_earliestBy wsX7_laysRide := goodIn_r _ [19, 12, 20, 21, 22, 6, 23, 87, 88, 89, 90, 91, 92, 93, 94, 95, 96, 97, 98, 99, 100, 101, 102, 103, 104, 105, 106, 107, 108, 109, 110, 111, 112] (by decide +kernel) (by decide +kernel)
set_option maxRecDepth 20000 in
theorem gX7_earliestBy_X7_laysRide : GoodIn wsX7_earliestBy (wsV RX7 140 RX7 yX7_laysRide wsX7_laysRide) := goodIn_app (goodIn_of _ (by decide +kernel)) ggX7_earliestBy_X7_laysRide
set_option maxRecDepth 20000 in
theorem ggX7_earliestBy_X7_findsWay : GoodIn wsX7_earliestBy wsX7_findsWay := goodIn_r _ [27, 28, 29, 2, 12, 30, 31, 32, 33, 34, 35, 36, 37, 6, 38, 39, 40, 41, 42, 43, 44, 45, 46, 47, 48, 49, 50, 51, 52, 53, 54, 55, 56, 57, 58, 59, 60, 61, 62, 63, 64, 65, 66, 67, 68, 69, 70, 71, 72, 73, 74, 75, 76, 77, 78, 79, 80, 81, 82, 83, 84, 85, 86, 87, 88, 89, 90, 91, 92, 93, 94, 95, 96, 97, 98, 99, 100, 101, 102, 103, 104, 105, 106, 107, 108, 109, 110, 111, 112] (by decide +kernel) (by decide +kernel)
set_option maxRecDepth 20000 in
theorem gX7_earliestBy_X7_findsWay : GoodIn wsX7_earliestBy (wsV RX7 143 RX7 yX7_findsWay wsX7_findsWay) := goodIn_app (goodIn_of _ (by decide +kernel)) ggX7_earliestBy_X7_findsWay
theorem kX7_earliestBy_1 : Cond.fieldLink RX7 44 "BookedDetoursModel" "thrown" "I" ∈ wsX7_earliestBy := List.mem_of_getElem? (i := 1) (by decide +kernel)
theorem kX7_earliestBy_2 : Cond.fieldLink RX7 113 "BookedDetoursModel" "leastDown" "I" ∈ wsX7_earliestBy := List.mem_of_getElem? (i := 2) (by decide +kernel)
theorem hX7_earliestBy_X7 : ∀ w ∈ u_ws RX7 TX7 26, w ∈ wsX7_earliestBy := fun _ h => List.mem_cons_of_mem _ (List.mem_append_right _ h)
set_option maxHeartbeats 4000000 in
set_option maxRecDepth 100000 in
theorem t_X7_earliestBy (g : yG) (M : Nat → Nat) (m : MV) (fr : Int32) (to : Int32) (wa : Int32) {post : Int32 → List va_W → Prop} {K : Int32 → MV → Prop} (hK : ∀ (r0 : Int32) (m : MV), K r0 m → post r0 ([modW g M m] : List va_W)) (hPO : PO_X7_earliestBy fr to wa K m ) : yM g yX7_earliestBy wsX7_earliestBy ({ frames := 6, cells := 0, slots := 0, locals := 139 } : Room) [.ref (M 0), .int fr, .int to, .int wa] ([modW g M m] : List va_W) post 0 0 := by
  refine y_entryI (cc := cX7_earliestBy) (maxL := 5) (by decide +kernel) rfl (Nat.le_of_ble_eq_true rfl) (fun Z C HR => ?_)
  have C : yC Z g cX7_earliestBy 5 wsX7_earliestBy RX7 := C
  have h := hPO
  unfold PO_X7_earliestBy wp_X7_earliestBy_0 at h
  show yJ Z _ 0 0 _ 0 [(0, .ref (M 0)), (1, .int fr), (2, .int to), (3, .int wa)] []
  refine y_aload_n C dX7_earliestBy_0 0 rfl rfl ?_
  refine y_iconst (v := 0) C dX7_earliestBy_1 (by decide) ?_
  obtain ⟨m1, em1⟩ : ∃ z : MV, z = mI m 0 (0 : Int32) := ⟨_, rfl⟩
  have h := y_letP h em1
  refine y_put (Cn := RX7) (T := TX7) (N := 26) (v := .int (0 : Int32)) (ty0 := tyX7) (L1 := ([modW g M m1] : List va_W)) C dX7_earliestBy_2 hX7_earliestBy_X7 0 (sh_5000 g M m) rfl 0 (Nat.le_of_ble_eq_true rfl) kX7_earliestBy_1 tyX7_ok nmX7 rfl rfl rfl (Nat.le_of_ble_eq_true rfl) (sh_5029 g M m (0 : Int32) m1 em1) ?_
  refine y_aload_n C dX7_earliestBy_5 0 rfl rfl ?_
  refine y_iload_n C dX7_earliestBy_6 1 rfl rfl ?_
  refine y_iload_n C dX7_earliestBy_7 2 rfl rfl ?_
  refine y_iload_n C dX7_earliestBy_8 3 rfl rfl ?_
  refine y_iconst (v := 0) C dX7_earliestBy_9 (by decide) ?_
  refine y_callV (As := [.int fr, .int to, .int wa, .int (0 : Int32)]) (rest := []) C dX7_earliestBy_10 (u_X7_refuses g M m1 fr to wa (0 : Int32) h) rfl rfl rfl rfl ⟨Nat.le_of_ble_eq_true rfl, Nat.le_of_ble_eq_true rfl⟩ gX7_earliestBy_X7_refuses (nA := 4) (by decide +kernel) rfl (sh_5010 g M m1) (Nat.le_of_ble_eq_true rfl) ⟨Nat.le_of_ble_eq_true rfl, Nat.le_of_ble_eq_true rfl⟩ [0] [] (nB := 1) rfl (by decide +kernel) (sh_5009 g M m1) (fun r2 w9 hw => ?_)
  obtain ⟨h, rfl⟩ := hw
  refine ⟨([modW g M m1] : List va_W), ⟨(sh_5009 g M m1), rfl, rfl⟩, ?_⟩
  refine y_istore (lv' := [(4, .int r2), (0, .ref (M 0)), (1, .int fr), (2, .int to), (3, .int wa)]) C dX7_earliestBy_13 (Nat.le_of_ble_eq_true rfl) rfl ?_
  refine y_iload C dX7_earliestBy_15 0 rfl ?_
  refine y_if_eq (tgt := 23) C dX7_earliestBy_17 rfl h (fun c17 h => ?_) (fun c17 h => ?_)
  · refine y_aload_n C dX7_earliestBy_23 1 rfl rfl ?_
    refine y_aload_n C dX7_earliestBy_24 1 rfl rfl ?_
    refine y_iload_n C dX7_earliestBy_25 2 rfl rfl ?_
    refine y_iload_n C dX7_earliestBy_26 3 rfl rfl ?_
    refine y_iload_n C dX7_earliestBy_27 4 rfl rfl ?_
    refine y_sipush (v := 900) C dX7_earliestBy_28 (by decide) ?_
    refine y_callV (As := [.int fr, .int to, .int wa, .int (900 : Int32)]) (rest := [.ref (M 0)]) C dX7_earliestBy_31 (u_X7_laysRide g M m1 fr to wa (900 : Int32) h) rfl rfl rfl rfl ⟨Nat.le_of_ble_eq_true rfl, Nat.le_of_ble_eq_true rfl⟩ gX7_earliestBy_X7_laysRide (nA := 4) (by decide +kernel) rfl (sh_5010 g M m1) (Nat.le_of_ble_eq_true rfl) ⟨Nat.le_of_ble_eq_true rfl, Nat.le_of_ble_eq_true rfl⟩ [0] [] (nB := 1) rfl (by decide +kernel) (sh_5009 g M m1) (fun r5 w9 hw => ?_)
    obtain ⟨m3, h, rfl⟩ := hw
    refine ⟨([modW g M m3] : List va_W), (sh_5023 g M m1 m3), ?_⟩
    refine y_callV (As := [.int r5]) (rest := []) C dX7_earliestBy_34 (u_X7_findsWay g M m3 r5 h) rfl rfl rfl rfl ⟨Nat.le_of_ble_eq_true rfl, Nat.le_of_ble_eq_true rfl⟩ gX7_earliestBy_X7_findsWay (nA := 1) (by decide +kernel) rfl (sh_5010 g M m3) (Nat.le_of_ble_eq_true rfl) ⟨Nat.le_of_ble_eq_true rfl, Nat.le_of_ble_eq_true rfl⟩ [0] [] (nB := 1) rfl (by decide +kernel) (sh_5009 g M m3) (fun r8 w9 hw => ?_)
    obtain ⟨m6, h, rfl⟩ := hw
    refine ⟨([modW g M m6] : List va_W), (sh_5023 g M m3 m6), ?_⟩
    refine y_if_eq (tgt := 47) C dX7_earliestBy_37 rfl h (fun c37 h => ?_) (fun c37 h => ?_)
    · refine y_bipush (v := -6) C dX7_earliestBy_47 (by decide) ?_
      exact HR 49 dX7_earliestBy_49 (-6 : Int32) _ _ _ _ (rfl) (Nat.le_of_ble_eq_true rfl) (Nat.le_of_ble_eq_true rfl) (hK _ _  h)
    · refine y_aload_n C dX7_earliestBy_40 1 rfl rfl ?_
      refine y_get (Cn := RX7) (T := TX7) (N := 26) (v := .int (m6.1 21)) C dX7_earliestBy_41 hX7_earliestBy_X7 0 (sh_5000 g M m6) rfl 21 (Nat.le_of_ble_eq_true rfl) kX7_earliestBy_2 rfl ?_
      refine y_goto (tgt := 49) C dX7_earliestBy_44 rfl ?_
      exact HR 49 dX7_earliestBy_49 (m6.1 21) _ _ _ _ (rfl) (Nat.le_of_ble_eq_true rfl) (Nat.le_of_ble_eq_true rfl) (hK _ _  h)
  · refine y_iload C dX7_earliestBy_20 0 rfl ?_
    exact HR 22 dX7_earliestBy_22 r2 _ _ _ _ (rfl) (Nat.le_of_ble_eq_true rfl) (Nat.le_of_ble_eq_true rfl) (hK _ _  h)
theorem u_X7_earliestBy (g : yG) (M : Nat → Nat) (m : MV) (fr : Int32) (to : Int32) (wa : Int32) {K : Int32 → MV → Prop} (hPO : PO_X7_earliestBy fr to wa K m ) : yM g yX7_earliestBy wsX7_earliestBy ({ frames := 6, cells := 0, slots := 0, locals := 139 } : Room) [.ref (M 0), .int fr, .int to, .int wa] ([modW g M m] : List va_W) (fun r w => ∃ m' : MV, K r m' ∧ w = ([modW g M m'] : List va_W)) 0 0 :=
  t_X7_earliestBy g M m fr to wa (fun r0 m hk => ⟨m, hk, rfl⟩) hPO
theorem dX7_spare_0 : decode cX7_spare 0 = .ok (.aload_n 0, 1) := by decide +kernel
theorem dX7_spare_1 : decode cX7_spare 1 = .ok (.iconst 0, 1) := by decide +kernel
theorem dX7_spare_2 : decode cX7_spare 2 = .ok (.putfield 44, 3) := by decide +kernel
theorem dX7_spare_5 : decode cX7_spare 5 = .ok (.aload_n 0, 1) := by decide +kernel
theorem dX7_spare_6 : decode cX7_spare 6 = .ok (.iload_n 1, 1) := by decide +kernel
theorem dX7_spare_7 : decode cX7_spare 7 = .ok (.invokevirtual 158, 3) := by decide +kernel
theorem dX7_spare_10 : decode cX7_spare 10 = .ok (.ifCond .ne 5, 3) := by decide +kernel
theorem dX7_spare_13 : decode cX7_spare 13 = .ok (.iconst (-1), 1) := by decide +kernel
theorem dX7_spare_14 : decode cX7_spare 14 = .ok (.ireturn, 1) := by decide +kernel
theorem dX7_spare_15 : decode cX7_spare 15 = .ok (.aload_n 0, 1) := by decide +kernel
theorem dX7_spare_16 : decode cX7_spare 16 = .ok (.iload_n 1, 1) := by decide +kernel
theorem dX7_spare_17 : decode cX7_spare 17 = .ok (.iconst 4, 1) := by decide +kernel
theorem dX7_spare_18 : decode cX7_spare 18 = .ok (.invokevirtual 59, 3) := by decide +kernel
theorem dX7_spare_21 : decode cX7_spare 21 = .ok (.ifCond .eq 16, 3) := by decide +kernel
theorem dX7_spare_24 : decode cX7_spare 24 = .ok (.aload_n 0, 1) := by decide +kernel
theorem dX7_spare_25 : decode cX7_spare 25 = .ok (.iload_n 1, 1) := by decide +kernel
theorem dX7_spare_26 : decode cX7_spare 26 = .ok (.iconst 4, 1) := by decide +kernel
theorem dX7_spare_27 : decode cX7_spare 27 = .ok (.invokevirtual 59, 3) := by decide +kernel
theorem dX7_spare_30 : decode cX7_spare 30 = .ok (.iconst 1, 1) := by decide +kernel
theorem dX7_spare_31 : decode cX7_spare 31 = .ok (.if_icmp .eq 6, 3) := by decide +kernel
theorem dX7_spare_34 : decode cX7_spare 34 = .ok (.bipush (-5), 2) := by decide +kernel
theorem dX7_spare_36 : decode cX7_spare 36 = .ok (.ireturn, 1) := by decide +kernel
theorem dX7_spare_37 : decode cX7_spare 37 = .ok (.aload_n 0, 1) := by decide +kernel
theorem dX7_spare_38 : decode cX7_spare 38 = .ok (.iload_n 1, 1) := by decide +kernel
theorem dX7_spare_39 : decode cX7_spare 39 = .ok (.iconst 3, 1) := by decide +kernel
theorem dX7_spare_40 : decode cX7_spare 40 = .ok (.invokevirtual 59, 3) := by decide +kernel
theorem dX7_spare_43 : decode cX7_spare 43 = .ok (.aload_n 0, 1) := by decide +kernel
theorem dX7_spare_44 : decode cX7_spare 44 = .ok (.iload_n 1, 1) := by decide +kernel
theorem dX7_spare_45 : decode cX7_spare 45 = .ok (.iconst 1, 1) := by decide +kernel
theorem dX7_spare_46 : decode cX7_spare 46 = .ok (.invokevirtual 199, 3) := by decide +kernel
theorem dX7_spare_49 : decode cX7_spare 49 = .ok (.isub, 1) := by decide +kernel
theorem dX7_spare_50 : decode cX7_spare 50 = .ok (.ireturn, 1) := by decide +kernel
set_option maxRecDepth 20000 in
theorem ggX7_spare_X7_isRide : GoodIn wsX7_spare wsX7_isRide := goodIn_r _ [6, 7, 8, 9, 5, 10, 66, 67, 68, 69, 70, 71, 72, 73, 74, 75, 76, 77, 78, 79, 80, 81, 82, 83, 84, 85, 86, 87, 88, 89, 90, 91] (by decide +kernel) (by decide +kernel)
set_option maxRecDepth 20000 in
theorem gX7_spare_X7_isRide : GoodIn wsX7_spare (wsV RX7 158 RX7 yX7_isRide wsX7_isRide) := goodIn_app (goodIn_of _ (by decide +kernel)) ggX7_spare_X7_isRide
set_option maxRecDepth 20000 in
theorem ggX7_spare_X7_of : GoodIn wsX7_spare wsX7_of := goodIn_r _ [14, 7, 66, 67, 68, 69, 70, 71, 72, 73, 74, 75, 76, 77, 78, 79, 80, 81, 82, 83, 84, 85, 86, 87, 88, 89, 90, 91] (by decide +kernel) (by decide +kernel)
set_option maxRecDepth 20000 in
theorem gX7_spare_X7_of : GoodIn wsX7_spare (wsV RX7 59 RX7 yX7_of wsX7_of) := goodIn_app (goodIn_of _ (by decide +kernel)) ggX7_spare_X7_of
set_option maxRecDepth 20000 in
theorem ggX7_spare_X7_timeOf : GoodIn wsX7_spare wsX7_timeOf := goodIn_r _ [18, 19, 20, 21, 22, 5, 23, 7, 24, 25, 26, 27, 28, 29, 30, 31, 32, 33, 34, 35, 36, 37, 38, 39, 40, 41, 42, 11, 12, 13, 14, 43, 44, 45, 46, 47, 48, 49, 50, 51, 52, 53, 54, 55, 56, 57, 58, 59, 60, 61, 62, 63, 64, 65, 66, 67, 68, 69, 70, 71, 72, 73, 74, 75, 76, 77, 78, 79, 80, 81, 82, 83, 84, 85, 86, 87, 88, 89, 90, 91] (by decide +kernel) (by decide +kernel)
set_option maxRecDepth 20000 in
theorem gX7_spare_X7_timeOf : GoodIn wsX7_spare (wsV RX7 199 RX7 yX7_timeOf wsX7_timeOf) := goodIn_app (goodIn_of _ (by decide +kernel)) ggX7_spare_X7_timeOf
theorem kX7_spare_1 : Cond.fieldLink RX7 44 "BookedDetoursModel" "thrown" "I" ∈ wsX7_spare := List.mem_of_getElem? (i := 1) (by decide +kernel)
theorem hX7_spare_X7 : ∀ w ∈ u_ws RX7 TX7 26, w ∈ wsX7_spare := fun _ h => List.mem_cons_of_mem _ (List.mem_append_right _ h)
set_option maxHeartbeats 4000000 in
set_option maxRecDepth 100000 in
theorem t_X7_spare (g : yG) (M : Nat → Nat) (m : MV) (ri : Int32) {post : Int32 → List va_W → Prop} {K : Int32 → MV → Prop} (hK : ∀ (r0 : Int32) (m : MV), K r0 m → post r0 ([modW g M m] : List va_W)) (hPO : PO_X7_spare ri K m ) : yM g yX7_spare wsX7_spare ({ frames := 7, cells := 0, slots := 0, locals := 158 } : Room) [.ref (M 0), .int ri] ([modW g M m] : List va_W) post 0 0 := by
  refine y_entryI (cc := cX7_spare) (maxL := 2) (by decide +kernel) rfl (Nat.le_of_ble_eq_true rfl) (fun Z C HR => ?_)
  have C : yC Z g cX7_spare 2 wsX7_spare RX7 := C
  have h := hPO
  unfold PO_X7_spare wp_X7_spare_0 at h
  show yJ Z _ 0 0 _ 0 [(0, .ref (M 0)), (1, .int ri)] []
  refine y_aload_n C dX7_spare_0 0 rfl rfl ?_
  refine y_iconst (v := 0) C dX7_spare_1 (by decide) ?_
  obtain ⟨m1, em1⟩ : ∃ z : MV, z = mI m 0 (0 : Int32) := ⟨_, rfl⟩
  have h := y_letP h em1
  refine y_put (Cn := RX7) (T := TX7) (N := 26) (v := .int (0 : Int32)) (ty0 := tyX7) (L1 := ([modW g M m1] : List va_W)) C dX7_spare_2 hX7_spare_X7 0 (sh_5000 g M m) rfl 0 (Nat.le_of_ble_eq_true rfl) kX7_spare_1 tyX7_ok nmX7 rfl rfl rfl (Nat.le_of_ble_eq_true rfl) (sh_5029 g M m (0 : Int32) m1 em1) ?_
  refine y_aload_n C dX7_spare_5 0 rfl rfl ?_
  refine y_iload_n C dX7_spare_6 1 rfl rfl ?_
  refine y_callV (As := [.int ri]) (rest := []) C dX7_spare_7 (u_X7_isRide g M m1 ri h) rfl rfl rfl rfl ⟨Nat.le_of_ble_eq_true rfl, Nat.le_of_ble_eq_true rfl⟩ gX7_spare_X7_isRide (nA := 1) (by decide +kernel) rfl (sh_5010 g M m1) (Nat.le_of_ble_eq_true rfl) ⟨Nat.le_of_ble_eq_true rfl, Nat.le_of_ble_eq_true rfl⟩ [0] [] (nB := 1) rfl (by decide +kernel) (sh_5009 g M m1) (fun r2 w9 hw => ?_)
  obtain ⟨h, rfl⟩ := hw
  refine ⟨([modW g M m1] : List va_W), ⟨(sh_5009 g M m1), rfl, rfl⟩, ?_⟩
  refine y_if_ne (tgt := 15) C dX7_spare_10 rfl h (fun c10 h => ?_) (fun c10 h => ?_)
  · refine y_aload_n C dX7_spare_15 0 rfl rfl ?_
    refine y_iload_n C dX7_spare_16 1 rfl rfl ?_
    refine y_iconst (v := 4) C dX7_spare_17 (by decide) ?_
    refine y_callV (As := [.int ri, .int (4 : Int32)]) (rest := []) C dX7_spare_18 (u_X7_of g M m1 ri (4 : Int32) h) rfl rfl rfl rfl ⟨Nat.le_of_ble_eq_true rfl, Nat.le_of_ble_eq_true rfl⟩ gX7_spare_X7_of (nA := 2) (by decide +kernel) rfl (sh_5010 g M m1) (Nat.le_of_ble_eq_true rfl) ⟨Nat.le_of_ble_eq_true rfl, Nat.le_of_ble_eq_true rfl⟩ [0] [] (nB := 1) rfl (by decide +kernel) (sh_5009 g M m1) (fun r3 w9 hw => ?_)
    obtain ⟨h, rfl⟩ := hw
    refine ⟨([modW g M m1] : List va_W), ⟨(sh_5009 g M m1), rfl, rfl⟩, ?_⟩
    refine y_if_eq (tgt := 37) C dX7_spare_21 rfl h (fun c21 h => ?_) (fun c21 h => ?_)
    · refine y_aload_n C dX7_spare_37 0 rfl rfl ?_
      refine y_iload_n C dX7_spare_38 1 rfl rfl ?_
      refine y_iconst (v := 3) C dX7_spare_39 (by decide) ?_
      refine y_callV (As := [.int ri, .int (3 : Int32)]) (rest := []) C dX7_spare_40 (u_X7_of g M m1 ri (3 : Int32) h) rfl rfl rfl rfl ⟨Nat.le_of_ble_eq_true rfl, Nat.le_of_ble_eq_true rfl⟩ gX7_spare_X7_of (nA := 2) (by decide +kernel) rfl (sh_5010 g M m1) (Nat.le_of_ble_eq_true rfl) ⟨Nat.le_of_ble_eq_true rfl, Nat.le_of_ble_eq_true rfl⟩ [0] [] (nB := 1) rfl (by decide +kernel) (sh_5009 g M m1) (fun r4 w9 hw => ?_)
      obtain ⟨h, rfl⟩ := hw
      refine ⟨([modW g M m1] : List va_W), ⟨(sh_5009 g M m1), rfl, rfl⟩, ?_⟩
      refine y_aload_n C dX7_spare_43 0 rfl rfl ?_
      refine y_iload_n C dX7_spare_44 1 rfl rfl ?_
      refine y_iconst (v := 1) C dX7_spare_45 (by decide) ?_
      refine y_callV (As := [.int ri, .int (1 : Int32)]) (rest := [.int r4]) C dX7_spare_46 (u_X7_timeOf g M m1 ri (1 : Int32) h) rfl rfl rfl rfl ⟨Nat.le_of_ble_eq_true rfl, Nat.le_of_ble_eq_true rfl⟩ gX7_spare_X7_timeOf (nA := 2) (by decide +kernel) rfl (sh_5010 g M m1) (Nat.le_of_ble_eq_true rfl) ⟨Nat.le_of_ble_eq_true rfl, Nat.le_of_ble_eq_true rfl⟩ [0] [] (nB := 1) rfl (by decide +kernel) (sh_5009 g M m1) (fun r7 w9 hw => ?_)
      obtain ⟨m5, h, rfl⟩ := hw
      refine ⟨([modW g M m5] : List va_W), (sh_5023 g M m1 m5), ?_⟩
      refine y_isub C dX7_spare_49 ?_
      exact HR 50 dX7_spare_50 (r4 - r7) _ _ _ _ (rfl) (Nat.le_of_ble_eq_true rfl) (Nat.le_of_ble_eq_true rfl) (hK _ _  h)
    · refine y_aload_n C dX7_spare_24 0 rfl rfl ?_
      refine y_iload_n C dX7_spare_25 1 rfl rfl ?_
      refine y_iconst (v := 4) C dX7_spare_26 (by decide) ?_
      refine y_callV (As := [.int ri, .int (4 : Int32)]) (rest := []) C dX7_spare_27 (u_X7_of g M m1 ri (4 : Int32) h) rfl rfl rfl rfl ⟨Nat.le_of_ble_eq_true rfl, Nat.le_of_ble_eq_true rfl⟩ gX7_spare_X7_of (nA := 2) (by decide +kernel) rfl (sh_5010 g M m1) (Nat.le_of_ble_eq_true rfl) ⟨Nat.le_of_ble_eq_true rfl, Nat.le_of_ble_eq_true rfl⟩ [0] [] (nB := 1) rfl (by decide +kernel) (sh_5009 g M m1) (fun r8 w9 hw => ?_)
      obtain ⟨h, rfl⟩ := hw
      refine ⟨([modW g M m1] : List va_W), ⟨(sh_5009 g M m1), rfl, rfl⟩, ?_⟩
      refine y_iconst (v := 1) C dX7_spare_30 (by decide) ?_
      refine y_icmp_eq (tgt := 37) C dX7_spare_31 rfl h (fun c31 h => ?_) (fun c31 h => ?_)
      · refine y_aload_n C dX7_spare_37 0 rfl rfl ?_
        refine y_iload_n C dX7_spare_38 1 rfl rfl ?_
        refine y_iconst (v := 3) C dX7_spare_39 (by decide) ?_
        refine y_callV (As := [.int ri, .int (3 : Int32)]) (rest := []) C dX7_spare_40 (u_X7_of g M m1 ri (3 : Int32) h) rfl rfl rfl rfl ⟨Nat.le_of_ble_eq_true rfl, Nat.le_of_ble_eq_true rfl⟩ gX7_spare_X7_of (nA := 2) (by decide +kernel) rfl (sh_5010 g M m1) (Nat.le_of_ble_eq_true rfl) ⟨Nat.le_of_ble_eq_true rfl, Nat.le_of_ble_eq_true rfl⟩ [0] [] (nB := 1) rfl (by decide +kernel) (sh_5009 g M m1) (fun r9 w9 hw => ?_)
        obtain ⟨h, rfl⟩ := hw
        refine ⟨([modW g M m1] : List va_W), ⟨(sh_5009 g M m1), rfl, rfl⟩, ?_⟩
        refine y_aload_n C dX7_spare_43 0 rfl rfl ?_
        refine y_iload_n C dX7_spare_44 1 rfl rfl ?_
        refine y_iconst (v := 1) C dX7_spare_45 (by decide) ?_
        refine y_callV (As := [.int ri, .int (1 : Int32)]) (rest := [.int r9]) C dX7_spare_46 (u_X7_timeOf g M m1 ri (1 : Int32) h) rfl rfl rfl rfl ⟨Nat.le_of_ble_eq_true rfl, Nat.le_of_ble_eq_true rfl⟩ gX7_spare_X7_timeOf (nA := 2) (by decide +kernel) rfl (sh_5010 g M m1) (Nat.le_of_ble_eq_true rfl) ⟨Nat.le_of_ble_eq_true rfl, Nat.le_of_ble_eq_true rfl⟩ [0] [] (nB := 1) rfl (by decide +kernel) (sh_5009 g M m1) (fun r12 w9 hw => ?_)
        obtain ⟨m10, h, rfl⟩ := hw
        refine ⟨([modW g M m10] : List va_W), (sh_5023 g M m1 m10), ?_⟩
        refine y_isub C dX7_spare_49 ?_
        exact HR 50 dX7_spare_50 (r9 - r12) _ _ _ _ (rfl) (Nat.le_of_ble_eq_true rfl) (Nat.le_of_ble_eq_true rfl) (hK _ _  h)
      · refine y_bipush (v := -5) C dX7_spare_34 (by decide) ?_
        exact HR 36 dX7_spare_36 (-5 : Int32) _ _ _ _ (rfl) (Nat.le_of_ble_eq_true rfl) (Nat.le_of_ble_eq_true rfl) (hK _ _  h)
  · refine y_iconst (v := -1) C dX7_spare_13 (by decide) ?_
    exact HR 14 dX7_spare_14 (-1 : Int32) _ _ _ _ (rfl) (Nat.le_of_ble_eq_true rfl) (Nat.le_of_ble_eq_true rfl) (hK _ _  h)
theorem u_X7_spare (g : yG) (M : Nat → Nat) (m : MV) (ri : Int32) {K : Int32 → MV → Prop} (hPO : PO_X7_spare ri K m ) : yM g yX7_spare wsX7_spare ({ frames := 7, cells := 0, slots := 0, locals := 158 } : Room) [.ref (M 0), .int ri] ([modW g M m] : List va_W) (fun r w => ∃ m' : MV, K r m' ∧ w = ([modW g M m'] : List va_W)) 0 0 :=
  t_X7_spare g M m ri (fun r0 m hk => ⟨m, hk, rfl⟩) hPO
