theorem dX7_refuses_0 : decode cX7_refuses 0 = .ok (.aload_n 0, 1) := by decide +kernel
theorem dX7_refuses_1 : decode cX7_refuses 1 = .ok (.iload_n 1, 1) := by decide +kernel
theorem dX7_refuses_2 : decode cX7_refuses 2 = .ok (.invokevirtual 132, 3) := by decide +kernel
theorem dX7_refuses_5 : decode cX7_refuses 5 = .ok (.ifCond .eq 11, 3) := by decide +kernel
theorem dX7_refuses_8 : decode cX7_refuses 8 = .ok (.aload_n 0, 1) := by decide +kernel
theorem dX7_refuses_9 : decode cX7_refuses 9 = .ok (.iload_n 2, 1) := by decide +kernel
theorem dX7_refuses_10 : decode cX7_refuses 10 = .ok (.invokevirtual 132, 3) := by decide +kernel
theorem dX7_refuses_13 : decode cX7_refuses 13 = .ok (.ifCond .ne 5, 3) := by decide +kernel
theorem dX7_refuses_16 : decode cX7_refuses 16 = .ok (.iconst (-1), 1) := by decide +kernel
theorem dX7_refuses_17 : decode cX7_refuses 17 = .ok (.ireturn, 1) := by decide +kernel
theorem dX7_refuses_18 : decode cX7_refuses 18 = .ok (.iload_n 1, 1) := by decide +kernel
theorem dX7_refuses_19 : decode cX7_refuses 19 = .ok (.iload_n 2, 1) := by decide +kernel
theorem dX7_refuses_20 : decode cX7_refuses 20 = .ok (.if_icmp .eq 30, 3) := by decide +kernel
theorem dX7_refuses_23 : decode cX7_refuses 23 = .ok (.iload_n 3, 1) := by decide +kernel
theorem dX7_refuses_24 : decode cX7_refuses 24 = .ok (.iconst 0, 1) := by decide +kernel
theorem dX7_refuses_25 : decode cX7_refuses 25 = .ok (.sipush 600, 3) := by decide +kernel
theorem dX7_refuses_28 : decode cX7_refuses 28 = .ok (.invokestatic 48, 3) := by decide +kernel
theorem dX7_refuses_31 : decode cX7_refuses 31 = .ok (.ifCond .eq 19, 3) := by decide +kernel
theorem dX7_refuses_34 : decode cX7_refuses 34 = .ok (.iload 4, 2) := by decide +kernel
theorem dX7_refuses_36 : decode cX7_refuses 36 = .ok (.iconst 0, 1) := by decide +kernel
theorem dX7_refuses_37 : decode cX7_refuses 37 = .ok (.sipush 900, 3) := by decide +kernel
theorem dX7_refuses_40 : decode cX7_refuses 40 = .ok (.invokestatic 48, 3) := by decide +kernel
theorem dX7_refuses_43 : decode cX7_refuses 43 = .ok (.ifCond .eq 7, 3) := by decide +kernel
theorem dX7_refuses_46 : decode cX7_refuses 46 = .ok (.iconst 0, 1) := by decide +kernel
theorem dX7_refuses_47 : decode cX7_refuses 47 = .ok (.goto 5, 3) := by decide +kernel
theorem dX7_refuses_50 : decode cX7_refuses 50 = .ok (.bipush (-2), 2) := by decide +kernel
theorem dX7_refuses_52 : decode cX7_refuses 52 = .ok (.ireturn, 1) := by decide +kernel
set_option maxRecDepth 20000 in
theorem ggX7_refuses_X7_isStop : GoodIn wsX7_refuses wsX7_isStop := goodIn_r _ [5, 6, 7, 8, 4, 9, 10, 11, 12, 13, 14, 15, 16, 17, 18, 19, 20, 21, 22, 23, 24, 25, 26, 27, 28, 29, 30, 31, 32, 33, 34, 35] (by decide +kernel) (by decide +kernel)
set_option maxRecDepth 20000 in
theorem gX7_refuses_X7_isStop : GoodIn wsX7_refuses (wsV RX7 132 RX7 yX7_isStop wsX7_isStop) := goodIn_app (goodIn_of _ (by decide +kernel)) ggX7_refuses_X7_isStop
set_option maxRecDepth 20000 in
theorem ggX7_refuses_X7_in : GoodIn wsX7_refuses wsX7_in := goodIn_r _ [9] (by decide +kernel) (by decide +kernel)
set_option maxRecDepth 20000 in
theorem gX7_refuses_X7_in : GoodIn wsX7_refuses (va_wsS RX7 48 yX7_in wsX7_in) := goodIn_app (goodIn_of _ (by decide +kernel)) ggX7_refuses_X7_in
set_option maxHeartbeats 4000000 in
set_option maxRecDepth 100000 in
theorem t_X7_refuses (g : yG) (M : Nat → Nat) (m : MV) (fr : Int32) (to : Int32) (wa : Int32) (bt : Int32) {post : Int32 → List va_W → Prop} {K : Int32 → Prop} (hK : ∀ (r0 : Int32), K r0 → post r0 ([modW g M m] : List va_W)) (hPO : PO_X7_refuses m fr to wa bt K  ) : yM g yX7_refuses wsX7_refuses ({ frames := 2, cells := 0, slots := 0, locals := 43 } : Room) [.ref (M 0), .int fr, .int to, .int wa, .int bt] ([modW g M m] : List va_W) post 0 0 := by
  refine y_entryI (cc := cX7_refuses) (maxL := 5) (by decide +kernel) rfl (Nat.le_of_ble_eq_true rfl) (fun Z C HR => ?_)
  have C : yC Z g cX7_refuses 5 wsX7_refuses RX7 := C
  have h := hPO
  unfold PO_X7_refuses wp_X7_refuses_0 at h
  show yJ Z _ 0 0 _ 0 [(0, .ref (M 0)), (1, .int fr), (2, .int to), (3, .int wa), (4, .int bt)] []
  refine y_aload_n C dX7_refuses_0 0 rfl rfl ?_
  refine y_iload_n C dX7_refuses_1 1 rfl rfl ?_
  refine y_callV (As := [.int fr]) (rest := []) C dX7_refuses_2 (u_X7_isStop g M m fr h) rfl rfl rfl rfl ⟨Nat.le_of_ble_eq_true rfl, Nat.le_of_ble_eq_true rfl⟩ gX7_refuses_X7_isStop (nA := 1) (by decide +kernel) rfl (sh_5010 g M m) (Nat.le_of_ble_eq_true rfl) ⟨Nat.le_of_ble_eq_true rfl, Nat.le_of_ble_eq_true rfl⟩ [0] [] (nB := 1) rfl (by decide +kernel) (sh_5009 g M m) (fun r1 w9 hw => ?_)
  obtain ⟨h, rfl⟩ := hw
  refine ⟨([modW g M m] : List va_W), ⟨(sh_5009 g M m), rfl, rfl⟩, ?_⟩
  refine y_if_eq (tgt := 16) C dX7_refuses_5 rfl h (fun c5 h => ?_) (fun c5 h => ?_)
  · refine y_iconst (v := -1) C dX7_refuses_16 (by decide) ?_
    exact HR 17 dX7_refuses_17 (-1 : Int32) _ _ _ _ (rfl) (Nat.le_of_ble_eq_true rfl) (Nat.le_of_ble_eq_true rfl) (hK _  h)
  · refine y_aload_n C dX7_refuses_8 0 rfl rfl ?_
    refine y_iload_n C dX7_refuses_9 2 rfl rfl ?_
    refine y_callV (As := [.int to]) (rest := []) C dX7_refuses_10 (u_X7_isStop g M m to h) rfl rfl rfl rfl ⟨Nat.le_of_ble_eq_true rfl, Nat.le_of_ble_eq_true rfl⟩ gX7_refuses_X7_isStop (nA := 1) (by decide +kernel) rfl (sh_5010 g M m) (Nat.le_of_ble_eq_true rfl) ⟨Nat.le_of_ble_eq_true rfl, Nat.le_of_ble_eq_true rfl⟩ [0] [] (nB := 1) rfl (by decide +kernel) (sh_5009 g M m) (fun r2 w9 hw => ?_)
    obtain ⟨h, rfl⟩ := hw
    refine ⟨([modW g M m] : List va_W), ⟨(sh_5009 g M m), rfl, rfl⟩, ?_⟩
    refine y_if_ne (tgt := 18) C dX7_refuses_13 rfl h (fun c13 h => ?_) (fun c13 h => ?_)
    · refine y_iload_n C dX7_refuses_18 1 rfl rfl ?_
      refine y_iload_n C dX7_refuses_19 2 rfl rfl ?_
      refine y_icmp_eq (tgt := 50) C dX7_refuses_20 rfl h (fun c20 h => ?_) (fun c20 h => ?_)
      · refine y_bipush (v := -2) C dX7_refuses_50 (by decide) ?_
        exact HR 52 dX7_refuses_52 (-2 : Int32) _ _ _ _ (rfl) (Nat.le_of_ble_eq_true rfl) (Nat.le_of_ble_eq_true rfl) (hK _  h)
      · refine y_iload_n C dX7_refuses_23 3 rfl rfl ?_
        refine y_iconst (v := 0) C dX7_refuses_24 (by decide) ?_
        refine y_sipush (v := 600) C dX7_refuses_25 (by decide) ?_
        refine y_callS (As := [.int wa, .int (0 : Int32), .int (600 : Int32)]) (rest := []) C dX7_refuses_28 (c_X7_in g wa (0 : Int32) (600 : Int32)) rfl rfl rfl rfl ⟨Nat.le_of_ble_eq_true rfl, Nat.le_of_ble_eq_true rfl⟩ gX7_refuses_X7_in (nA := 3) (by decide +kernel) rfl (Nat.le_of_ble_eq_true rfl) ⟨Nat.le_of_ble_eq_true rfl, Nat.le_of_ble_eq_true rfl⟩ [] [0] (nB := 1) rfl (by decide +kernel) (sh_5002 g M m) (fun r3 w9 hw => ?_)
        obtain ⟨er3, rfl⟩ := hw
        have h := y_letP h er3
        refine ⟨([modW g M m] : List va_W), ⟨(sh_5002 g M m), rfl, rfl⟩, ?_⟩
        refine y_if_eq (tgt := 50) C dX7_refuses_31 rfl h (fun c31 h => ?_) (fun c31 h => ?_)
        · refine y_bipush (v := -2) C dX7_refuses_50 (by decide) ?_
          exact HR 52 dX7_refuses_52 (-2 : Int32) _ _ _ _ (rfl) (Nat.le_of_ble_eq_true rfl) (Nat.le_of_ble_eq_true rfl) (hK _  h)
        · refine y_iload C dX7_refuses_34 4 rfl ?_
          refine y_iconst (v := 0) C dX7_refuses_36 (by decide) ?_
          refine y_sipush (v := 900) C dX7_refuses_37 (by decide) ?_
          refine y_callS (As := [.int bt, .int (0 : Int32), .int (900 : Int32)]) (rest := []) C dX7_refuses_40 (c_X7_in g bt (0 : Int32) (900 : Int32)) rfl rfl rfl rfl ⟨Nat.le_of_ble_eq_true rfl, Nat.le_of_ble_eq_true rfl⟩ gX7_refuses_X7_in (nA := 3) (by decide +kernel) rfl (Nat.le_of_ble_eq_true rfl) ⟨Nat.le_of_ble_eq_true rfl, Nat.le_of_ble_eq_true rfl⟩ [] [0] (nB := 1) rfl (by decide +kernel) (sh_5002 g M m) (fun r4 w9 hw => ?_)
          obtain ⟨er4, rfl⟩ := hw
          have h := y_letP h er4
          refine ⟨([modW g M m] : List va_W), ⟨(sh_5002 g M m), rfl, rfl⟩, ?_⟩
          refine y_if_eq (tgt := 50) C dX7_refuses_43 rfl h (fun c43 h => ?_) (fun c43 h => ?_)
          · refine y_bipush (v := -2) C dX7_refuses_50 (by decide) ?_
            exact HR 52 dX7_refuses_52 (-2 : Int32) _ _ _ _ (rfl) (Nat.le_of_ble_eq_true rfl) (Nat.le_of_ble_eq_true rfl) (hK _  h)
          · refine y_iconst (v := 0) C dX7_refuses_46 (by decide) ?_
            refine y_goto (tgt := 52) C dX7_refuses_47 rfl ?_
            exact HR 52 dX7_refuses_52 (0 : Int32) _ _ _ _ (rfl) (Nat.le_of_ble_eq_true rfl) (Nat.le_of_ble_eq_true rfl) (hK _  h)
    · refine y_iconst (v := -1) C dX7_refuses_16 (by decide) ?_
      exact HR 17 dX7_refuses_17 (-1 : Int32) _ _ _ _ (rfl) (Nat.le_of_ble_eq_true rfl) (Nat.le_of_ble_eq_true rfl) (hK _  h)
theorem u_X7_refuses (g : yG) (M : Nat → Nat) (m : MV) (fr : Int32) (to : Int32) (wa : Int32) (bt : Int32) {K : Int32 → Prop} (hPO : PO_X7_refuses m fr to wa bt K  ) : yM g yX7_refuses wsX7_refuses ({ frames := 2, cells := 0, slots := 0, locals := 43 } : Room) [.ref (M 0), .int fr, .int to, .int wa, .int bt] ([modW g M m] : List va_W) (fun r w => K r ∧ w = ([modW g M m] : List va_W)) 0 0 :=
  t_X7_refuses g M m fr to wa bt (fun r0 hk => ⟨hk, rfl⟩) hPO
theorem dX7_refusesBook_0 : decode cX7_refusesBook 0 = .ok (.aload_n 0, 1) := by decide +kernel
theorem dX7_refusesBook_1 : decode cX7_refusesBook 1 = .ok (.iload_n 1, 1) := by decide +kernel
theorem dX7_refusesBook_2 : decode cX7_refusesBook 2 = .ok (.iload_n 2, 1) := by decide +kernel
theorem dX7_refusesBook_3 : decode cX7_refusesBook 3 = .ok (.iload_n 3, 1) := by decide +kernel
theorem dX7_refusesBook_4 : decode cX7_refusesBook 4 = .ok (.iload 4, 2) := by decide +kernel
theorem dX7_refusesBook_6 : decode cX7_refusesBook 6 = .ok (.invokevirtual 136, 3) := by decide +kernel
theorem dX7_refusesBook_9 : decode cX7_refusesBook 9 = .ok (.istore 5, 2) := by decide +kernel
theorem dX7_refusesBook_11 : decode cX7_refusesBook 11 = .ok (.iload 5, 2) := by decide +kernel
theorem dX7_refusesBook_13 : decode cX7_refusesBook 13 = .ok (.ifCond .eq 6, 3) := by decide +kernel
theorem dX7_refusesBook_16 : decode cX7_refusesBook 16 = .ok (.iload 5, 2) := by decide +kernel
theorem dX7_refusesBook_18 : decode cX7_refusesBook 18 = .ok (.ireturn, 1) := by decide +kernel
theorem dX7_refusesBook_19 : decode cX7_refusesBook 19 = .ok (.aload_n 0, 1) := by decide +kernel
theorem dX7_refusesBook_20 : decode cX7_refusesBook 20 = .ok (.getfield 7, 3) := by decide +kernel
theorem dX7_refusesBook_23 : decode cX7_refusesBook 23 = .ok (.iconst 4, 1) := by decide +kernel
theorem dX7_refusesBook_24 : decode cX7_refusesBook 24 = .ok (.iaload, 1) := by decide +kernel
theorem dX7_refusesBook_25 : decode cX7_refusesBook 25 = .ok (.bipush 16, 2) := by decide +kernel
theorem dX7_refusesBook_27 : decode cX7_refusesBook 27 = .ok (.if_icmp .ne 6, 3) := by decide +kernel
theorem dX7_refusesBook_30 : decode cX7_refusesBook 30 = .ok (.bipush (-4), 2) := by decide +kernel
theorem dX7_refusesBook_32 : decode cX7_refusesBook 32 = .ok (.ireturn, 1) := by decide +kernel
theorem dX7_refusesBook_33 : decode cX7_refusesBook 33 = .ok (.aload_n 0, 1) := by decide +kernel
theorem dX7_refusesBook_34 : decode cX7_refusesBook 34 = .ok (.aload_n 0, 1) := by decide +kernel
theorem dX7_refusesBook_35 : decode cX7_refusesBook 35 = .ok (.iload_n 1, 1) := by decide +kernel
theorem dX7_refusesBook_36 : decode cX7_refusesBook 36 = .ok (.iload_n 2, 1) := by decide +kernel
theorem dX7_refusesBook_37 : decode cX7_refusesBook 37 = .ok (.iload_n 3, 1) := by decide +kernel
theorem dX7_refusesBook_38 : decode cX7_refusesBook 38 = .ok (.iload 4, 2) := by decide +kernel
theorem dX7_refusesBook_40 : decode cX7_refusesBook 40 = .ok (.invokevirtual 140, 3) := by decide +kernel
theorem dX7_refusesBook_43 : decode cX7_refusesBook 43 = .ok (.invokevirtual 143, 3) := by decide +kernel
theorem dX7_refusesBook_46 : decode cX7_refusesBook 46 = .ok (.ifCond .eq 7, 3) := by decide +kernel
theorem dX7_refusesBook_49 : decode cX7_refusesBook 49 = .ok (.iconst 0, 1) := by decide +kernel
theorem dX7_refusesBook_50 : decode cX7_refusesBook 50 = .ok (.goto 5, 3) := by decide +kernel
theorem dX7_refusesBook_53 : decode cX7_refusesBook 53 = .ok (.bipush (-5), 2) := by decide +kernel
theorem dX7_refusesBook_55 : decode cX7_refusesBook 55 = .ok (.ireturn, 1) := by decide +kernel
set_option maxRecDepth 20000 in
theorem ggX7_refusesBook_X7_refuses : GoodIn wsX7_refusesBook wsX7_refuses := goodIn_r _ [6, 7, 8, 9, 5, 10, 1, 11, 12, 13, 86, 87, 88, 89, 90, 91, 92, 93, 94, 95, 96, 97, 98, 99, 100, 101, 102, 103, 104, 105, 106, 107, 108, 109, 110, 111] (by decide +kernel) (by decide +kernel)
set_option maxRecDepth 20000 in
theorem gX7_refusesBook_X7_refuses : GoodIn wsX7_refusesBook (wsV RX7 136 RX7 yX7_refuses wsX7_refuses) := goodIn_app (goodIn_of _ (by decide +kernel)) ggX7_refusesBook_X7_refuses
set_option maxRecDepth 20000 in
theorem ggX7_refusesBook_X7_laysRide : GoodIn wsX7_refusesBook wsX7_laysRide := goodIn_r _ [17, 1, 18, 19, 20, 5, 21, 86, 87, 88, 89, 90, 91, 92, 93, 94, 95, 96, 97, 98, 99, 100, 101, 102, 103, 104, 105, 106, 107, 108, 109, 110, 111] (by decide +kernel) (by decide +kernel)
set_option maxRecDepth 20000 in
theorem gX7_refusesBook_X7_laysRide : GoodIn wsX7_refusesBook (wsV RX7 140 RX7 yX7_laysRide wsX7_laysRide) := goodIn_app (goodIn_of _ (by decide +kernel)) ggX7_refusesBook_X7_laysRide
set_option maxRecDepth 20000 in
theorem ggX7_refusesBook_X7_findsWay : GoodIn wsX7_refusesBook wsX7_findsWay := goodIn_r _ [25, 26, 27, 28, 1, 29, 30, 31, 32, 33, 34, 35, 36, 5, 37, 38, 39, 40, 41, 42, 43, 44, 45, 46, 47, 48, 49, 50, 51, 52, 53, 54, 55, 56, 57, 58, 59, 60, 61, 62, 63, 64, 65, 66, 67, 68, 69, 70, 71, 72, 73, 74, 75, 76, 77, 78, 79, 80, 81, 82, 83, 84, 85, 86, 87, 88, 89, 90, 91, 92, 93, 94, 95, 96, 97, 98, 99, 100, 101, 102, 103, 104, 105, 106, 107, 108, 109, 110, 111] (by decide +kernel) (by decide +kernel)
set_option maxRecDepth 20000 in
theorem gX7_refusesBook_X7_findsWay : GoodIn wsX7_refusesBook (wsV RX7 143 RX7 yX7_findsWay wsX7_findsWay) := goodIn_app (goodIn_of _ (by decide +kernel)) ggX7_refusesBook_X7_findsWay
theorem kX7_refusesBook_1 : Cond.fieldLink RX7 7 "BookedDetoursModel" "s" "[I" ∈ wsX7_refusesBook := List.mem_of_getElem? (i := 1) (by decide +kernel)
theorem hX7_refusesBook_X7 : ∀ w ∈ u_ws RX7 TX7 26, w ∈ wsX7_refusesBook := fun _ h => List.mem_cons_of_mem _ (List.mem_append_right _ h)
set_option maxHeartbeats 4000000 in
set_option maxRecDepth 100000 in
theorem t_X7_refusesBook (g : yG) (M : Nat → Nat) (m : MV) (fr : Int32) (to : Int32) (wa : Int32) (bt : Int32) {post : Int32 → List va_W → Prop} {K : Int32 → MV → Prop} (hK : ∀ (r0 : Int32) (m : MV), K r0 m → post r0 ([modW g M m] : List va_W)) (hPO : PO_X7_refusesBook fr to wa bt K m ) : yM g yX7_refusesBook wsX7_refusesBook ({ frames := 6, cells := 0, slots := 0, locals := 139 } : Room) [.ref (M 0), .int fr, .int to, .int wa, .int bt] ([modW g M m] : List va_W) post 0 0 := by
  refine y_entryI (cc := cX7_refusesBook) (maxL := 6) (by decide +kernel) rfl (Nat.le_of_ble_eq_true rfl) (fun Z C HR => ?_)
  have C : yC Z g cX7_refusesBook 6 wsX7_refusesBook RX7 := C
  have h := hPO
  unfold PO_X7_refusesBook wp_X7_refusesBook_0 at h
  show yJ Z _ 0 0 _ 0 [(0, .ref (M 0)), (1, .int fr), (2, .int to), (3, .int wa), (4, .int bt)] []
  refine y_aload_n C dX7_refusesBook_0 0 rfl rfl ?_
  refine y_iload_n C dX7_refusesBook_1 1 rfl rfl ?_
  refine y_iload_n C dX7_refusesBook_2 2 rfl rfl ?_
  refine y_iload_n C dX7_refusesBook_3 3 rfl rfl ?_
  refine y_iload C dX7_refusesBook_4 4 rfl ?_
  refine y_callV (As := [.int fr, .int to, .int wa, .int bt]) (rest := []) C dX7_refusesBook_6 (u_X7_refuses g M m fr to wa bt h) rfl rfl rfl rfl ⟨Nat.le_of_ble_eq_true rfl, Nat.le_of_ble_eq_true rfl⟩ gX7_refusesBook_X7_refuses (nA := 4) (by decide +kernel) rfl (sh_5010 g M m) (Nat.le_of_ble_eq_true rfl) ⟨Nat.le_of_ble_eq_true rfl, Nat.le_of_ble_eq_true rfl⟩ [0] [] (nB := 1) rfl (by decide +kernel) (sh_5009 g M m) (fun r1 w9 hw => ?_)
  obtain ⟨h, rfl⟩ := hw
  refine ⟨([modW g M m] : List va_W), ⟨(sh_5009 g M m), rfl, rfl⟩, ?_⟩
  refine y_istore (lv' := [(5, .int r1), (0, .ref (M 0)), (1, .int fr), (2, .int to), (3, .int wa), (4, .int bt)]) C dX7_refusesBook_9 (Nat.le_of_ble_eq_true rfl) rfl ?_
  refine y_iload C dX7_refusesBook_11 0 rfl ?_
  refine y_if_eq (tgt := 19) C dX7_refusesBook_13 rfl h (fun c13 h => ?_) (fun c13 h => ?_)
  · refine y_aload_n C dX7_refusesBook_19 1 rfl rfl ?_
    refine y_get (Cn := RX7) (T := TX7) (N := 26) (v := .ref (M 1)) C dX7_refusesBook_20 hX7_refusesBook_X7 0 (sh_5000 g M m) rfl 1 (Nat.le_of_ble_eq_true rfl) kX7_refusesBook_1 rfl ?_
    refine y_iconst (v := 4) C dX7_refusesBook_23 (by decide) ?_
    obtain ⟨hb2, h⟩ := h
    refine y_iald (N := 186) (f := (m.2 1)) C dX7_refusesBook_24 1 (sh_5001 g M m) hb2 ?_
    refine y_bipush (v := 16) C dX7_refusesBook_25 (by decide) ?_
    refine y_icmp_ne (tgt := 33) C dX7_refusesBook_27 rfl h (fun c27 h => ?_) (fun c27 h => ?_)
    · refine y_aload_n C dX7_refusesBook_33 1 rfl rfl ?_
      refine y_aload_n C dX7_refusesBook_34 1 rfl rfl ?_
      refine y_iload_n C dX7_refusesBook_35 2 rfl rfl ?_
      refine y_iload_n C dX7_refusesBook_36 3 rfl rfl ?_
      refine y_iload_n C dX7_refusesBook_37 4 rfl rfl ?_
      refine y_iload C dX7_refusesBook_38 5 rfl ?_
      refine y_callV (As := [.int fr, .int to, .int wa, .int bt]) (rest := [.ref (M 0)]) C dX7_refusesBook_40 (u_X7_laysRide g M m fr to wa bt h) rfl rfl rfl rfl ⟨Nat.le_of_ble_eq_true rfl, Nat.le_of_ble_eq_true rfl⟩ gX7_refusesBook_X7_laysRide (nA := 4) (by decide +kernel) rfl (sh_5010 g M m) (Nat.le_of_ble_eq_true rfl) ⟨Nat.le_of_ble_eq_true rfl, Nat.le_of_ble_eq_true rfl⟩ [0] [] (nB := 1) rfl (by decide +kernel) (sh_5009 g M m) (fun r5 w9 hw => ?_)
      obtain ⟨m3, h, rfl⟩ := hw
      refine ⟨([modW g M m3] : List va_W), (sh_5023 g M m m3), ?_⟩
      refine y_callV (As := [.int r5]) (rest := []) C dX7_refusesBook_43 (u_X7_findsWay g M m3 r5 h) rfl rfl rfl rfl ⟨Nat.le_of_ble_eq_true rfl, Nat.le_of_ble_eq_true rfl⟩ gX7_refusesBook_X7_findsWay (nA := 1) (by decide +kernel) rfl (sh_5010 g M m3) (Nat.le_of_ble_eq_true rfl) ⟨Nat.le_of_ble_eq_true rfl, Nat.le_of_ble_eq_true rfl⟩ [0] [] (nB := 1) rfl (by decide +kernel) (sh_5009 g M m3) (fun r8 w9 hw => ?_)
      obtain ⟨m6, h, rfl⟩ := hw
      refine ⟨([modW g M m6] : List va_W), (sh_5023 g M m3 m6), ?_⟩
      refine y_if_eq (tgt := 53) C dX7_refusesBook_46 rfl h (fun c46 h => ?_) (fun c46 h => ?_)
      · refine y_bipush (v := -5) C dX7_refusesBook_53 (by decide) ?_
        exact HR 55 dX7_refusesBook_55 (-5 : Int32) _ _ _ _ (rfl) (Nat.le_of_ble_eq_true rfl) (Nat.le_of_ble_eq_true rfl) (hK _ _  h)
      · refine y_iconst (v := 0) C dX7_refusesBook_49 (by decide) ?_
        refine y_goto (tgt := 55) C dX7_refusesBook_50 rfl ?_
        exact HR 55 dX7_refusesBook_55 (0 : Int32) _ _ _ _ (rfl) (Nat.le_of_ble_eq_true rfl) (Nat.le_of_ble_eq_true rfl) (hK _ _  h)
    · refine y_bipush (v := -4) C dX7_refusesBook_30 (by decide) ?_
      exact HR 32 dX7_refusesBook_32 (-4 : Int32) _ _ _ _ (rfl) (Nat.le_of_ble_eq_true rfl) (Nat.le_of_ble_eq_true rfl) (hK _ _  h)
  · refine y_iload C dX7_refusesBook_16 0 rfl ?_
    exact HR 18 dX7_refusesBook_18 r1 _ _ _ _ (rfl) (Nat.le_of_ble_eq_true rfl) (Nat.le_of_ble_eq_true rfl) (hK _ _  h)
theorem u_X7_refusesBook (g : yG) (M : Nat → Nat) (m : MV) (fr : Int32) (to : Int32) (wa : Int32) (bt : Int32) {K : Int32 → MV → Prop} (hPO : PO_X7_refusesBook fr to wa bt K m ) : yM g yX7_refusesBook wsX7_refusesBook ({ frames := 6, cells := 0, slots := 0, locals := 139 } : Room) [.ref (M 0), .int fr, .int to, .int wa, .int bt] ([modW g M m] : List va_W) (fun r w => ∃ m' : MV, K r m' ∧ w = ([modW g M m'] : List va_W)) 0 0 :=
  t_X7_refusesBook g M m fr to wa bt (fun r0 m hk => ⟨m, hk, rfl⟩) hPO
