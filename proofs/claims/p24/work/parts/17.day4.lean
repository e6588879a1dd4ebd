theorem dX0_leaveOut_0 : decode cX0_leaveOut 0 = .ok (.aload_n 0, 1) := by decide +kernel
theorem dX0_leaveOut_1 : decode cX0_leaveOut 1 = .ok (.invokevirtual 97, 3) := by decide +kernel
theorem dX0_leaveOut_4 : decode cX0_leaveOut 4 = .ok (.ifCond .eq 22, 3) := by decide +kernel
theorem dX0_leaveOut_7 : decode cX0_leaveOut 7 = .ok (.aload_n 0, 1) := by decide +kernel
theorem dX0_leaveOut_8 : decode cX0_leaveOut 8 = .ok (.getfield 50, 3) := by decide +kernel
theorem dX0_leaveOut_11 : decode cX0_leaveOut 11 = .ok (.iconst 0, 1) := by decide +kernel
theorem dX0_leaveOut_12 : decode cX0_leaveOut 12 = .ok (.invokevirtual 74, 3) := by decide +kernel
theorem dX0_leaveOut_15 : decode cX0_leaveOut 15 = .ok (.invokestatic 83, 3) := by decide +kernel
theorem dX0_leaveOut_18 : decode cX0_leaveOut 18 = .ok (.iload_n 1, 1) := by decide +kernel
theorem dX0_leaveOut_19 : decode cX0_leaveOut 19 = .ok (.if_icmp .ne 7, 3) := by decide +kernel
theorem dX0_leaveOut_22 : decode cX0_leaveOut 22 = .ok (.aload_n 0, 1) := by decide +kernel
theorem dX0_leaveOut_23 : decode cX0_leaveOut 23 = .ok (.invokevirtual 101, 3) := by decide +kernel
theorem dX0_leaveOut_26 : decode cX0_leaveOut 26 = .ok (.aload_n 0, 1) := by decide +kernel
theorem dX0_leaveOut_27 : decode cX0_leaveOut 27 = .ok (.getfield 50, 3) := by decide +kernel
theorem dX0_leaveOut_30 : decode cX0_leaveOut 30 = .ok (.invokevirtual 70, 3) := by decide +kernel
theorem dX0_leaveOut_33 : decode cX0_leaveOut 33 = .ok (.iconst 1, 1) := by decide +kernel
theorem dX0_leaveOut_34 : decode cX0_leaveOut 34 = .ok (.isub, 1) := by decide +kernel
theorem dX0_leaveOut_35 : decode cX0_leaveOut 35 = .ok (.istore_n 3, 1) := by decide +kernel
theorem dX0_leaveOut_36 : decode cX0_leaveOut 36 = .ok (.iload_n 3, 1) := by decide +kernel
theorem dX0_leaveOut_37 : decode cX0_leaveOut 37 = .ok (.ifCond .lt 32, 3) := by decide +kernel
theorem dX0_leaveOut_40 : decode cX0_leaveOut 40 = .ok (.aload_n 0, 1) := by decide +kernel
theorem dX0_leaveOut_41 : decode cX0_leaveOut 41 = .ok (.getfield 50, 3) := by decide +kernel
theorem dX0_leaveOut_44 : decode cX0_leaveOut 44 = .ok (.iload_n 3, 1) := by decide +kernel
theorem dX0_leaveOut_45 : decode cX0_leaveOut 45 = .ok (.invokevirtual 74, 3) := by decide +kernel
theorem dX0_leaveOut_48 : decode cX0_leaveOut 48 = .ok (.invokestatic 83, 3) := by decide +kernel
theorem dX0_leaveOut_51 : decode cX0_leaveOut 51 = .ok (.iload_n 1, 1) := by decide +kernel
theorem dX0_leaveOut_52 : decode cX0_leaveOut 52 = .ok (.if_icmp .ne 11, 3) := by decide +kernel
theorem dX0_leaveOut_55 : decode cX0_leaveOut 55 = .ok (.aload_n 0, 1) := by decide +kernel
theorem dX0_leaveOut_56 : decode cX0_leaveOut 56 = .ok (.getfield 50, 3) := by decide +kernel
theorem dX0_leaveOut_59 : decode cX0_leaveOut 59 = .ok (.iload_n 3, 1) := by decide +kernel
theorem dX0_leaveOut_60 : decode cX0_leaveOut 60 = .ok (.invokevirtual 104, 3) := by decide +kernel
theorem dX0_leaveOut_63 : decode cX0_leaveOut 63 = .ok (.iinc 3 (-1), 3) := by decide +kernel
theorem dX0_leaveOut_66 : decode cX0_leaveOut 66 = .ok (.goto (-30), 3) := by decide +kernel
theorem dX0_leaveOut_69 : decode cX0_leaveOut 69 = .ok (.aload_n 0, 1) := by decide +kernel
theorem dX0_leaveOut_70 : decode cX0_leaveOut 70 = .ok (.getfield 41, 3) := by decide +kernel
theorem dX0_leaveOut_73 : decode cX0_leaveOut 73 = .ok (.iload_n 1, 1) := by decide +kernel
theorem dX0_leaveOut_74 : decode cX0_leaveOut 74 = .ok (.iload_n 2, 1) := by decide +kernel
theorem dX0_leaveOut_75 : decode cX0_leaveOut 75 = .ok (.invokevirtual 107, 3) := by decide +kernel
theorem dX0_leaveOut_78 : decode cX0_leaveOut 78 = .ok (.return_, 1) := by decide +kernel
set_option maxRecDepth 20000 in
theorem ggX0_leaveOut_X3_change : GoodIn wsX0_leaveOut wsX3_change := goodIn_r _ [57, 15, 20, 73, 74] (by decide +kernel) (by decide +kernel)
set_option maxRecDepth 20000 in
theorem gX0_leaveOut_X3_change : GoodIn wsX0_leaveOut (wsV RX0 107 RX3 yX3_change wsX3_change) := goodIn_app (goodIn_of _ (by decide +kernel)) ggX0_leaveOut_X3_change
set_option maxRecDepth 20000 in
theorem ggX0_leaveOut_X3_at : GoodIn wsX0_leaveOut wsX3_at := goodIn_r _ [19, 15, 20, 73, 74] (by decide +kernel) (by decide +kernel)
set_option maxRecDepth 20000 in
theorem gX0_leaveOut_X3_at : GoodIn wsX0_leaveOut (wsV RX0 74 RX3 yX3_at wsX3_at) := goodIn_app (goodIn_of _ (by decide +kernel)) ggX0_leaveOut_X3_at
set_option maxRecDepth 20000 in
theorem ggX0_leaveOut_X6_rideOf : GoodIn wsX0_leaveOut wsX6_rideOf := goodIn_r _ [23] (by decide +kernel) (by decide +kernel)
set_option maxRecDepth 20000 in
theorem gX0_leaveOut_X6_rideOf_n83 : GoodIn wsX0_leaveOut (wsX6_rideOf) := ggX0_leaveOut_X6_rideOf
set_option maxRecDepth 20000 in
theorem ggX0_leaveOut_X3_remove : GoodIn wsX0_leaveOut wsX3_remove := goodIn_r _ [53, 15, 20, 73, 74] (by decide +kernel) (by decide +kernel)
set_option maxRecDepth 20000 in
theorem gX0_leaveOut_X3_remove : GoodIn wsX0_leaveOut (wsV RX0 104 RX3 yX3_remove wsX3_remove) := goodIn_app (goodIn_of _ (by decide +kernel)) ggX0_leaveOut_X3_remove
set_option maxRecDepth 20000 in
theorem ggX0_leaveOut_X0_isOnItsWay : GoodIn wsX0_leaveOut wsX0_isOnItsWay := goodIn_r _ [7, 1, 8, 9, 10, 11, 12, 13, 14, 15, 58, 59, 60, 61, 62, 63, 64, 65, 66, 67, 68, 69, 70, 71, 72, 73, 74] (by decide +kernel) (by decide +kernel)
set_option maxRecDepth 20000 in
theorem gX0_leaveOut_X0_isOnItsWay : GoodIn wsX0_leaveOut (wsV RX0 97 RX0 yX0_isOnItsWay wsX0_isOnItsWay) := goodIn_app (goodIn_of _ (by decide +kernel)) ggX0_leaveOut_X0_isOnItsWay
set_option maxRecDepth 20000 in
theorem ggX0_leaveOut_X3_length : GoodIn wsX0_leaveOut wsX3_length := goodIn_r _ [14, 15, 73, 74] (by decide +kernel) (by decide +kernel)
set_option maxRecDepth 20000 in
theorem gX0_leaveOut_X3_length : GoodIn wsX0_leaveOut (wsV RX0 70 RX3 yX3_length wsX3_length) := goodIn_app (goodIn_of _ (by decide +kernel)) ggX0_leaveOut_X3_length
set_option maxRecDepth 20000 in
theorem ggX0_leaveOut_X0_endAtFirst : GoodIn wsX0_leaveOut wsX0_endAtFirst := goodIn_r _ [27, 1, 9, 28, 8, 29, 30, 31, 32, 16, 17, 18, 13, 19, 15, 20, 33, 34, 35, 6, 36, 37, 38, 21, 22, 23, 39, 40, 41, 42, 43, 44, 45, 46, 47, 48, 49, 58, 59, 60, 61, 62, 63, 64, 65, 66, 67, 68, 69, 70, 71, 72, 73, 74] (by decide +kernel) (by decide +kernel)
set_option maxRecDepth 20000 in
theorem gX0_leaveOut_X0_endAtFirst : GoodIn wsX0_leaveOut (wsV RX0 101 RX0 yX0_endAtFirst wsX0_endAtFirst) := goodIn_app (goodIn_of _ (by decide +kernel)) ggX0_leaveOut_X0_endAtFirst
theorem kX0_leaveOut_2 : Cond.fieldLink RX0 41 "BookedDetours$Day" "stands" "LBookedDetours$Row;" ∈ wsX0_leaveOut := List.mem_of_getElem? (i := 2) (by decide +kernel)
theorem kX0_leaveOut_1 : Cond.fieldLink RX0 50 "BookedDetours$Day" "route" "LBookedDetours$Row;" ∈ wsX0_leaveOut := List.mem_of_getElem? (i := 1) (by decide +kernel)
theorem kX0_leaveOut_22 : Cond.initialized RX6 ∈ wsX0_leaveOut := List.mem_of_getElem? (i := 22) (by decide +kernel)
theorem kX0_leaveOut_21 : Cond.static yX6_rideOf ∈ wsX0_leaveOut := List.mem_of_getElem? (i := 21) (by decide +kernel)
theorem hX0_leaveOut_X0 : ∀ w ∈ u_ws RX0 TX0 15, w ∈ wsX0_leaveOut := fun _ h => List.mem_cons_of_mem _ (List.mem_append_left _ (List.mem_append_right _ h))
set_option maxHeartbeats 4000000 in
set_option maxRecDepth 100000 in
theorem w_X0_leaveOut_36 {Z : yZ} (g : yG) (A : Nat → Nat) (ri : Int32) (how : Int32) (C : yC Z g cX0_leaveOut 4 wsX0_leaveOut RX0) {post : List va_W → Prop} (HR : yRv Z ({ frames := 3, cells := 0, slots := 0, locals := 64 } : Room) cX0_leaveOut post 0 0) {X36 : RV → Int32 → Prop} (hX36 : ∀ (d : RV) (x3 : Int32) (G : Nat → Nat → Int32), X36 d x3 → yJ Z ({ frames := 3, cells := 0, slots := 0, locals := 64 } : Room) 0 0 ([dayC A d] ++ dayR g A d G : List va_W) 36 [(0, .ref (A 0)), (1, .int ri), (2, .int how), (3, .int x3)] []) {K : RV → Prop} (hK : ∀ (d : RV) (G : Nat → Nat → Int32), K d → post ([dayC A d] ++ dayR g A d G : List va_W)) (d : RV) (x3 : Int32) (G : Nat → Nat → Int32) (h : wp_X0_leaveOut_36 ri how X36 K d x3) : yJ Z ({ frames := 3, cells := 0, slots := 0, locals := 64 } : Room) 0 0 ([dayC A d] ++ dayR g A d G : List va_W) 36 [(0, .ref (A 0)), (1, .int ri), (2, .int how), (3, .int x3)] [] := by
  unfold wp_X0_leaveOut_36 at h
  refine y_iload_n C dX0_leaveOut_36 3 rfl rfl ?_
  refine y_if_lt (tgt := 69) C dX0_leaveOut_37 rfl h (fun c37 h => ?_) (fun c37 h => ?_)
  · refine y_aload_n C dX0_leaveOut_69 0 rfl rfl ?_
    refine y_get (Cn := RX0) (T := TX0) (N := 15) (v := .ref (A 17)) C dX0_leaveOut_70 hX0_leaveOut_X0 0 (sh_3 g A d G) rfl 8 (Nat.le_of_ble_eq_true rfl) kX0_leaveOut_2 rfl ?_
    refine y_iload_n C dX0_leaveOut_73 1 rfl rfl ?_
    refine y_iload_n C dX0_leaveOut_74 2 rfl rfl ?_
    refine y_callVv (As := [.int ri, .int how]) (rest := []) C dX0_leaveOut_75 (c_X3_change g (A 17) (A 18) 17 (d.1 8) (G 8) ri how (by decide)) rfl rfl rfl rfl ⟨Nat.le_of_ble_eq_true rfl, Nat.le_of_ble_eq_true rfl⟩ gX0_leaveOut_X3_change (nA := 2) (by decide +kernel) rfl (rowW_recv ⟨_, rfl⟩) (Nat.le_of_ble_eq_true rfl) ⟨Nat.le_of_ble_eq_true rfl, Nat.le_of_ble_eq_true rfl⟩ [9] [0, 1, 2, 3, 4, 5, 6, 7, 8, 10, 11, 12] (nB := 13) rfl (by decide +kernel) (sh_5 g A d G) (fun w9 hw => ?_)
    obtain ⟨y1, G2, e3, rfl⟩ := hw
    obtain ⟨d4, ed4⟩ : ∃ z : RV, z = rvR d 8 y1 := ⟨_, rfl⟩
    obtain ⟨G5, eG5⟩ : ∃ z : Nat → Nat → Int32, z = gs G 8 G2 := ⟨_, rfl⟩
    have h := y_letP h (show d4 = rvR d 8 (rSet (d.1 8) ri how) by rw [ed4, e3])
    refine ⟨([dayC A d4] ++ dayR g A d4 G5 : List va_W), (sh_21 g A d G y1 G2 d4 G5 ed4 eG5), ?_⟩
    exact HR 78 dX0_leaveOut_78 _ _ _ _ (Nat.le_of_ble_eq_true rfl) (Nat.le_of_ble_eq_true rfl) (hK _ _ h)
  · refine y_aload_n C dX0_leaveOut_40 0 rfl rfl ?_
    refine y_get (Cn := RX0) (T := TX0) (N := 15) (v := .ref (A 23)) C dX0_leaveOut_41 hX0_leaveOut_X0 0 (sh_3 g A d G) rfl 11 (Nat.le_of_ble_eq_true rfl) kX0_leaveOut_1 rfl ?_
    refine y_iload_n C dX0_leaveOut_44 3 rfl rfl ?_
    refine y_callV (As := [.int x3]) (rest := []) C dX0_leaveOut_45 (c_X3_at g (A 23) (A 24) 34 (d.1 11) (G 11) x3 (by decide)) rfl rfl rfl rfl ⟨Nat.le_of_ble_eq_true rfl, Nat.le_of_ble_eq_true rfl⟩ gX0_leaveOut_X3_at (nA := 1) (by decide +kernel) rfl (rowW_recv ⟨_, rfl⟩) (Nat.le_of_ble_eq_true rfl) ⟨Nat.le_of_ble_eq_true rfl, Nat.le_of_ble_eq_true rfl⟩ [12] [0, 1, 2, 3, 4, 5, 6, 7, 8, 9, 10, 11] (nB := 13) rfl (by decide +kernel) (sh_10 g A d G) (fun r6 w9 hw => ?_)
    obtain ⟨er6, rfl⟩ := hw
    have h := y_letP h er6
    refine ⟨([dayC A d] ++ dayR g A d G : List va_W), ⟨(sh_10 g A d G), rfl, rfl⟩, ?_⟩
    refine y_callSN (host := RX6) (As := [.int r6]) (rest := []) C dX0_leaveOut_48 (c_X6_rideOf g r6) rfl rfl rfl rfl ⟨Nat.le_of_ble_eq_true rfl, Nat.le_of_ble_eq_true rfl⟩ gX0_leaveOut_X6_rideOf_n83 (List.mem_of_getElem? (i := 4) rfl) kX0_leaveOut_22 kX0_leaveOut_21 (nA := 1) (by decide +kernel) rfl (Nat.le_of_ble_eq_true rfl) ⟨Nat.le_of_ble_eq_true rfl, Nat.le_of_ble_eq_true rfl⟩ [] [0, 1, 2, 3, 4, 5, 6, 7, 8, 9, 10, 11, 12] (nB := 13) rfl (by decide +kernel) (sh_7 g A d G) (fun r7 w9 hw => ?_)
    obtain ⟨er7, rfl⟩ := hw
    have h := y_letP h er7
    refine ⟨([dayC A d] ++ dayR g A d G : List va_W), ⟨(sh_7 g A d G), rfl, rfl⟩, ?_⟩
    refine y_iload_n C dX0_leaveOut_51 1 rfl rfl ?_
    refine y_icmp_ne (tgt := 63) C dX0_leaveOut_52 rfl h (fun c52 h => ?_) (fun c52 h => ?_)
    · refine y_iinc (v := (x3 + (-1 : Int32))) (lv' := [(3, .int (x3 + (-1 : Int32))), (0, .ref (A 0)), (1, .int ri), (2, .int how)]) C dX0_leaveOut_63 3 rfl rfl (Nat.le_of_ble_eq_true rfl) rfl ?_
      refine y_goto (tgt := 36) C dX0_leaveOut_66 rfl ?_
      refine y_sub (lv' := [(0, .ref (A 0)), (1, .int ri), (2, .int how), (3, .int (x3 + (-1 : Int32)))]) [1, 2, 3, 0] rfl ?_
      exact hX36 _ _ _ h
    · refine y_aload_n C dX0_leaveOut_55 0 rfl rfl ?_
      refine y_get (Cn := RX0) (T := TX0) (N := 15) (v := .ref (A 23)) C dX0_leaveOut_56 hX0_leaveOut_X0 0 (sh_3 g A d G) rfl 11 (Nat.le_of_ble_eq_true rfl) kX0_leaveOut_1 rfl ?_
      refine y_iload_n C dX0_leaveOut_59 3 rfl rfl ?_
      refine y_callVv (As := [.int x3]) (rest := []) C dX0_leaveOut_60 (c_X3_remove g (A 23) (A 24) 34 (d.1 11) (G 11) x3 (by decide)) rfl rfl rfl rfl ⟨Nat.le_of_ble_eq_true rfl, Nat.le_of_ble_eq_true rfl⟩ gX0_leaveOut_X3_remove (nA := 1) (by decide +kernel) rfl (rowW_recv ⟨_, rfl⟩) (Nat.le_of_ble_eq_true rfl) ⟨Nat.le_of_ble_eq_true rfl, Nat.le_of_ble_eq_true rfl⟩ [12] [0, 1, 2, 3, 4, 5, 6, 7, 8, 9, 10, 11] (nB := 13) rfl (by decide +kernel) (sh_10 g A d G) (fun w9 hw => ?_)
      obtain ⟨y8, G9, e10, rfl⟩ := hw
      obtain ⟨d11, ed11⟩ : ∃ z : RV, z = rvR d 11 y8 := ⟨_, rfl⟩
      obtain ⟨G12, eG12⟩ : ∃ z : Nat → Nat → Int32, z = gs G 11 G9 := ⟨_, rfl⟩
      have h := y_letP h (show d11 = rvR d 11 (rDel (d.1 11) x3) by rw [ed11, e10])
      refine ⟨([dayC A d11] ++ dayR g A d11 G12 : List va_W), (sh_28 g A d G y8 G9 d11 G12 ed11 eG12), ?_⟩
      refine y_iinc (v := (x3 + (-1 : Int32))) (lv' := [(3, .int (x3 + (-1 : Int32))), (0, .ref (A 0)), (1, .int ri), (2, .int how)]) C dX0_leaveOut_63 3 rfl rfl (Nat.le_of_ble_eq_true rfl) rfl ?_
      refine y_goto (tgt := 36) C dX0_leaveOut_66 rfl ?_
      refine y_sub (lv' := [(0, .ref (A 0)), (1, .int ri), (2, .int how), (3, .int (x3 + (-1 : Int32)))]) [1, 2, 3, 0] rfl ?_
      exact hX36 _ _ _ h
set_option maxHeartbeats 4000000 in
set_option maxRecDepth 100000 in
theorem l_X0_leaveOut {Z : yZ} (g : yG) (A : Nat → Nat) (ri : Int32) (how : Int32) (C : yC Z g cX0_leaveOut 4 wsX0_leaveOut RX0) {post : List va_W → Prop} (HR : yRv Z ({ frames := 3, cells := 0, slots := 0, locals := 64 } : Room) cX0_leaveOut post 0 0) {K : RV → Prop} (hK : ∀ (d : RV) (G : Nat → Nat → Int32), K d → post ([dayC A d] ++ dayR g A d G : List va_W)) {I36 : Nat → RV → Int32 → Prop} (o36 : ∀ (w0 : Nat) (d : RV) (x3 : Int32), I36 w0 d x3 → wp_X0_leaveOut_36 ri how (fun (d9 : RV) (x39 : Int32) => ∃ w9, w9 < w0 ∧ I36 w9 d9 x39) K d x3) : ∀ w0 : Nat, (∀ (d : RV) (x3 : Int32) (G : Nat → Nat → Int32), I36 w0 d x3 → yJ Z ({ frames := 3, cells := 0, slots := 0, locals := 64 } : Room) 0 0 ([dayC A d] ++ dayR g A d G : List va_W) 36 [(0, .ref (A 0)), (1, .int ri), (2, .int how), (3, .int x3)] []) := by
  intro w0
  induction w0 using Nat.strongRecOn with
  | _ w0 ih =>
    exact fun d x3 G hi => w_X0_leaveOut_36 g A ri how C HR (fun d x3 G hq => by obtain ⟨w9, hlt, hi⟩ := hq; exact (ih w9 hlt) d x3 G hi) hK d x3 G (o36 w0 d x3 hi)
set_option maxHeartbeats 4000000 in
set_option maxRecDepth 100000 in
theorem t_X0_leaveOut (g : yG) (A : Nat → Nat) (d : RV) (G : Nat → Nat → Int32) (ri : Int32) (how : Int32) {post : List va_W → Prop} {K : RV → Prop} (hK : ∀ (d : RV) (G : Nat → Nat → Int32), K d → post ([dayC A d] ++ dayR g A d G : List va_W)) (hPO : PO_X0_leaveOut ri how K d ) : yMv g yX0_leaveOut wsX0_leaveOut ({ frames := 3, cells := 0, slots := 0, locals := 64 } : Room) [.ref (A 0), .int ri, .int how] ([dayC A d] ++ dayR g A d G : List va_W) post 0 0 := by
  refine y_entryV (cc := cX0_leaveOut) (maxL := 4) (by decide +kernel) rfl (Nat.le_of_ble_eq_true rfl) (fun Z C _ HR => ?_)
  have C : yC Z g cX0_leaveOut 4 wsX0_leaveOut RX0 := C
  obtain ⟨I36, o36, h⟩ := hPO
  have hX36 : ∀ (d : RV) (x3 : Int32) (G : Nat → Nat → Int32), (fun (d9 : RV) (x39 : Int32) => ∃ w9, I36 w9 d9 x39) d x3 → yJ Z ({ frames := 3, cells := 0, slots := 0, locals := 64 } : Room) 0 0 ([dayC A d] ++ dayR g A d G : List va_W) 36 [(0, .ref (A 0)), (1, .int ri), (2, .int how), (3, .int x3)] [] := by
    intro d x3 G hq
    obtain ⟨w9, hi⟩ := hq
    exact (l_X0_leaveOut g A ri how C HR hK o36 w9) d x3 G hi
  unfold wp_X0_leaveOut_0 at h
  show yJ Z _ 0 0 _ 0 [(0, .ref (A 0)), (1, .int ri), (2, .int how)] []
  refine y_aload_n C dX0_leaveOut_0 0 rfl rfl ?_
  refine y_callV (As := []) (rest := []) C dX0_leaveOut_1 (c_X0_isOnItsWay g A d G) rfl rfl rfl rfl ⟨Nat.le_of_ble_eq_true rfl, Nat.le_of_ble_eq_true rfl⟩ gX0_leaveOut_X0_isOnItsWay (nA := 0) (by decide +kernel) rfl (sh_18 g A d G) (Nat.le_of_ble_eq_true rfl) ⟨Nat.le_of_ble_eq_true rfl, Nat.le_of_ble_eq_true rfl⟩ [0, 1, 2, 3, 4, 5, 6, 7, 8, 9, 10, 11, 12] [] (nB := 13) rfl (by decide +kernel) (sh_17 g A d G) (fun r1 w9 hw => ?_)
  obtain ⟨er1, rfl⟩ := hw
  have h := y_letP h er1
  refine ⟨([dayC A d] ++ dayR g A d G : List va_W), ⟨(sh_17 g A d G), rfl, rfl⟩, ?_⟩
  refine y_if_eq (tgt := 26) C dX0_leaveOut_4 rfl h (fun c4 h => ?_) (fun c4 h => ?_)
  · refine y_aload_n C dX0_leaveOut_26 0 rfl rfl ?_
    refine y_get (Cn := RX0) (T := TX0) (N := 15) (v := .ref (A 23)) C dX0_leaveOut_27 hX0_leaveOut_X0 0 (sh_3 g A d G) rfl 11 (Nat.le_of_ble_eq_true rfl) kX0_leaveOut_1 rfl ?_
    refine y_callV (As := []) (rest := []) C dX0_leaveOut_30 (c_X3_length g (A 23) (A 24) 34 (d.1 11) (G 11) (by decide)) rfl rfl rfl rfl ⟨Nat.le_of_ble_eq_true rfl, Nat.le_of_ble_eq_true rfl⟩ gX0_leaveOut_X3_length (nA := 0) (by decide +kernel) rfl (rowW_recv ⟨_, rfl⟩) (Nat.le_of_ble_eq_true rfl) ⟨Nat.le_of_ble_eq_true rfl, Nat.le_of_ble_eq_true rfl⟩ [12] [0, 1, 2, 3, 4, 5, 6, 7, 8, 9, 10, 11] (nB := 13) rfl (by decide +kernel) (sh_10 g A d G) (fun r2 w9 hw => ?_)
    obtain ⟨er2, rfl⟩ := hw
    have h := y_letP h er2
    refine ⟨([dayC A d] ++ dayR g A d G : List va_W), ⟨(sh_10 g A d G), rfl, rfl⟩, ?_⟩
    refine y_iconst (v := 1) C dX0_leaveOut_33 (by decide) ?_
    refine y_isub C dX0_leaveOut_34 ?_
    refine y_istore_n (lv' := [(3, .int (r2 - (1 : Int32))), (0, .ref (A 0)), (1, .int ri), (2, .int how)]) C dX0_leaveOut_35 rfl (Nat.le_of_ble_eq_true rfl) rfl ?_
    refine y_sub (lv' := [(0, .ref (A 0)), (1, .int ri), (2, .int how), (3, .int (r2 - (1 : Int32)))]) [1, 2, 3, 0] rfl ?_
    exact hX36 _ _ _ h
  · refine y_aload_n C dX0_leaveOut_7 0 rfl rfl ?_
    refine y_get (Cn := RX0) (T := TX0) (N := 15) (v := .ref (A 23)) C dX0_leaveOut_8 hX0_leaveOut_X0 0 (sh_3 g A d G) rfl 11 (Nat.le_of_ble_eq_true rfl) kX0_leaveOut_1 rfl ?_
    refine y_iconst (v := 0) C dX0_leaveOut_11 (by decide) ?_
    refine y_callV (As := [.int (0 : Int32)]) (rest := []) C dX0_leaveOut_12 (c_X3_at g (A 23) (A 24) 34 (d.1 11) (G 11) (0 : Int32) (by decide)) rfl rfl rfl rfl ⟨Nat.le_of_ble_eq_true rfl, Nat.le_of_ble_eq_true rfl⟩ gX0_leaveOut_X3_at (nA := 1) (by decide +kernel) rfl (rowW_recv ⟨_, rfl⟩) (Nat.le_of_ble_eq_true rfl) ⟨Nat.le_of_ble_eq_true rfl, Nat.le_of_ble_eq_true rfl⟩ [12] [0, 1, 2, 3, 4, 5, 6, 7, 8, 9, 10, 11] (nB := 13) rfl (by decide +kernel) (sh_10 g A d G) (fun r3 w9 hw => ?_)
    obtain ⟨er3, rfl⟩ := hw
    have h := y_letP h er3
    refine ⟨([dayC A d] ++ dayR g A d G : List va_W), ⟨(sh_10 g A d G), rfl, rfl⟩, ?_⟩
    refine y_callSN (host := RX6) (As := [.int r3]) (rest := []) C dX0_leaveOut_15 (c_X6_rideOf g r3) rfl rfl rfl rfl ⟨Nat.le_of_ble_eq_true rfl, Nat.le_of_ble_eq_true rfl⟩ gX0_leaveOut_X6_rideOf_n83 (List.mem_of_getElem? (i := 4) rfl) kX0_leaveOut_22 kX0_leaveOut_21 (nA := 1) (by decide +kernel) rfl (Nat.le_of_ble_eq_true rfl) ⟨Nat.le_of_ble_eq_true rfl, Nat.le_of_ble_eq_true rfl⟩ [] [0, 1, 2, 3, 4, 5, 6, 7, 8, 9, 10, 11, 12] (nB := 13) rfl (by decide +kernel) (sh_7 g A d G) (fun r4 w9 hw => ?_)
    obtain ⟨er4, rfl⟩ := hw
    have h := y_letP h er4
    refine ⟨([dayC A d] ++ dayR g A d G : List va_W), ⟨(sh_7 g A d G), rfl, rfl⟩, ?_⟩
    refine y_iload_n C dX0_leaveOut_18 1 rfl rfl ?_
    refine y_icmp_ne (tgt := 26) C dX0_leaveOut_19 rfl h (fun c19 h => ?_) (fun c19 h => ?_)
    · refine y_aload_n C dX0_leaveOut_26 0 rfl rfl ?_
      refine y_get (Cn := RX0) (T := TX0) (N := 15) (v := .ref (A 23)) C dX0_leaveOut_27 hX0_leaveOut_X0 0 (sh_3 g A d G) rfl 11 (Nat.le_of_ble_eq_true rfl) kX0_leaveOut_1 rfl ?_
      refine y_callV (As := []) (rest := []) C dX0_leaveOut_30 (c_X3_length g (A 23) (A 24) 34 (d.1 11) (G 11) (by decide)) rfl rfl rfl rfl ⟨Nat.le_of_ble_eq_true rfl, Nat.le_of_ble_eq_true rfl⟩ gX0_leaveOut_X3_length (nA := 0) (by decide +kernel) rfl (rowW_recv ⟨_, rfl⟩) (Nat.le_of_ble_eq_true rfl) ⟨Nat.le_of_ble_eq_true rfl, Nat.le_of_ble_eq_true rfl⟩ [12] [0, 1, 2, 3, 4, 5, 6, 7, 8, 9, 10, 11] (nB := 13) rfl (by decide +kernel) (sh_10 g A d G) (fun r5 w9 hw => ?_)
      obtain ⟨er5, rfl⟩ := hw
      have h := y_letP h er5
      refine ⟨([dayC A d] ++ dayR g A d G : List va_W), ⟨(sh_10 g A d G), rfl, rfl⟩, ?_⟩
      refine y_iconst (v := 1) C dX0_leaveOut_33 (by decide) ?_
      refine y_isub C dX0_leaveOut_34 ?_
      refine y_istore_n (lv' := [(3, .int (r5 - (1 : Int32))), (0, .ref (A 0)), (1, .int ri), (2, .int how)]) C dX0_leaveOut_35 rfl (Nat.le_of_ble_eq_true rfl) rfl ?_
      refine y_sub (lv' := [(0, .ref (A 0)), (1, .int ri), (2, .int how), (3, .int (r5 - (1 : Int32)))]) [1, 2, 3, 0] rfl ?_
      exact hX36 _ _ _ h
    · refine y_aload_n C dX0_leaveOut_22 0 rfl rfl ?_
      refine y_callVv (As := []) (rest := []) C dX0_leaveOut_23 (c_X0_endAtFirst g A d G) rfl rfl rfl rfl ⟨Nat.le_of_ble_eq_true rfl, Nat.le_of_ble_eq_true rfl⟩ gX0_leaveOut_X0_endAtFirst (nA := 0) (by decide +kernel) rfl (sh_18 g A d G) (Nat.le_of_ble_eq_true rfl) ⟨Nat.le_of_ble_eq_true rfl, Nat.le_of_ble_eq_true rfl⟩ [0, 1, 2, 3, 4, 5, 6, 7, 8, 9, 10, 11, 12] [] (nB := 13) rfl (by decide +kernel) (sh_17 g A d G) (fun w9 hw => ?_)
      obtain ⟨d6, G7, e8, rfl⟩ := hw
      have h := y_letP h e8
      refine ⟨([dayC A d6] ++ dayR g A d6 G7 : List va_W), (sh_29 g A d G d6 G7), ?_⟩
      refine y_aload_n C dX0_leaveOut_26 0 rfl rfl ?_
      refine y_get (Cn := RX0) (T := TX0) (N := 15) (v := .ref (A 23)) C dX0_leaveOut_27 hX0_leaveOut_X0 0 (sh_3 g A d6 G7) rfl 11 (Nat.le_of_ble_eq_true rfl) kX0_leaveOut_1 rfl ?_
      refine y_callV (As := []) (rest := []) C dX0_leaveOut_30 (c_X3_length g (A 23) (A 24) 34 (d6.1 11) (G7 11) (by decide)) rfl rfl rfl rfl ⟨Nat.le_of_ble_eq_true rfl, Nat.le_of_ble_eq_true rfl⟩ gX0_leaveOut_X3_length (nA := 0) (by decide +kernel) rfl (rowW_recv ⟨_, rfl⟩) (Nat.le_of_ble_eq_true rfl) ⟨Nat.le_of_ble_eq_true rfl, Nat.le_of_ble_eq_true rfl⟩ [12] [0, 1, 2, 3, 4, 5, 6, 7, 8, 9, 10, 11] (nB := 13) rfl (by decide +kernel) (sh_10 g A d6 G7) (fun r9 w9 hw => ?_)
      obtain ⟨er9, rfl⟩ := hw
      have h := y_letP h er9
      refine ⟨([dayC A d6] ++ dayR g A d6 G7 : List va_W), ⟨(sh_10 g A d6 G7), rfl, rfl⟩, ?_⟩
      refine y_iconst (v := 1) C dX0_leaveOut_33 (by decide) ?_
      refine y_isub C dX0_leaveOut_34 ?_
      refine y_istore_n (lv' := [(3, .int (r9 - (1 : Int32))), (0, .ref (A 0)), (1, .int ri), (2, .int how)]) C dX0_leaveOut_35 rfl (Nat.le_of_ble_eq_true rfl) rfl ?_
      refine y_sub (lv' := [(0, .ref (A 0)), (1, .int ri), (2, .int how), (3, .int (r9 - (1 : Int32)))]) [1, 2, 3, 0] rfl ?_
      exact hX36 _ _ _ h
set_option maxHeartbeats 4000000 in
set_option maxRecDepth 100000 in
theorem c_X0_leaveOut (g : yG) (A : Nat → Nat) (d : RV) (G : Nat → Nat → Int32) (ri : Int32) (how : Int32)  : yMv g yX0_leaveOut wsX0_leaveOut ({ frames := 3, cells := 0, slots := 0, locals := 64 } : Room) [.ref (A 0), .int ri, .int how] ([dayC A d] ++ dayR g A d G : List va_W) (fun w => ∃ d' : RV, ∃ G' : Nat → Nat → Int32, d' = (fLeave d ri how) ∧ w = ([dayC A d'] ++ dayR g A d' G' : List va_W)) 0 0 :=
  yMv_fact (F := dayLen d) (fun A9 hD => dayLen_of (g := g) (A := A) (G := G) (fun x hx => by simp only [List.mem_append, hx, true_or, or_true]) hD) (fun hF => t_X0_leaveOut g A d G ri how (K := (fun (d1 : RV) => d1 = (fLeave d ri how))) (fun d1 G1 e0 => ⟨d1, G1, e0, rfl⟩) (p_X0_leaveOut (by have := hF.2.2.2.2.2.2.2.2.2.2.2; omega)))
