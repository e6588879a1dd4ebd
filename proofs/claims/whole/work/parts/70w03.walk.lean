theorem dX7_straight_0 : decode cX7_straight 0 = .ok (.aload_n 0, 1) := by decide +kernel
theorem dX7_straight_1 : decode cX7_straight 1 = .ok (.aload_n 0, 1) := by decide +kernel
theorem dX7_straight_2 : decode cX7_straight 2 = .ok (.iload_n 1, 1) := by decide +kernel
theorem dX7_straight_3 : decode cX7_straight 3 = .ok (.iconst 0, 1) := by decide +kernel
theorem dX7_straight_4 : decode cX7_straight 4 = .ok (.invokevirtual 59, 3) := by decide +kernel
theorem dX7_straight_7 : decode cX7_straight 7 = .ok (.aload_n 0, 1) := by decide +kernel
theorem dX7_straight_8 : decode cX7_straight 8 = .ok (.iload_n 1, 1) := by decide +kernel
theorem dX7_straight_9 : decode cX7_straight 9 = .ok (.iconst 1, 1) := by decide +kernel
theorem dX7_straight_10 : decode cX7_straight 10 = .ok (.invokevirtual 59, 3) := by decide +kernel
theorem dX7_straight_13 : decode cX7_straight 13 = .ok (.invokevirtual 62, 3) := by decide +kernel
theorem dX7_straight_16 : decode cX7_straight 16 = .ok (.ireturn, 1) := by decide +kernel
set_option maxRecDepth 20000 in
theorem ggX7_straight_X7_of : GoodIn wsX7_straight wsX7_of := goodIn_r _ [5, 6, 14, 15, 16, 17, 18, 19, 20, 21, 22, 23, 24, 25, 26, 27, 28, 29, 30, 31, 32, 33, 34, 35, 36, 37, 38, 39] (by decide +kernel) (by decide +kernel)
set_option maxRecDepth 20000 in
theorem gX7_straight_X7_of : GoodIn wsX7_straight (wsV RX7 59 RX7 yX7_of wsX7_of) := goodIn_app (goodIn_of _ (by decide +kernel)) ggX7_straight_X7_of
set_option maxRecDepth 20000 in
theorem ggX7_straight_X7_drive : GoodIn wsX7_straight wsX7_drive := goodIn_r _ [10, 6, 11, 12, 4, 13, 14, 15, 16, 17, 18, 19, 20, 21, 22, 23, 24, 25, 26, 27, 28, 29, 30, 31, 32, 33, 34, 35, 36, 37, 38, 39] (by decide +kernel) (by decide +kernel)
set_option maxRecDepth 20000 in
theorem gX7_straight_X7_drive : GoodIn wsX7_straight (wsV RX7 62 RX7 yX7_drive wsX7_drive) := goodIn_app (goodIn_of _ (by decide +kernel)) ggX7_straight_X7_drive
set_option maxHeartbeats 4000000 in
set_option maxRecDepth 100000 in
theorem t_X7_straight (g : yG) (M : Nat → Nat) (m : MV) (ri : Int32) {post : Int32 → List va_W → Prop} {K : Int32 → Prop} (hK : ∀ (r0 : Int32), K r0 → post r0 ([modW g M m] : List va_W)) (hPO : PO_X7_straight m ri K  ) : yM g yX7_straight wsX7_straight ({ frames := 2, cells := 0, slots := 0, locals := 43 } : Room) [.ref (M 0), .int ri] ([modW g M m] : List va_W) post 0 0 := by
  refine y_entryI (cc := cX7_straight) (maxL := 2) (by decide +kernel) rfl (Nat.le_of_ble_eq_true rfl) (fun Z C HR => ?_)
  have C : yC Z g cX7_straight 2 wsX7_straight RX7 := C
  have h := hPO
  unfold PO_X7_straight wp_X7_straight_0 at h
  show yJ Z _ 0 0 _ 0 [(0, .ref (M 0)), (1, .int ri)] []
  refine y_aload_n C dX7_straight_0 0 rfl rfl ?_
  refine y_aload_n C dX7_straight_1 0 rfl rfl ?_
  refine y_iload_n C dX7_straight_2 1 rfl rfl ?_
  refine y_iconst (v := 0) C dX7_straight_3 (by decide) ?_
  refine y_callV (As := [.int ri, .int (0 : Int32)]) (rest := [.ref (M 0)]) C dX7_straight_4 (u_X7_of g M m ri (0 : Int32) h) rfl rfl rfl rfl ⟨Nat.le_of_ble_eq_true rfl, Nat.le_of_ble_eq_true rfl⟩ gX7_straight_X7_of (nA := 2) (by decide +kernel) rfl (sh_5010 g M m) (Nat.le_of_ble_eq_true rfl) ⟨Nat.le_of_ble_eq_true rfl, Nat.le_of_ble_eq_true rfl⟩ [0] [] (nB := 1) rfl (by decide +kernel) (sh_5009 g M m) (fun r1 w9 hw => ?_)
  obtain ⟨h, rfl⟩ := hw
  refine ⟨([modW g M m] : List va_W), ⟨(sh_5009 g M m), rfl, rfl⟩, ?_⟩
  refine y_aload_n C dX7_straight_7 0 rfl rfl ?_
  refine y_iload_n C dX7_straight_8 1 rfl rfl ?_
  refine y_iconst (v := 1) C dX7_straight_9 (by decide) ?_
  refine y_callV (As := [.int ri, .int (1 : Int32)]) (rest := [.int r1, .ref (M 0)]) C dX7_straight_10 (u_X7_of g M m ri (1 : Int32) h) rfl rfl rfl rfl ⟨Nat.le_of_ble_eq_true rfl, Nat.le_of_ble_eq_true rfl⟩ gX7_straight_X7_of (nA := 2) (by decide +kernel) rfl (sh_5010 g M m) (Nat.le_of_ble_eq_true rfl) ⟨Nat.le_of_ble_eq_true rfl, Nat.le_of_ble_eq_true rfl⟩ [0] [] (nB := 1) rfl (by decide +kernel) (sh_5009 g M m) (fun r2 w9 hw => ?_)
  obtain ⟨h, rfl⟩ := hw
  refine ⟨([modW g M m] : List va_W), ⟨(sh_5009 g M m), rfl, rfl⟩, ?_⟩
  refine y_callV (As := [.int r1, .int r2]) (rest := []) C dX7_straight_13 (u_X7_drive g M m r1 r2 h) rfl rfl rfl rfl ⟨Nat.le_of_ble_eq_true rfl, Nat.le_of_ble_eq_true rfl⟩ gX7_straight_X7_drive (nA := 2) (by decide +kernel) rfl (sh_5010 g M m) (Nat.le_of_ble_eq_true rfl) ⟨Nat.le_of_ble_eq_true rfl, Nat.le_of_ble_eq_true rfl⟩ [0] [] (nB := 1) rfl (by decide +kernel) (sh_5009 g M m) (fun r3 w9 hw => ?_)
  obtain ⟨h, rfl⟩ := hw
  refine ⟨([modW g M m] : List va_W), ⟨(sh_5009 g M m), rfl, rfl⟩, ?_⟩
  exact HR 16 dX7_straight_16 r3 _ _ _ _ (rfl) (Nat.le_of_ble_eq_true rfl) (Nat.le_of_ble_eq_true rfl) (hK _  h)
theorem u_X7_straight (g : yG) (M : Nat → Nat) (m : MV) (ri : Int32) {K : Int32 → Prop} (hPO : PO_X7_straight m ri K  ) : yM g yX7_straight wsX7_straight ({ frames := 2, cells := 0, slots := 0, locals := 43 } : Room) [.ref (M 0), .int ri] ([modW g M m] : List va_W) (fun r w => K r ∧ w = ([modW g M m] : List va_W)) 0 0 :=
  t_X7_straight g M m ri (fun r0 hk => ⟨hk, rfl⟩) hPO
theorem dX7_aboardNow_0 : decode cX7_aboardNow 0 = .ok (.iconst 0, 1) := by decide +kernel
theorem dX7_aboardNow_1 : decode cX7_aboardNow 1 = .ok (.istore_n 1, 1) := by decide +kernel
theorem dX7_aboardNow_2 : decode cX7_aboardNow 2 = .ok (.iconst 0, 1) := by decide +kernel
theorem dX7_aboardNow_3 : decode cX7_aboardNow 3 = .ok (.istore_n 2, 1) := by decide +kernel
theorem dX7_aboardNow_4 : decode cX7_aboardNow 4 = .ok (.iload_n 2, 1) := by decide +kernel
theorem dX7_aboardNow_5 : decode cX7_aboardNow 5 = .ok (.aload_n 0, 1) := by decide +kernel
theorem dX7_aboardNow_6 : decode cX7_aboardNow 6 = .ok (.getfield 7, 3) := by decide +kernel
theorem dX7_aboardNow_9 : decode cX7_aboardNow 9 = .ok (.iconst 4, 1) := by decide +kernel
theorem dX7_aboardNow_10 : decode cX7_aboardNow 10 = .ok (.iaload, 1) := by decide +kernel
theorem dX7_aboardNow_11 : decode cX7_aboardNow 11 = .ok (.if_icmp .ge 27, 3) := by decide +kernel
theorem dX7_aboardNow_14 : decode cX7_aboardNow 14 = .ok (.iload_n 1, 1) := by decide +kernel
theorem dX7_aboardNow_15 : decode cX7_aboardNow 15 = .ok (.aload_n 0, 1) := by decide +kernel
theorem dX7_aboardNow_16 : decode cX7_aboardNow 16 = .ok (.iload_n 2, 1) := by decide +kernel
theorem dX7_aboardNow_17 : decode cX7_aboardNow 17 = .ok (.iconst 4, 1) := by decide +kernel
theorem dX7_aboardNow_18 : decode cX7_aboardNow 18 = .ok (.invokevirtual 59, 3) := by decide +kernel
theorem dX7_aboardNow_21 : decode cX7_aboardNow 21 = .ok (.iconst 1, 1) := by decide +kernel
theorem dX7_aboardNow_22 : decode cX7_aboardNow 22 = .ok (.if_icmp .ne 7, 3) := by decide +kernel
theorem dX7_aboardNow_25 : decode cX7_aboardNow 25 = .ok (.iconst 1, 1) := by decide +kernel
theorem dX7_aboardNow_26 : decode cX7_aboardNow 26 = .ok (.goto 4, 3) := by decide +kernel
theorem dX7_aboardNow_29 : decode cX7_aboardNow 29 = .ok (.iconst 0, 1) := by decide +kernel
theorem dX7_aboardNow_30 : decode cX7_aboardNow 30 = .ok (.iadd, 1) := by decide +kernel
theorem dX7_aboardNow_31 : decode cX7_aboardNow 31 = .ok (.istore_n 1, 1) := by decide +kernel
theorem dX7_aboardNow_32 : decode cX7_aboardNow 32 = .ok (.iinc 2 1, 3) := by decide +kernel
theorem dX7_aboardNow_35 : decode cX7_aboardNow 35 = .ok (.goto (-31), 3) := by decide +kernel
theorem dX7_aboardNow_38 : decode cX7_aboardNow 38 = .ok (.iload_n 1, 1) := by decide +kernel
theorem dX7_aboardNow_39 : decode cX7_aboardNow 39 = .ok (.ireturn, 1) := by decide +kernel
set_option maxRecDepth 20000 in
theorem ggX7_aboardNow_X7_of : GoodIn wsX7_aboardNow wsX7_of := goodIn_r _ [6, 1, 7, 8, 9, 10, 11, 12, 13, 14, 15, 16, 17, 18, 19, 20, 21, 22, 23, 24, 25, 26, 27, 28, 29, 30, 31, 32] (by decide +kernel) (by decide +kernel)
set_option maxRecDepth 20000 in
theorem gX7_aboardNow_X7_of : GoodIn wsX7_aboardNow (wsV RX7 59 RX7 yX7_of wsX7_of) := goodIn_app (goodIn_of _ (by decide +kernel)) ggX7_aboardNow_X7_of
theorem kX7_aboardNow_1 : Cond.fieldLink RX7 7 "BookedDetoursModel" "s" "[I" ∈ wsX7_aboardNow := List.mem_of_getElem? (i := 1) (by decide +kernel)
theorem hX7_aboardNow_X7 : ∀ w ∈ u_ws RX7 TX7 26, w ∈ wsX7_aboardNow := fun _ h => List.mem_cons_of_mem _ (List.mem_append_right _ h)
set_option maxHeartbeats 4000000 in
set_option maxRecDepth 100000 in
theorem w_X7_aboardNow_4 {Z : yZ} (g : yG) (M : Nat → Nat) (m : MV) (C : yC Z g cX7_aboardNow 3 wsX7_aboardNow RX7) {post : Int32 → List va_W → Prop} (HR : yRi Z ({ frames := 1, cells := 0, slots := 0, locals := 22 } : Room) cX7_aboardNow .int post 0 0) {X4 : Int32 → Int32 → Prop} (hX4 : ∀ (x1 : Int32) (x2 : Int32), X4 x1 x2 → yJ Z ({ frames := 1, cells := 0, slots := 0, locals := 22 } : Room) 0 0 ([modW g M m] : List va_W) 4 [(0, .ref (M 0)), (1, .int x1), (2, .int x2)] []) {K : Int32 → Prop} (hK : ∀ (r0 : Int32), K r0 → post r0 ([modW g M m] : List va_W)) (x1 : Int32) (x2 : Int32) (h : wp_X7_aboardNow_4 m X4 K x1 x2) : yJ Z ({ frames := 1, cells := 0, slots := 0, locals := 22 } : Room) 0 0 ([modW g M m] : List va_W) 4 [(0, .ref (M 0)), (1, .int x1), (2, .int x2)] [] := by
  unfold wp_X7_aboardNow_4 at h
  refine y_iload_n C dX7_aboardNow_4 2 rfl rfl ?_
  refine y_aload_n C dX7_aboardNow_5 0 rfl rfl ?_
  refine y_get (Cn := RX7) (T := TX7) (N := 26) (v := .ref (M 1)) C dX7_aboardNow_6 hX7_aboardNow_X7 0 (sh_5000 g M m) rfl 1 (Nat.le_of_ble_eq_true rfl) kX7_aboardNow_1 rfl ?_
  refine y_iconst (v := 4) C dX7_aboardNow_9 (by decide) ?_
  obtain ⟨hb1, h⟩ := h
  refine y_iald (N := 186) (f := (m.2 1)) C dX7_aboardNow_10 1 (sh_5001 g M m) hb1 ?_
  refine y_icmp_ge (tgt := 38) C dX7_aboardNow_11 rfl h (fun c11 h => ?_) (fun c11 h => ?_)
  · refine y_iload_n C dX7_aboardNow_38 1 rfl rfl ?_
    exact HR 39 dX7_aboardNow_39 x1 _ _ _ _ (rfl) (Nat.le_of_ble_eq_true rfl) (Nat.le_of_ble_eq_true rfl) (hK _  h)
  · refine y_iload_n C dX7_aboardNow_14 1 rfl rfl ?_
    refine y_aload_n C dX7_aboardNow_15 0 rfl rfl ?_
    refine y_iload_n C dX7_aboardNow_16 2 rfl rfl ?_
    refine y_iconst (v := 4) C dX7_aboardNow_17 (by decide) ?_
    refine y_callV (As := [.int x2, .int (4 : Int32)]) (rest := [.int x1]) C dX7_aboardNow_18 (u_X7_of g M m x2 (4 : Int32) h) rfl rfl rfl rfl ⟨Nat.le_of_ble_eq_true rfl, Nat.le_of_ble_eq_true rfl⟩ gX7_aboardNow_X7_of (nA := 2) (by decide +kernel) rfl (sh_5010 g M m) (Nat.le_of_ble_eq_true rfl) ⟨Nat.le_of_ble_eq_true rfl, Nat.le_of_ble_eq_true rfl⟩ [0] [] (nB := 1) rfl (by decide +kernel) (sh_5009 g M m) (fun r2 w9 hw => ?_)
    obtain ⟨h, rfl⟩ := hw
    refine ⟨([modW g M m] : List va_W), ⟨(sh_5009 g M m), rfl, rfl⟩, ?_⟩
    refine y_iconst (v := 1) C dX7_aboardNow_21 (by decide) ?_
    refine y_icmp_ne (tgt := 29) C dX7_aboardNow_22 rfl h (fun c22 h => ?_) (fun c22 h => ?_)
    · refine y_iconst (v := 0) C dX7_aboardNow_29 (by decide) ?_
      refine y_iadd C dX7_aboardNow_30 ?_
      refine y_istore_n (lv' := [(1, .int (x1 + (0 : Int32))), (0, .ref (M 0)), (2, .int x2)]) C dX7_aboardNow_31 rfl (Nat.le_of_ble_eq_true rfl) rfl ?_
      refine y_iinc (v := (x2 + (1 : Int32))) (lv' := [(2, .int (x2 + (1 : Int32))), (1, .int (x1 + (0 : Int32))), (0, .ref (M 0))]) C dX7_aboardNow_32 2 rfl rfl (Nat.le_of_ble_eq_true rfl) rfl ?_
      refine y_goto (tgt := 4) C dX7_aboardNow_35 rfl ?_
      refine y_sub (lv' := [(0, .ref (M 0)), (1, .int (x1 + (0 : Int32))), (2, .int (x2 + (1 : Int32)))]) [2, 1, 0] rfl ?_
      exact hX4 _ _ h
    · refine y_iconst (v := 1) C dX7_aboardNow_25 (by decide) ?_
      refine y_goto (tgt := 30) C dX7_aboardNow_26 rfl ?_
      refine y_iadd C dX7_aboardNow_30 ?_
      refine y_istore_n (lv' := [(1, .int (x1 + (1 : Int32))), (0, .ref (M 0)), (2, .int x2)]) C dX7_aboardNow_31 rfl (Nat.le_of_ble_eq_true rfl) rfl ?_
      refine y_iinc (v := (x2 + (1 : Int32))) (lv' := [(2, .int (x2 + (1 : Int32))), (1, .int (x1 + (1 : Int32))), (0, .ref (M 0))]) C dX7_aboardNow_32 2 rfl rfl (Nat.le_of_ble_eq_true rfl) rfl ?_
      refine y_goto (tgt := 4) C dX7_aboardNow_35 rfl ?_
      refine y_sub (lv' := [(0, .ref (M 0)), (1, .int (x1 + (1 : Int32))), (2, .int (x2 + (1 : Int32)))]) [2, 1, 0] rfl ?_
      exact hX4 _ _ h
set_option maxHeartbeats 4000000 in
set_option maxRecDepth 100000 in
theorem l_X7_aboardNow {Z : yZ} (g : yG) (M : Nat → Nat) (m : MV) (C : yC Z g cX7_aboardNow 3 wsX7_aboardNow RX7) {post : Int32 → List va_W → Prop} (HR : yRi Z ({ frames := 1, cells := 0, slots := 0, locals := 22 } : Room) cX7_aboardNow .int post 0 0) {K : Int32 → Prop} (hK : ∀ (r0 : Int32), K r0 → post r0 ([modW g M m] : List va_W)) {I4 : Nat → Int32 → Int32 → Prop} (o4 : ∀ (w0 : Nat) (x1 : Int32) (x2 : Int32), I4 w0 x1 x2 → wp_X7_aboardNow_4 m (fun (x19 : Int32) (x29 : Int32) => ∃ w9, w9 < w0 ∧ I4 w9 x19 x29) K x1 x2) : ∀ w0 : Nat, (∀ (x1 : Int32) (x2 : Int32), I4 w0 x1 x2 → yJ Z ({ frames := 1, cells := 0, slots := 0, locals := 22 } : Room) 0 0 ([modW g M m] : List va_W) 4 [(0, .ref (M 0)), (1, .int x1), (2, .int x2)] []) := by
  intro w0
  induction w0 using Nat.strongRecOn with
  | _ w0 ih =>
    exact fun x1 x2 hi => w_X7_aboardNow_4 g M m C HR (fun x1 x2 hq => by obtain ⟨w9, hlt, hi⟩ := hq; exact (ih w9 hlt) x1 x2 hi) hK x1 x2 (o4 w0 x1 x2 hi)
set_option maxHeartbeats 4000000 in
set_option maxRecDepth 100000 in
theorem t_X7_aboardNow (g : yG) (M : Nat → Nat) (m : MV)  {post : Int32 → List va_W → Prop} {K : Int32 → Prop} (hK : ∀ (r0 : Int32), K r0 → post r0 ([modW g M m] : List va_W)) (hPO : PO_X7_aboardNow m K  ) : yM g yX7_aboardNow wsX7_aboardNow ({ frames := 1, cells := 0, slots := 0, locals := 22 } : Room) [.ref (M 0)] ([modW g M m] : List va_W) post 0 0 := by
  refine y_entryI (cc := cX7_aboardNow) (maxL := 3) (by decide +kernel) rfl (Nat.le_of_ble_eq_true rfl) (fun Z C HR => ?_)
  have C : yC Z g cX7_aboardNow 3 wsX7_aboardNow RX7 := C
  obtain ⟨I4, o4, h⟩ := hPO
  have hX4 : ∀ (x1 : Int32) (x2 : Int32), (fun (x19 : Int32) (x29 : Int32) => ∃ w9, I4 w9 x19 x29) x1 x2 → yJ Z ({ frames := 1, cells := 0, slots := 0, locals := 22 } : Room) 0 0 ([modW g M m] : List va_W) 4 [(0, .ref (M 0)), (1, .int x1), (2, .int x2)] [] := by
    intro x1 x2 hq
    obtain ⟨w9, hi⟩ := hq
    exact (l_X7_aboardNow g M m C HR hK o4 w9) x1 x2 hi
  unfold wp_X7_aboardNow_0 at h
  show yJ Z _ 0 0 _ 0 [(0, .ref (M 0))] []
  refine y_iconst (v := 0) C dX7_aboardNow_0 (by decide) ?_
  refine y_istore_n (lv' := [(1, .int (0 : Int32)), (0, .ref (M 0))]) C dX7_aboardNow_1 rfl (Nat.le_of_ble_eq_true rfl) rfl ?_
  refine y_iconst (v := 0) C dX7_aboardNow_2 (by decide) ?_
  refine y_istore_n (lv' := [(2, .int (0 : Int32)), (1, .int (0 : Int32)), (0, .ref (M 0))]) C dX7_aboardNow_3 rfl (Nat.le_of_ble_eq_true rfl) rfl ?_
  refine y_sub (lv' := [(0, .ref (M 0)), (1, .int (0 : Int32)), (2, .int (0 : Int32))]) [2, 1, 0] rfl ?_
  exact hX4 _ _ h
theorem u_X7_aboardNow (g : yG) (M : Nat → Nat) (m : MV)  {K : Int32 → Prop} (hPO : PO_X7_aboardNow m K  ) : yM g yX7_aboardNow wsX7_aboardNow ({ frames := 1, cells := 0, slots := 0, locals := 22 } : Room) [.ref (M 0)] ([modW g M m] : List va_W) (fun r w => K r ∧ w = ([modW g M m] : List va_W)) 0 0 :=
  t_X7_aboardNow g M m  (fun r0 hk => ⟨hk, rfl⟩) hPO
theorem dX7_placeOf_0 : decode cX7_placeOf 0 = .ok (.iconst 0, 1) := by decide +kernel
theorem dX7_placeOf_1 : decode cX7_placeOf 1 = .ok (.istore_n 2, 1) := by decide +kernel
theorem dX7_placeOf_2 : decode cX7_placeOf 2 = .ok (.iload_n 2, 1) := by decide +kernel
theorem dX7_placeOf_3 : decode cX7_placeOf 3 = .ok (.aload_n 0, 1) := by decide +kernel
theorem dX7_placeOf_4 : decode cX7_placeOf 4 = .ok (.getfield 65, 3) := by decide +kernel
theorem dX7_placeOf_7 : decode cX7_placeOf 7 = .ok (.if_icmp .ge 21, 3) := by decide +kernel
theorem dX7_placeOf_10 : decode cX7_placeOf 10 = .ok (.aload_n 0, 1) := by decide +kernel
theorem dX7_placeOf_11 : decode cX7_placeOf 11 = .ok (.getfield 29, 3) := by decide +kernel
theorem dX7_placeOf_14 : decode cX7_placeOf 14 = .ok (.iload_n 2, 1) := by decide +kernel
theorem dX7_placeOf_15 : decode cX7_placeOf 15 = .ok (.iaload, 1) := by decide +kernel
theorem dX7_placeOf_16 : decode cX7_placeOf 16 = .ok (.iload_n 1, 1) := by decide +kernel
theorem dX7_placeOf_17 : decode cX7_placeOf 17 = .ok (.if_icmp .ne 5, 3) := by decide +kernel
theorem dX7_placeOf_20 : decode cX7_placeOf 20 = .ok (.iload_n 2, 1) := by decide +kernel
theorem dX7_placeOf_21 : decode cX7_placeOf 21 = .ok (.ireturn, 1) := by decide +kernel
theorem dX7_placeOf_22 : decode cX7_placeOf 22 = .ok (.iinc 2 1, 3) := by decide +kernel
theorem dX7_placeOf_25 : decode cX7_placeOf 25 = .ok (.goto (-23), 3) := by decide +kernel
theorem dX7_placeOf_28 : decode cX7_placeOf 28 = .ok (.bipush (-6), 2) := by decide +kernel
theorem dX7_placeOf_30 : decode cX7_placeOf 30 = .ok (.ireturn, 1) := by decide +kernel
theorem kX7_placeOf_1 : Cond.fieldLink RX7 65 "BookedDetoursModel" "wayMany" "I" ∈ wsX7_placeOf := List.mem_of_getElem? (i := 1) (by decide +kernel)
theorem kX7_placeOf_2 : Cond.fieldLink RX7 29 "BookedDetoursModel" "way" "[I" ∈ wsX7_placeOf := List.mem_of_getElem? (i := 2) (by decide +kernel)
theorem hX7_placeOf_X7 : ∀ w ∈ u_ws RX7 TX7 26, w ∈ wsX7_placeOf := fun _ h => List.mem_cons_of_mem _ (List.mem_append_right _ h)
set_option maxHeartbeats 4000000 in
set_option maxRecDepth 100000 in
theorem w_X7_placeOf_2 {Z : yZ} (g : yG) (M : Nat → Nat) (m : MV) (vi : Int32) (C : yC Z g cX7_placeOf 3 wsX7_placeOf RX7) {post : Int32 → List va_W → Prop} (HR : yRi Z ({ frames := 0, cells := 0, slots := 0, locals := 0 } : Room) cX7_placeOf .int post 0 0) {X2 : Int32 → Prop} (hX2 : ∀ (x2 : Int32), X2 x2 → yJ Z ({ frames := 0, cells := 0, slots := 0, locals := 0 } : Room) 0 0 ([modW g M m] : List va_W) 2 [(0, .ref (M 0)), (1, .int vi), (2, .int x2)] []) {K : Int32 → Prop} (hK : ∀ (r0 : Int32), K r0 → post r0 ([modW g M m] : List va_W)) (x2 : Int32) (h : wp_X7_placeOf_2 m vi X2 K x2) : yJ Z ({ frames := 0, cells := 0, slots := 0, locals := 0 } : Room) 0 0 ([modW g M m] : List va_W) 2 [(0, .ref (M 0)), (1, .int vi), (2, .int x2)] [] := by
  unfold wp_X7_placeOf_2 at h
  refine y_iload_n C dX7_placeOf_2 2 rfl rfl ?_
  refine y_aload_n C dX7_placeOf_3 0 rfl rfl ?_
  refine y_get (Cn := RX7) (T := TX7) (N := 26) (v := .int (m.1 10)) C dX7_placeOf_4 hX7_placeOf_X7 0 (sh_5000 g M m) rfl 10 (Nat.le_of_ble_eq_true rfl) kX7_placeOf_1 rfl ?_
  refine y_icmp_ge (tgt := 28) C dX7_placeOf_7 rfl h (fun c7 h => ?_) (fun c7 h => ?_)
  · refine y_bipush (v := -6) C dX7_placeOf_28 (by decide) ?_
    exact HR 30 dX7_placeOf_30 (-6 : Int32) _ _ _ _ (rfl) (Nat.le_of_ble_eq_true rfl) (Nat.le_of_ble_eq_true rfl) (hK _  h)
  · refine y_aload_n C dX7_placeOf_10 0 rfl rfl ?_
    refine y_get (Cn := RX7) (T := TX7) (N := 26) (v := .ref (M 7)) C dX7_placeOf_11 hX7_placeOf_X7 0 (sh_5000 g M m) rfl 9 (Nat.le_of_ble_eq_true rfl) kX7_placeOf_2 rfl ?_
    refine y_iload_n C dX7_placeOf_14 2 rfl rfl ?_
    obtain ⟨hb1, h⟩ := h
    refine y_iald (N := 36) (f := (m.2 9)) C dX7_placeOf_15 7 (sh_5011 g M m) hb1 ?_
    refine y_iload_n C dX7_placeOf_16 1 rfl rfl ?_
    refine y_icmp_ne (tgt := 22) C dX7_placeOf_17 rfl h (fun c17 h => ?_) (fun c17 h => ?_)
    · refine y_iinc (v := (x2 + (1 : Int32))) (lv' := [(2, .int (x2 + (1 : Int32))), (0, .ref (M 0)), (1, .int vi)]) C dX7_placeOf_22 2 rfl rfl (Nat.le_of_ble_eq_true rfl) rfl ?_
      refine y_goto (tgt := 2) C dX7_placeOf_25 rfl ?_
      refine y_sub (lv' := [(0, .ref (M 0)), (1, .int vi), (2, .int (x2 + (1 : Int32)))]) [1, 2, 0] rfl ?_
      exact hX2 _ h
    · refine y_iload_n C dX7_placeOf_20 2 rfl rfl ?_
      exact HR 21 dX7_placeOf_21 x2 _ _ _ _ (rfl) (Nat.le_of_ble_eq_true rfl) (Nat.le_of_ble_eq_true rfl) (hK _  h)
set_option maxHeartbeats 4000000 in
set_option maxRecDepth 100000 in
theorem l_X7_placeOf {Z : yZ} (g : yG) (M : Nat → Nat) (m : MV) (vi : Int32) (C : yC Z g cX7_placeOf 3 wsX7_placeOf RX7) {post : Int32 → List va_W → Prop} (HR : yRi Z ({ frames := 0, cells := 0, slots := 0, locals := 0 } : Room) cX7_placeOf .int post 0 0) {K : Int32 → Prop} (hK : ∀ (r0 : Int32), K r0 → post r0 ([modW g M m] : List va_W)) {I2 : Nat → Int32 → Prop} (o2 : ∀ (w0 : Nat) (x2 : Int32), I2 w0 x2 → wp_X7_placeOf_2 m vi (fun (x29 : Int32) => ∃ w9, w9 < w0 ∧ I2 w9 x29) K x2) : ∀ w0 : Nat, (∀ (x2 : Int32), I2 w0 x2 → yJ Z ({ frames := 0, cells := 0, slots := 0, locals := 0 } : Room) 0 0 ([modW g M m] : List va_W) 2 [(0, .ref (M 0)), (1, .int vi), (2, .int x2)] []) := by
  intro w0
  induction w0 using Nat.strongRecOn with
  | _ w0 ih =>
    exact fun x2 hi => w_X7_placeOf_2 g M m vi C HR (fun x2 hq => by obtain ⟨w9, hlt, hi⟩ := hq; exact (ih w9 hlt) x2 hi) hK x2 (o2 w0 x2 hi)
set_option maxHeartbeats 4000000 in
set_option maxRecDepth 100000 in
theorem t_X7_placeOf (g : yG) (M : Nat → Nat) (m : MV) (vi : Int32) {post : Int32 → List va_W → Prop} {K : Int32 → Prop} (hK : ∀ (r0 : Int32), K r0 → post r0 ([modW g M m] : List va_W)) (hPO : PO_X7_placeOf m vi K  ) : yM g yX7_placeOf wsX7_placeOf ({ frames := 0, cells := 0, slots := 0, locals := 0 } : Room) [.ref (M 0), .int vi] ([modW g M m] : List va_W) post 0 0 := by
  refine y_entryI (cc := cX7_placeOf) (maxL := 3) (by decide +kernel) rfl (Nat.le_of_ble_eq_true rfl) (fun Z C HR => ?_)
  have C : yC Z g cX7_placeOf 3 wsX7_placeOf RX7 := C
  obtain ⟨I2, o2, h⟩ := hPO
  have hX2 : ∀ (x2 : Int32), (fun (x29 : Int32) => ∃ w9, I2 w9 x29) x2 → yJ Z ({ frames := 0, cells := 0, slots := 0, locals := 0 } : Room) 0 0 ([modW g M m] : List va_W) 2 [(0, .ref (M 0)), (1, .int vi), (2, .int x2)] [] := by
    intro x2 hq
    obtain ⟨w9, hi⟩ := hq
    exact (l_X7_placeOf g M m vi C HR hK o2 w9) x2 hi
  unfold wp_X7_placeOf_0 at h
  show yJ Z _ 0 0 _ 0 [(0, .ref (M 0)), (1, .int vi)] []
  refine y_iconst (v := 0) C dX7_placeOf_0 (by decide) ?_
  refine y_istore_n (lv' := [(2, .int (0 : Int32)), (0, .ref (M 0)), (1, .int vi)]) C dX7_placeOf_1 rfl (Nat.le_of_ble_eq_true rfl) rfl ?_
  refine y_sub (lv' := [(0, .ref (M 0)), (1, .int vi), (2, .int (0 : Int32))]) [1, 2, 0] rfl ?_
  exact hX2 _ h
theorem u_X7_placeOf (g : yG) (M : Nat → Nat) (m : MV) (vi : Int32) {K : Int32 → Prop} (hPO : PO_X7_placeOf m vi K  ) : yM g yX7_placeOf wsX7_placeOf ({ frames := 0, cells := 0, slots := 0, locals := 0 } : Room) [.ref (M 0), .int vi] ([modW g M m] : List va_W) (fun r w => K r ∧ w = ([modW g M m] : List va_W)) 0 0 :=
  t_X7_placeOf g M m vi (fun r0 hk => ⟨hk, rfl⟩) hPO
