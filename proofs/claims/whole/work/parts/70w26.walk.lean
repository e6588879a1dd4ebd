theorem dX7_standing_0 : decode cX7_standing 0 = .ok (.iconst 0, 1) := by decide +kernel
theorem dX7_standing_1 : decode cX7_standing 1 = .ok (.istore_n 2, 1) := by decide +kernel
theorem dX7_standing_2 : decode cX7_standing 2 = .ok (.iconst 0, 1) := by decide +kernel
theorem dX7_standing_3 : decode cX7_standing 3 = .ok (.istore_n 3, 1) := by decide +kernel
theorem dX7_standing_4 : decode cX7_standing 4 = .ok (.iload_n 3, 1) := by decide +kernel
theorem dX7_standing_5 : decode cX7_standing 5 = .ok (.aload_n 0, 1) := by decide +kernel
theorem dX7_standing_6 : decode cX7_standing 6 = .ok (.getfield 7, 3) := by decide +kernel
theorem dX7_standing_9 : decode cX7_standing 9 = .ok (.iconst 4, 1) := by decide +kernel
theorem dX7_standing_10 : decode cX7_standing 10 = .ok (.iaload, 1) := by decide +kernel
theorem dX7_standing_11 : decode cX7_standing 11 = .ok (.if_icmp .ge 27, 3) := by decide +kernel
theorem dX7_standing_14 : decode cX7_standing 14 = .ok (.iload_n 2, 1) := by decide +kernel
theorem dX7_standing_15 : decode cX7_standing 15 = .ok (.aload_n 0, 1) := by decide +kernel
theorem dX7_standing_16 : decode cX7_standing 16 = .ok (.iload_n 3, 1) := by decide +kernel
theorem dX7_standing_17 : decode cX7_standing 17 = .ok (.iconst 4, 1) := by decide +kernel
theorem dX7_standing_18 : decode cX7_standing 18 = .ok (.invokevirtual 59, 3) := by decide +kernel
theorem dX7_standing_21 : decode cX7_standing 21 = .ok (.iload_n 1, 1) := by decide +kernel
theorem dX7_standing_22 : decode cX7_standing 22 = .ok (.if_icmp .ne 7, 3) := by decide +kernel
theorem dX7_standing_25 : decode cX7_standing 25 = .ok (.iconst 1, 1) := by decide +kernel
theorem dX7_standing_26 : decode cX7_standing 26 = .ok (.goto 4, 3) := by decide +kernel
theorem dX7_standing_29 : decode cX7_standing 29 = .ok (.iconst 0, 1) := by decide +kernel
theorem dX7_standing_30 : decode cX7_standing 30 = .ok (.iadd, 1) := by decide +kernel
theorem dX7_standing_31 : decode cX7_standing 31 = .ok (.istore_n 2, 1) := by decide +kernel
theorem dX7_standing_32 : decode cX7_standing 32 = .ok (.iinc 3 1, 3) := by decide +kernel
theorem dX7_standing_35 : decode cX7_standing 35 = .ok (.goto (-31), 3) := by decide +kernel
theorem dX7_standing_38 : decode cX7_standing 38 = .ok (.iload_n 2, 1) := by decide +kernel
theorem dX7_standing_39 : decode cX7_standing 39 = .ok (.ireturn, 1) := by decide +kernel
set_option maxRecDepth 20000 in
theorem ggX7_standing_X7_of : GoodIn wsX7_standing wsX7_of := goodIn_r _ [6, 1, 7, 8, 9, 10, 11, 12, 13, 14, 15, 16, 17, 18, 19, 20, 21, 22, 23, 24, 25, 26, 27, 28, 29, 30, 31, 32] (by decide +kernel) (by decide +kernel)
set_option maxRecDepth 20000 in
theorem gX7_standing_X7_of : GoodIn wsX7_standing (wsV RX7 59 RX7 yX7_of wsX7_of) := goodIn_app (goodIn_of _ (by decide +kernel)) ggX7_standing_X7_of
theorem kX7_standing_1 : Cond.fieldLink RX7 7 "BookedDetoursModel" "s" "[I" ∈ wsX7_standing := List.mem_of_getElem? (i := 1) (by decide +kernel)
theorem hX7_standing_X7 : ∀ w ∈ u_ws RX7 TX7 26, w ∈ wsX7_standing := fun _ h => List.mem_cons_of_mem _ (List.mem_append_right _ h)
set_option maxHeartbeats 4000000 in
set_option maxRecDepth 100000 in
theorem w_X7_standing_4 {Z : yZ} (g : yG) (M : Nat → Nat) (m : MV) (how : Int32) (C : yC Z g cX7_standing 4 wsX7_standing RX7) {post : Int32 → List va_W → Prop} (HR : yRi Z ({ frames := 1, cells := 0, slots := 0, locals := 22 } : Room) cX7_standing .int post 0 0) {X4 : Int32 → Int32 → Prop} (hX4 : ∀ (x2 : Int32) (x3 : Int32), X4 x2 x3 → yJ Z ({ frames := 1, cells := 0, slots := 0, locals := 22 } : Room) 0 0 ([modW g M m] : List va_W) 4 [(0, .ref (M 0)), (1, .int how), (2, .int x2), (3, .int x3)] []) {K : Int32 → Prop} (hK : ∀ (r0 : Int32), K r0 → post r0 ([modW g M m] : List va_W)) (x2 : Int32) (x3 : Int32) (h : wp_X7_standing_4 m how X4 K x2 x3) : yJ Z ({ frames := 1, cells := 0, slots := 0, locals := 22 } : Room) 0 0 ([modW g M m] : List va_W) 4 [(0, .ref (M 0)), (1, .int how), (2, .int x2), (3, .int x3)] [] := by
  unfold wp_X7_standing_4 at h
  refine y_iload_n C dX7_standing_4 3 rfl rfl ?_
  refine y_aload_n C dX7_standing_5 0 rfl rfl ?_
  refine y_get (Cn := RX7) (T := TX7) (N := 26) (v := .ref (M 1)) C dX7_standing_6 hX7_standing_X7 0 (sh_5000 g M m) rfl 1 (Nat.le_of_ble_eq_true rfl) kX7_standing_1 rfl ?_
  refine y_iconst (v := 4) C dX7_standing_9 (by decide) ?_
  obtain ⟨hb1, h⟩ := h
  refine y_iald (N := 186) (f := (m.2 1)) C dX7_standing_10 1 (sh_5001 g M m) hb1 ?_
  refine y_icmp_ge (tgt := 38) C dX7_standing_11 rfl h (fun c11 h => ?_) (fun c11 h => ?_)
  · refine y_iload_n C dX7_standing_38 2 rfl rfl ?_
    exact HR 39 dX7_standing_39 x2 _ _ _ _ (rfl) (Nat.le_of_ble_eq_true rfl) (Nat.le_of_ble_eq_true rfl) (hK _  h)
  · refine y_iload_n C dX7_standing_14 2 rfl rfl ?_
    refine y_aload_n C dX7_standing_15 0 rfl rfl ?_
    refine y_iload_n C dX7_standing_16 3 rfl rfl ?_
    refine y_iconst (v := 4) C dX7_standing_17 (by decide) ?_
    refine y_callV (As := [.int x3, .int (4 : Int32)]) (rest := [.int x2]) C dX7_standing_18 (u_X7_of g M m x3 (4 : Int32) h) rfl rfl rfl rfl ⟨Nat.le_of_ble_eq_true rfl, Nat.le_of_ble_eq_true rfl⟩ gX7_standing_X7_of (nA := 2) (by decide +kernel) rfl (sh_5010 g M m) (Nat.le_of_ble_eq_true rfl) ⟨Nat.le_of_ble_eq_true rfl, Nat.le_of_ble_eq_true rfl⟩ [0] [] (nB := 1) rfl (by decide +kernel) (sh_5009 g M m) (fun r2 w9 hw => ?_)
    obtain ⟨h, rfl⟩ := hw
    refine ⟨([modW g M m] : List va_W), ⟨(sh_5009 g M m), rfl, rfl⟩, ?_⟩
    refine y_iload_n C dX7_standing_21 1 rfl rfl ?_
    refine y_icmp_ne (tgt := 29) C dX7_standing_22 rfl h (fun c22 h => ?_) (fun c22 h => ?_)
    · refine y_iconst (v := 0) C dX7_standing_29 (by decide) ?_
      refine y_iadd C dX7_standing_30 ?_
      refine y_istore_n (lv' := [(2, .int (x2 + (0 : Int32))), (0, .ref (M 0)), (1, .int how), (3, .int x3)]) C dX7_standing_31 rfl (Nat.le_of_ble_eq_true rfl) rfl ?_
      refine y_iinc (v := (x3 + (1 : Int32))) (lv' := [(3, .int (x3 + (1 : Int32))), (2, .int (x2 + (0 : Int32))), (0, .ref (M 0)), (1, .int how)]) C dX7_standing_32 3 rfl rfl (Nat.le_of_ble_eq_true rfl) rfl ?_
      refine y_goto (tgt := 4) C dX7_standing_35 rfl ?_
      refine y_sub (lv' := [(0, .ref (M 0)), (1, .int how), (2, .int (x2 + (0 : Int32))), (3, .int (x3 + (1 : Int32)))]) [2, 3, 1, 0] rfl ?_
      exact hX4 _ _ h
    · refine y_iconst (v := 1) C dX7_standing_25 (by decide) ?_
      refine y_goto (tgt := 30) C dX7_standing_26 rfl ?_
      refine y_iadd C dX7_standing_30 ?_
      refine y_istore_n (lv' := [(2, .int (x2 + (1 : Int32))), (0, .ref (M 0)), (1, .int how), (3, .int x3)]) C dX7_standing_31 rfl (Nat.le_of_ble_eq_true rfl) rfl ?_
      refine y_iinc (v := (x3 + (1 : Int32))) (lv' := [(3, .int (x3 + (1 : Int32))), (2, .int (x2 + (1 : Int32))), (0, .ref (M 0)), (1, .int how)]) C dX7_standing_32 3 rfl rfl (Nat.le_of_ble_eq_true rfl) rfl ?_
      refine y_goto (tgt := 4) C dX7_standing_35 rfl ?_
      refine y_sub (lv' := [(0, .ref (M 0)), (1, .int how), (2, .int (x2 + (1 : Int32))), (3, .int (x3 + (1 : Int32)))]) [2, 3, 1, 0] rfl ?_
      exact hX4 _ _ h
set_option maxHeartbeats 4000000 in
set_option maxRecDepth 100000 in
theorem l_X7_standing {Z : yZ} (g : yG) (M : Nat → Nat) (m : MV) (how : Int32) (C : yC Z g cX7_standing 4 wsX7_standing RX7) {post : Int32 → List va_W → Prop} (HR : yRi Z ({ frames := 1, cells := 0, slots := 0, locals := 22 } : Room) cX7_standing .int post 0 0) {K : Int32 → Prop} (hK : ∀ (r0 : Int32), K r0 → post r0 ([modW g M m] : List va_W)) {I4 : Nat → Int32 → Int32 → Prop} (o4 : ∀ (w0 : Nat) (x2 : Int32) (x3 : Int32), I4 w0 x2 x3 → wp_X7_standing_4 m how (fun (x29 : Int32) (x39 : Int32) => ∃ w9, w9 < w0 ∧ I4 w9 x29 x39) K x2 x3) : ∀ w0 : Nat, (∀ (x2 : Int32) (x3 : Int32), I4 w0 x2 x3 → yJ Z ({ frames := 1, cells := 0, slots := 0, locals := 22 } : Room) 0 0 ([modW g M m] : List va_W) 4 [(0, .ref (M 0)), (1, .int how), (2, .int x2), (3, .int x3)] []) := by
  intro w0
  induction w0 using Nat.strongRecOn with
  | _ w0 ih =>
    exact fun x2 x3 hi => w_X7_standing_4 g M m how C HR (fun x2 x3 hq => by obtain ⟨w9, hlt, hi⟩ := hq; exact (ih w9 hlt) x2 x3 hi) hK x2 x3 (o4 w0 x2 x3 hi)
set_option maxHeartbeats 4000000 in
set_option maxRecDepth 100000 in
theorem t_X7_standing (g : yG) (M : Nat → Nat) (m : MV) (how : Int32) {post : Int32 → List va_W → Prop} {K : Int32 → Prop} (hK : ∀ (r0 : Int32), K r0 → post r0 ([modW g M m] : List va_W)) (hPO : PO_X7_standing m how K  ) : yM g yX7_standing wsX7_standing ({ frames := 1, cells := 0, slots := 0, locals := 22 } : Room) [.ref (M 0), .int how] ([modW g M m] : List va_W) post 0 0 := by
  refine y_entryI (cc := cX7_standing) (maxL := 4) (by decide +kernel) rfl (Nat.le_of_ble_eq_true rfl) (fun Z C HR => ?_)
  have C : yC Z g cX7_standing 4 wsX7_standing RX7 := C
  obtain ⟨I4, o4, h⟩ := hPO
  have hX4 : ∀ (x2 : Int32) (x3 : Int32), (fun (x29 : Int32) (x39 : Int32) => ∃ w9, I4 w9 x29 x39) x2 x3 → yJ Z ({ frames := 1, cells := 0, slots := 0, locals := 22 } : Room) 0 0 ([modW g M m] : List va_W) 4 [(0, .ref (M 0)), (1, .int how), (2, .int x2), (3, .int x3)] [] := by
    intro x2 x3 hq
    obtain ⟨w9, hi⟩ := hq
    exact (l_X7_standing g M m how C HR hK o4 w9) x2 x3 hi
  unfold wp_X7_standing_0 at h
  show yJ Z _ 0 0 _ 0 [(0, .ref (M 0)), (1, .int how)] []
  refine y_iconst (v := 0) C dX7_standing_0 (by decide) ?_
  refine y_istore_n (lv' := [(2, .int (0 : Int32)), (0, .ref (M 0)), (1, .int how)]) C dX7_standing_1 rfl (Nat.le_of_ble_eq_true rfl) rfl ?_
  refine y_iconst (v := 0) C dX7_standing_2 (by decide) ?_
  refine y_istore_n (lv' := [(3, .int (0 : Int32)), (2, .int (0 : Int32)), (0, .ref (M 0)), (1, .int how)]) C dX7_standing_3 rfl (Nat.le_of_ble_eq_true rfl) rfl ?_
  refine y_sub (lv' := [(0, .ref (M 0)), (1, .int how), (2, .int (0 : Int32)), (3, .int (0 : Int32))]) [2, 3, 1, 0] rfl ?_
  exact hX4 _ _ h
theorem u_X7_standing (g : yG) (M : Nat → Nat) (m : MV) (how : Int32) {K : Int32 → Prop} (hPO : PO_X7_standing m how K  ) : yM g yX7_standing wsX7_standing ({ frames := 1, cells := 0, slots := 0, locals := 22 } : Room) [.ref (M 0), .int how] ([modW g M m] : List va_W) (fun r w => K r ∧ w = ([modW g M m] : List va_W)) 0 0 :=
  t_X7_standing g M m how (fun r0 hk => ⟨hk, rfl⟩) hPO
theorem dX7_waiting_0 : decode cX7_waiting 0 = .ok (.iconst 0, 1) := by decide +kernel
theorem dX7_waiting_1 : decode cX7_waiting 1 = .ok (.istore_n 1, 1) := by decide +kernel
theorem dX7_waiting_2 : decode cX7_waiting 2 = .ok (.iconst 0, 1) := by decide +kernel
theorem dX7_waiting_3 : decode cX7_waiting 3 = .ok (.istore_n 2, 1) := by decide +kernel
theorem dX7_waiting_4 : decode cX7_waiting 4 = .ok (.iload_n 2, 1) := by decide +kernel
theorem dX7_waiting_5 : decode cX7_waiting 5 = .ok (.aload_n 0, 1) := by decide +kernel
theorem dX7_waiting_6 : decode cX7_waiting 6 = .ok (.getfield 65, 3) := by decide +kernel
theorem dX7_waiting_9 : decode cX7_waiting 9 = .ok (.if_icmp .ge 18, 3) := by decide +kernel
theorem dX7_waiting_12 : decode cX7_waiting 12 = .ok (.iload_n 1, 1) := by decide +kernel
theorem dX7_waiting_13 : decode cX7_waiting 13 = .ok (.aload_n 0, 1) := by decide +kernel
theorem dX7_waiting_14 : decode cX7_waiting 14 = .ok (.getfield 35, 3) := by decide +kernel
theorem dX7_waiting_17 : decode cX7_waiting 17 = .ok (.iload_n 2, 1) := by decide +kernel
theorem dX7_waiting_18 : decode cX7_waiting 18 = .ok (.iaload, 1) := by decide +kernel
theorem dX7_waiting_19 : decode cX7_waiting 19 = .ok (.iadd, 1) := by decide +kernel
theorem dX7_waiting_20 : decode cX7_waiting 20 = .ok (.istore_n 1, 1) := by decide +kernel
theorem dX7_waiting_21 : decode cX7_waiting 21 = .ok (.iinc 2 1, 3) := by decide +kernel
theorem dX7_waiting_24 : decode cX7_waiting 24 = .ok (.goto (-20), 3) := by decide +kernel
theorem dX7_waiting_27 : decode cX7_waiting 27 = .ok (.iload_n 1, 1) := by decide +kernel
theorem dX7_waiting_28 : decode cX7_waiting 28 = .ok (.ireturn, 1) := by decide +kernel
theorem kX7_waiting_1 : Cond.fieldLink RX7 65 "BookedDetoursModel" "wayMany" "I" ∈ wsX7_waiting := List.mem_of_getElem? (i := 1) (by decide +kernel)
theorem kX7_waiting_2 : Cond.fieldLink RX7 35 "BookedDetoursModel" "waits" "[I" ∈ wsX7_waiting := List.mem_of_getElem? (i := 2) (by decide +kernel)
theorem hX7_waiting_X7 : ∀ w ∈ u_ws RX7 TX7 26, w ∈ wsX7_waiting := fun _ h => List.mem_cons_of_mem _ (List.mem_append_right _ h)
set_option maxHeartbeats 4000000 in
set_option maxRecDepth 100000 in
theorem w_X7_waiting_4 {Z : yZ} (g : yG) (M : Nat → Nat) (m : MV) (C : yC Z g cX7_waiting 3 wsX7_waiting RX7) {post : Int32 → List va_W → Prop} (HR : yRi Z ({ frames := 0, cells := 0, slots := 0, locals := 0 } : Room) cX7_waiting .int post 0 0) {X4 : Int32 → Int32 → Prop} (hX4 : ∀ (x1 : Int32) (x2 : Int32), X4 x1 x2 → yJ Z ({ frames := 0, cells := 0, slots := 0, locals := 0 } : Room) 0 0 ([modW g M m] : List va_W) 4 [(0, .ref (M 0)), (1, .int x1), (2, .int x2)] []) {K : Int32 → Prop} (hK : ∀ (r0 : Int32), K r0 → post r0 ([modW g M m] : List va_W)) (x1 : Int32) (x2 : Int32) (h : wp_X7_waiting_4 m X4 K x1 x2) : yJ Z ({ frames := 0, cells := 0, slots := 0, locals := 0 } : Room) 0 0 ([modW g M m] : List va_W) 4 [(0, .ref (M 0)), (1, .int x1), (2, .int x2)] [] := by
  unfold wp_X7_waiting_4 at h
  refine y_iload_n C dX7_waiting_4 2 rfl rfl ?_
  refine y_aload_n C dX7_waiting_5 0 rfl rfl ?_
  refine y_get (Cn := RX7) (T := TX7) (N := 26) (v := .int (m.1 10)) C dX7_waiting_6 hX7_waiting_X7 0 (sh_5000 g M m) rfl 10 (Nat.le_of_ble_eq_true rfl) kX7_waiting_1 rfl ?_
  refine y_icmp_ge (tgt := 27) C dX7_waiting_9 rfl h (fun c9 h => ?_) (fun c9 h => ?_)
  · refine y_iload_n C dX7_waiting_27 1 rfl rfl ?_
    exact HR 28 dX7_waiting_28 x1 _ _ _ _ (rfl) (Nat.le_of_ble_eq_true rfl) (Nat.le_of_ble_eq_true rfl) (hK _  h)
  · refine y_iload_n C dX7_waiting_12 1 rfl rfl ?_
    refine y_aload_n C dX7_waiting_13 0 rfl rfl ?_
    refine y_get (Cn := RX7) (T := TX7) (N := 26) (v := .ref (M 9)) C dX7_waiting_14 hX7_waiting_X7 0 (sh_5000 g M m) rfl 12 (Nat.le_of_ble_eq_true rfl) kX7_waiting_2 rfl ?_
    refine y_iload_n C dX7_waiting_17 2 rfl rfl ?_
    obtain ⟨hb1, h⟩ := h
    refine y_iald (N := 36) (f := (m.2 12)) C dX7_waiting_18 9 (sh_5015 g M m) hb1 ?_
    refine y_iadd C dX7_waiting_19 ?_
    refine y_istore_n (lv' := [(1, .int (x1 + ((m.2 12) x2.toNatClampNeg))), (0, .ref (M 0)), (2, .int x2)]) C dX7_waiting_20 rfl (Nat.le_of_ble_eq_true rfl) rfl ?_
    refine y_iinc (v := (x2 + (1 : Int32))) (lv' := [(2, .int (x2 + (1 : Int32))), (1, .int (x1 + ((m.2 12) x2.toNatClampNeg))), (0, .ref (M 0))]) C dX7_waiting_21 2 rfl rfl (Nat.le_of_ble_eq_true rfl) rfl ?_
    refine y_goto (tgt := 4) C dX7_waiting_24 rfl ?_
    refine y_sub (lv' := [(0, .ref (M 0)), (1, .int (x1 + ((m.2 12) x2.toNatClampNeg))), (2, .int (x2 + (1 : Int32)))]) [2, 1, 0] rfl ?_
    exact hX4 _ _ h
set_option maxHeartbeats 4000000 in
set_option maxRecDepth 100000 in
theorem l_X7_waiting {Z : yZ} (g : yG) (M : Nat → Nat) (m : MV) (C : yC Z g cX7_waiting 3 wsX7_waiting RX7) {post : Int32 → List va_W → Prop} (HR : yRi Z ({ frames := 0, cells := 0, slots := 0, locals := 0 } : Room) cX7_waiting .int post 0 0) {K : Int32 → Prop} (hK : ∀ (r0 : Int32), K r0 → post r0 ([modW g M m] : List va_W)) {I4 : Nat → Int32 → Int32 → Prop} (o4 : ∀ (w0 : Nat) (x1 : Int32) (x2 : Int32), I4 w0 x1 x2 → wp_X7_waiting_4 m (fun (x19 : Int32) (x29 : Int32) => ∃ w9, w9 < w0 ∧ I4 w9 x19 x29) K x1 x2) : ∀ w0 : Nat, (∀ (x1 : Int32) (x2 : Int32), I4 w0 x1 x2 → yJ Z ({ frames := 0, cells := 0, slots := 0, locals := 0 } : Room) 0 0 ([modW g M m] : List va_W) 4 [(0, .ref (M 0)), (1, .int x1), (2, .int x2)] []) := by
  intro w0
  induction w0 using Nat.strongRecOn with
  | _ w0 ih =>
    exact fun x1 x2 hi => w_X7_waiting_4 g M m C HR (fun x1 x2 hq => by obtain ⟨w9, hlt, hi⟩ := hq; exact (ih w9 hlt) x1 x2 hi) hK x1 x2 (o4 w0 x1 x2 hi)
set_option maxHeartbeats 4000000 in
set_option maxRecDepth 100000 in
theorem t_X7_waiting (g : yG) (M : Nat → Nat) (m : MV)  {post : Int32 → List va_W → Prop} {K : Int32 → Prop} (hK : ∀ (r0 : Int32), K r0 → post r0 ([modW g M m] : List va_W)) (hPO : PO_X7_waiting m K  ) : yM g yX7_waiting wsX7_waiting ({ frames := 0, cells := 0, slots := 0, locals := 0 } : Room) [.ref (M 0)] ([modW g M m] : List va_W) post 0 0 := by
  refine y_entryI (cc := cX7_waiting) (maxL := 3) (by decide +kernel) rfl (Nat.le_of_ble_eq_true rfl) (fun Z C HR => ?_)
  have C : yC Z g cX7_waiting 3 wsX7_waiting RX7 := C
  obtain ⟨I4, o4, h⟩ := hPO
  have hX4 : ∀ (x1 : Int32) (x2 : Int32), (fun (x19 : Int32) (x29 : Int32) => ∃ w9, I4 w9 x19 x29) x1 x2 → yJ Z ({ frames := 0, cells := 0, slots := 0, locals := 0 } : Room) 0 0 ([modW g M m] : List va_W) 4 [(0, .ref (M 0)), (1, .int x1), (2, .int x2)] [] := by
    intro x1 x2 hq
    obtain ⟨w9, hi⟩ := hq
    exact (l_X7_waiting g M m C HR hK o4 w9) x1 x2 hi
  unfold wp_X7_waiting_0 at h
  show yJ Z _ 0 0 _ 0 [(0, .ref (M 0))] []
  refine y_iconst (v := 0) C dX7_waiting_0 (by decide) ?_
  refine y_istore_n (lv' := [(1, .int (0 : Int32)), (0, .ref (M 0))]) C dX7_waiting_1 rfl (Nat.le_of_ble_eq_true rfl) rfl ?_
  refine y_iconst (v := 0) C dX7_waiting_2 (by decide) ?_
  refine y_istore_n (lv' := [(2, .int (0 : Int32)), (1, .int (0 : Int32)), (0, .ref (M 0))]) C dX7_waiting_3 rfl (Nat.le_of_ble_eq_true rfl) rfl ?_
  refine y_sub (lv' := [(0, .ref (M 0)), (1, .int (0 : Int32)), (2, .int (0 : Int32))]) [2, 1, 0] rfl ?_
  exact hX4 _ _ h
theorem u_X7_waiting (g : yG) (M : Nat → Nat) (m : MV)  {K : Int32 → Prop} (hPO : PO_X7_waiting m K  ) : yM g yX7_waiting wsX7_waiting ({ frames := 0, cells := 0, slots := 0, locals := 0 } : Room) [.ref (M 0)] ([modW g M m] : List va_W) (fun r w => K r ∧ w = ([modW g M m] : List va_W)) 0 0 :=
  t_X7_waiting g M m  (fun r0 hk => ⟨hk, rfl⟩) hPO
