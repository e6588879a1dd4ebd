theorem dX2_signsIn_0 : decode cX2_signsIn 0 = .ok (.iconst 0, 1) := by decide +kernel
theorem dX2_signsIn_1 : decode cX2_signsIn 1 = .ok (.istore_n 2, 1) := by decide +kernel
theorem dX2_signsIn_2 : decode cX2_signsIn 2 = .ok (.iconst 0, 1) := by decide +kernel
theorem dX2_signsIn_3 : decode cX2_signsIn 3 = .ok (.istore_n 3, 1) := by decide +kernel
theorem dX2_signsIn_4 : decode cX2_signsIn 4 = .ok (.iload_n 3, 1) := by decide +kernel
theorem dX2_signsIn_5 : decode cX2_signsIn 5 = .ok (.bipush 64, 2) := by decide +kernel
theorem dX2_signsIn_7 : decode cX2_signsIn 7 = .ok (.if_icmp .ge 49, 3) := by decide +kernel
theorem dX2_signsIn_10 : decode cX2_signsIn 10 = .ok (.lload_n 0, 1) := by decide +kernel
theorem dX2_signsIn_11 : decode cX2_signsIn 11 = .ok (.iload_n 3, 1) := by decide +kernel
theorem dX2_signsIn_12 : decode cX2_signsIn 12 = .ok (.lushr, 1) := by decide +kernel
theorem dX2_signsIn_13 : decode cX2_signsIn 13 = .ok (.lconst 0, 1) := by decide +kernel
theorem dX2_signsIn_14 : decode cX2_signsIn 14 = .ok (.lcmp, 1) := by decide +kernel
theorem dX2_signsIn_15 : decode cX2_signsIn 15 = .ok (.ifCond .ne 6, 3) := by decide +kernel
theorem dX2_signsIn_18 : decode cX2_signsIn 18 = .ok (.goto 38, 3) := by decide +kernel
theorem dX2_signsIn_21 : decode cX2_signsIn 21 = .ok (.lload_n 0, 1) := by decide +kernel
theorem dX2_signsIn_22 : decode cX2_signsIn 22 = .ok (.iload_n 3, 1) := by decide +kernel
theorem dX2_signsIn_23 : decode cX2_signsIn 23 = .ok (.lushr, 1) := by decide +kernel
theorem dX2_signsIn_24 : decode cX2_signsIn 24 = .ok (.l2i, 1) := by decide +kernel
theorem dX2_signsIn_25 : decode cX2_signsIn 25 = .ok (.sipush 255, 3) := by decide +kernel
theorem dX2_signsIn_28 : decode cX2_signsIn 28 = .ok (.iand, 1) := by decide +kernel
theorem dX2_signsIn_29 : decode cX2_signsIn 29 = .ok (.istore 4, 2) := by decide +kernel
theorem dX2_signsIn_31 : decode cX2_signsIn 31 = .ok (.iload 4, 2) := by decide +kernel
theorem dX2_signsIn_33 : decode cX2_signsIn 33 = .ok (.bipush 33, 2) := by decide +kernel
theorem dX2_signsIn_35 : decode cX2_signsIn 35 = .ok (.if_icmp .lt 10, 3) := by decide +kernel
theorem dX2_signsIn_38 : decode cX2_signsIn 38 = .ok (.iload 4, 2) := by decide +kernel
theorem dX2_signsIn_40 : decode cX2_signsIn 40 = .ok (.bipush 126, 2) := by decide +kernel
theorem dX2_signsIn_42 : decode cX2_signsIn 42 = .ok (.if_icmp .le 5, 3) := by decide +kernel
theorem dX2_signsIn_45 : decode cX2_signsIn 45 = .ok (.iconst 0, 1) := by decide +kernel
theorem dX2_signsIn_46 : decode cX2_signsIn 46 = .ok (.ireturn, 1) := by decide +kernel
theorem dX2_signsIn_47 : decode cX2_signsIn 47 = .ok (.iinc 2 1, 3) := by decide +kernel
theorem dX2_signsIn_50 : decode cX2_signsIn 50 = .ok (.iinc 3 8, 3) := by decide +kernel
theorem dX2_signsIn_53 : decode cX2_signsIn 53 = .ok (.goto (-49), 3) := by decide +kernel
theorem dX2_signsIn_56 : decode cX2_signsIn 56 = .ok (.iload_n 2, 1) := by decide +kernel
theorem dX2_signsIn_57 : decode cX2_signsIn 57 = .ok (.ireturn, 1) := by decide +kernel
set_option maxHeartbeats 4000000 in
set_option maxRecDepth 100000 in
theorem w_X2_signsIn_4 {Z : yZ} (g : yG) (cs : Int64) (C : yC Z g cX2_signsIn 5 wsX2_signsIn RX2) {post : Int32 → List va_W → Prop} (HR : yRi Z ({ frames := 0, cells := 0, slots := 0, locals := 0 } : Room) cX2_signsIn .int post 0 0) {X4 : Int32 → Int32 → Prop} (hX4 : ∀ (x2 : Int32) (x3 : Int32), X4 x2 x3 → yJ Z ({ frames := 0, cells := 0, slots := 0, locals := 0 } : Room) 0 0 ([] : List va_W) 4 [(0, .long cs), (2, .int x2), (3, .int x3)] []) {K : Int32 → Prop} (hK : ∀ (r0 : Int32), K r0 → post r0 ([] : List va_W)) (x2 : Int32) (x3 : Int32) (h : wp_X2_signsIn_4 cs X4 K x2 x3) : yJ Z ({ frames := 0, cells := 0, slots := 0, locals := 0 } : Room) 0 0 ([] : List va_W) 4 [(0, .long cs), (2, .int x2), (3, .int x3)] [] := by
  unfold wp_X2_signsIn_4 at h
  refine y_iload_n C dX2_signsIn_4 2 rfl rfl ?_
  refine y_bipush (v := 64) C dX2_signsIn_5 (by decide) ?_
  refine y_icmp_ge (tgt := 56) C dX2_signsIn_7 rfl h (fun c7 h => ?_) (fun c7 h => ?_)
  · refine y_iload_n C dX2_signsIn_56 1 rfl rfl ?_
    exact HR 57 dX2_signsIn_57 x2 _ _ _ _ (rfl) (Nat.le_of_ble_eq_true rfl) (Nat.le_of_ble_eq_true rfl) (hK _  h)
  · refine y_lload_n C dX2_signsIn_10 0 rfl rfl ?_
    refine y_iload_n C dX2_signsIn_11 2 rfl rfl ?_
    refine y_lushr C dX2_signsIn_12 rfl ?_
    refine y_lconst (v := 0) C dX2_signsIn_13 (by decide) ?_
    refine y_lcmp C dX2_signsIn_14 ?_
    refine y_if_ne (tgt := 21) C dX2_signsIn_15 rfl h (fun c15 h => ?_) (fun c15 h => ?_)
    · refine y_lload_n C dX2_signsIn_21 0 rfl rfl ?_
      refine y_iload_n C dX2_signsIn_22 2 rfl rfl ?_
      refine y_lushr C dX2_signsIn_23 rfl ?_
      refine y_l2i C dX2_signsIn_24 rfl ?_
      refine y_sipush (v := 255) C dX2_signsIn_25 (by decide) ?_
      refine y_iand C dX2_signsIn_28 ?_
      refine y_istore (lv' := [(4, .int (((cs.toUInt64 >>> (x3.toInt64.toUInt64 &&& Int64.toUInt64 63)).toInt64).toInt32 &&& (255 : Int32))), (0, .long cs), (2, .int x2), (3, .int x3)]) C dX2_signsIn_29 (Nat.le_of_ble_eq_true rfl) rfl ?_
      refine y_iload C dX2_signsIn_31 0 rfl ?_
      refine y_bipush (v := 33) C dX2_signsIn_33 (by decide) ?_
      refine y_icmp_lt (tgt := 45) C dX2_signsIn_35 rfl h (fun c35 h => ?_) (fun c35 h => ?_)
      · refine y_iconst (v := 0) C dX2_signsIn_45 (by decide) ?_
        exact HR 46 dX2_signsIn_46 (0 : Int32) _ _ _ _ (rfl) (Nat.le_of_ble_eq_true rfl) (Nat.le_of_ble_eq_true rfl) (hK _  h)
      · refine y_iload C dX2_signsIn_38 0 rfl ?_
        refine y_bipush (v := 126) C dX2_signsIn_40 (by decide) ?_
        refine y_icmp_le (tgt := 47) C dX2_signsIn_42 rfl h (fun c42 h => ?_) (fun c42 h => ?_)
        · refine y_iinc (v := (x2 + (1 : Int32))) (lv' := [(2, .int (x2 + (1 : Int32))), (4, .int (((cs.toUInt64 >>> (x3.toInt64.toUInt64 &&& Int64.toUInt64 63)).toInt64).toInt32 &&& (255 : Int32))), (0, .long cs), (3, .int x3)]) C dX2_signsIn_47 2 rfl rfl (Nat.le_of_ble_eq_true rfl) rfl ?_
          refine y_iinc (v := (x3 + (8 : Int32))) (lv' := [(3, .int (x3 + (8 : Int32))), (2, .int (x2 + (1 : Int32))), (4, .int (((cs.toUInt64 >>> (x3.toInt64.toUInt64 &&& Int64.toUInt64 63)).toInt64).toInt32 &&& (255 : Int32))), (0, .long cs)]) C dX2_signsIn_50 3 rfl rfl (Nat.le_of_ble_eq_true rfl) rfl ?_
          refine y_goto (tgt := 4) C dX2_signsIn_53 rfl ?_
          refine y_sub (lv' := [(0, .long cs), (2, .int (x2 + (1 : Int32))), (3, .int (x3 + (8 : Int32)))]) [3, 1, 0] rfl ?_
          exact hX4 _ _ h
        · refine y_iconst (v := 0) C dX2_signsIn_45 (by decide) ?_
          exact HR 46 dX2_signsIn_46 (0 : Int32) _ _ _ _ (rfl) (Nat.le_of_ble_eq_true rfl) (Nat.le_of_ble_eq_true rfl) (hK _  h)
    · refine y_goto (tgt := 56) C dX2_signsIn_18 rfl ?_
      refine y_iload_n C dX2_signsIn_56 1 rfl rfl ?_
      exact HR 57 dX2_signsIn_57 x2 _ _ _ _ (rfl) (Nat.le_of_ble_eq_true rfl) (Nat.le_of_ble_eq_true rfl) (hK _  h)
set_option maxHeartbeats 4000000 in
set_option maxRecDepth 100000 in
theorem l_X2_signsIn {Z : yZ} (g : yG) (cs : Int64) (C : yC Z g cX2_signsIn 5 wsX2_signsIn RX2) {post : Int32 → List va_W → Prop} (HR : yRi Z ({ frames := 0, cells := 0, slots := 0, locals := 0 } : Room) cX2_signsIn .int post 0 0) {K : Int32 → Prop} (hK : ∀ (r0 : Int32), K r0 → post r0 ([] : List va_W)) {I4 : Nat → Int32 → Int32 → Prop} (o4 : ∀ (w0 : Nat) (x2 : Int32) (x3 : Int32), I4 w0 x2 x3 → wp_X2_signsIn_4 cs (fun (x29 : Int32) (x39 : Int32) => ∃ w9, w9 < w0 ∧ I4 w9 x29 x39) K x2 x3) : ∀ w0 : Nat, (∀ (x2 : Int32) (x3 : Int32), I4 w0 x2 x3 → yJ Z ({ frames := 0, cells := 0, slots := 0, locals := 0 } : Room) 0 0 ([] : List va_W) 4 [(0, .long cs), (2, .int x2), (3, .int x3)] []) := by
  intro w0
  induction w0 using Nat.strongRecOn with
  | _ w0 ih =>
    exact fun x2 x3 hi => w_X2_signsIn_4 g cs C HR (fun x2 x3 hq => by obtain ⟨w9, hlt, hi⟩ := hq; exact (ih w9 hlt) x2 x3 hi) hK x2 x3 (o4 w0 x2 x3 hi)
set_option maxHeartbeats 4000000 in
set_option maxRecDepth 100000 in
theorem t_X2_signsIn (g : yG)  (cs : Int64) {post : Int32 → List va_W → Prop} {K : Int32 → Prop} (hK : ∀ (r0 : Int32), K r0 → post r0 ([] : List va_W)) (hPO : PO_X2_signsIn cs K  ) : yM g yX2_signsIn wsX2_signsIn ({ frames := 0, cells := 0, slots := 0, locals := 0 } : Room) [.long cs] ([] : List va_W) post 0 0 := by
  refine y_entryI (cc := cX2_signsIn) (maxL := 5) (by decide +kernel) rfl (Nat.le_of_ble_eq_true rfl) (fun Z C HR => ?_)
  have C : yC Z g cX2_signsIn 5 wsX2_signsIn RX2 := C
  obtain ⟨I4, o4, h⟩ := hPO
  have hX4 : ∀ (x2 : Int32) (x3 : Int32), (fun (x29 : Int32) (x39 : Int32) => ∃ w9, I4 w9 x29 x39) x2 x3 → yJ Z ({ frames := 0, cells := 0, slots := 0, locals := 0 } : Room) 0 0 ([] : List va_W) 4 [(0, .long cs), (2, .int x2), (3, .int x3)] [] := by
    intro x2 x3 hq
    obtain ⟨w9, hi⟩ := hq
    exact (l_X2_signsIn g cs C HR hK o4 w9) x2 x3 hi
  unfold wp_X2_signsIn_0 at h
  show yJ Z _ 0 0 _ 0 [(0, .long cs)] []
  refine y_iconst (v := 0) C dX2_signsIn_0 (by decide) ?_
  refine y_istore_n (lv' := [(2, .int (0 : Int32)), (0, .long cs)]) C dX2_signsIn_1 rfl (Nat.le_of_ble_eq_true rfl) rfl ?_
  refine y_iconst (v := 0) C dX2_signsIn_2 (by decide) ?_
  refine y_istore_n (lv' := [(3, .int (0 : Int32)), (2, .int (0 : Int32)), (0, .long cs)]) C dX2_signsIn_3 rfl (Nat.le_of_ble_eq_true rfl) rfl ?_
  refine y_sub (lv' := [(0, .long cs), (2, .int (0 : Int32)), (3, .int (0 : Int32))]) [2, 1, 0] rfl ?_
  exact hX4 _ _ h
set_option maxHeartbeats 4000000 in
set_option maxRecDepth 100000 in
theorem c_X2_signsIn (g : yG)  (cs : Int64)  : yM g yX2_signsIn wsX2_signsIn ({ frames := 0, cells := 0, slots := 0, locals := 0 } : Room) [.long cs] ([] : List va_W) (fun r w => r = (fSigns cs) ∧ w = ([] : List va_W)) 0 0 :=
  t_X2_signsIn g  cs (K := (fun (r1 : Int32) => r1 = (fSigns cs))) (fun r1 e0 => ⟨e0, rfl⟩) p_X2_signsIn
theorem dX2_append_0 : decode cX2_append 0 = .ok (.iload_n 3, 1) := by decide +kernel
theorem dX2_append_1 : decode cX2_append 1 = .ok (.iconst 1, 1) := by decide +kernel
theorem dX2_append_2 : decode cX2_append 2 = .ok (.isub, 1) := by decide +kernel
theorem dX2_append_3 : decode cX2_append 3 = .ok (.istore 4, 2) := by decide +kernel
theorem dX2_append_5 : decode cX2_append 5 = .ok (.iload 4, 2) := by decide +kernel
theorem dX2_append_7 : decode cX2_append 7 = .ok (.ifCond .lt 28, 3) := by decide +kernel
theorem dX2_append_10 : decode cX2_append 10 = .ok (.aload_n 0, 1) := by decide +kernel
theorem dX2_append_11 : decode cX2_append 11 = .ok (.getfield 14, 3) := by decide +kernel
theorem dX2_append_14 : decode cX2_append 14 = .ok (.lload_n 1, 1) := by decide +kernel
theorem dX2_append_15 : decode cX2_append 15 = .ok (.bipush 8, 2) := by decide +kernel
theorem dX2_append_17 : decode cX2_append 17 = .ok (.iload 4, 2) := by decide +kernel
theorem dX2_append_19 : decode cX2_append 19 = .ok (.imul, 1) := by decide +kernel
theorem dX2_append_20 : decode cX2_append 20 = .ok (.lushr, 1) := by decide +kernel
theorem dX2_append_21 : decode cX2_append 21 = .ok (.l2i, 1) := by decide +kernel
theorem dX2_append_22 : decode cX2_append 22 = .ok (.sipush 255, 3) := by decide +kernel
theorem dX2_append_25 : decode cX2_append 25 = .ok (.iand, 1) := by decide +kernel
theorem dX2_append_26 : decode cX2_append 26 = .ok (.invokevirtual 23, 3) := by decide +kernel
theorem dX2_append_29 : decode cX2_append 29 = .ok (.iinc 4 (-1), 3) := by decide +kernel
theorem dX2_append_32 : decode cX2_append 32 = .ok (.goto (-27), 3) := by decide +kernel
theorem dX2_append_35 : decode cX2_append 35 = .ok (.return_, 1) := by decide +kernel
set_option maxRecDepth 20000 in
theorem ggX2_append_X3_add : GoodIn wsX2_append wsX3_add := goodIn_r _ [6, 7, 8, 9, 10, 5, 11, 12, 15, 16] (by decide +kernel) (by decide +kernel)
set_option maxRecDepth 20000 in
theorem gX2_append_X3_add : GoodIn wsX2_append (wsV RX2 23 RX3 yX3_add wsX3_add) := goodIn_app (goodIn_of _ (by decide +kernel)) ggX2_append_X3_add
theorem kX2_append_1 : Cond.fieldLink RX2 14 "BookedDetours$Pad" "signs" "LBookedDetours$Row;" ∈ wsX2_append := List.mem_of_getElem? (i := 1) (by decide +kernel)
theorem hX2_append_X2 : ∀ w ∈ u_ws RX2 TX2 2, w ∈ wsX2_append := fun _ h => List.mem_cons_of_mem _ (List.mem_append_left _ (List.mem_append_right _ h))
set_option maxHeartbeats 4000000 in
set_option maxRecDepth 100000 in
theorem w_X2_append_5 {Z : yZ} (g : yG) (P : Nat → Nat) (cs : Int64) (mo : Int32) (C : yC Z g cX2_append 5 wsX2_append RX2) {post : List va_W → Prop} (HR : yRv Z ({ frames := 2, cells := 0, slots := 0, locals := 44 } : Room) cX2_append post 0 0) {X5 : RV → Int32 → Prop} (hX5 : ∀ (p : RV) (x4 : Int32) (GP : Nat → Nat → Int32), X5 p x4 → yJ Z ({ frames := 2, cells := 0, slots := 0, locals := 44 } : Room) 0 0 ([padC P p] ++ padR g P p GP : List va_W) 5 [(0, .ref (P 0)), (1, .long cs), (4, .int x4)] []) {K : RV → Prop} (hK : ∀ (p : RV) (GP : Nat → Nat → Int32), K p → post ([padC P p] ++ padR g P p GP : List va_W)) (p : RV) (x4 : Int32) (GP : Nat → Nat → Int32) (h : wp_X2_append_5 cs mo X5 K p x4) : yJ Z ({ frames := 2, cells := 0, slots := 0, locals := 44 } : Room) 0 0 ([padC P p] ++ padR g P p GP : List va_W) 5 [(0, .ref (P 0)), (1, .long cs), (4, .int x4)] [] := by
  unfold wp_X2_append_5 at h
  refine y_iload C dX2_append_5 2 rfl ?_
  refine y_if_lt (tgt := 35) C dX2_append_7 rfl h (fun c7 h => ?_) (fun c7 h => ?_)
  · exact HR 35 dX2_append_35 _ _ _ _ (Nat.le_of_ble_eq_true rfl) (Nat.le_of_ble_eq_true rfl) (hK _ _ h)
  · refine y_aload_n C dX2_append_10 0 rfl rfl ?_
    refine y_get (Cn := RX2) (T := TX2) (N := 2) (v := .ref (P 1)) C dX2_append_11 hX2_append_X2 0 (sh_134 g P p GP) rfl 0 (Nat.le_of_ble_eq_true rfl) kX2_append_1 rfl ?_
    refine y_lload_n C dX2_append_14 1 rfl rfl ?_
    refine y_bipush (v := 8) C dX2_append_15 (by decide) ?_
    refine y_iload C dX2_append_17 2 rfl ?_
    refine y_imul C dX2_append_19 ?_
    refine y_lushr C dX2_append_20 rfl ?_
    refine y_l2i C dX2_append_21 rfl ?_
    refine y_sipush (v := 255) C dX2_append_22 (by decide) ?_
    refine y_iand C dX2_append_25 ?_
    refine y_callVv (As := [.int (((cs.toUInt64 >>> (((8 : Int32) * x4).toInt64.toUInt64 &&& Int64.toUInt64 63)).toInt64).toInt32 &&& (255 : Int32))]) (rest := []) C dX2_append_26 (c_X3_add g (P 1) (P 2) 60 (p.1 0) (GP 0) (((cs.toUInt64 >>> (((8 : Int32) * x4).toInt64.toUInt64 &&& Int64.toUInt64 63)).toInt64).toInt32 &&& (255 : Int32)) (by decide)) rfl rfl rfl rfl ⟨Nat.le_of_ble_eq_true rfl, Nat.le_of_ble_eq_true rfl⟩ gX2_append_X3_add (nA := 1) (by decide +kernel) rfl (rowW_recv ⟨_, rfl⟩) (Nat.le_of_ble_eq_true rfl) ⟨Nat.le_of_ble_eq_true rfl, Nat.le_of_ble_eq_true rfl⟩ [1] [0, 2] (nB := 3) rfl (by decide +kernel) (sh_135 g P p GP) (fun w9 hw => ?_)
    obtain ⟨y1, G2, e3, rfl⟩ := hw
    obtain ⟨p4, ep4⟩ : ∃ z : RV, z = rvR p 0 y1 := ⟨_, rfl⟩
    obtain ⟨G5, eG5⟩ : ∃ z : Nat → Nat → Int32, z = gs GP 0 G2 := ⟨_, rfl⟩
    have h := y_letP h (show p4 = rvR p 0 (rAdd 60 (p.1 0) (((cs.toUInt64 >>> (((8 : Int32) * x4).toInt64.toUInt64 &&& Int64.toUInt64 63)).toInt64).toInt32 &&& (255 : Int32))) by rw [ep4, e3])
    refine ⟨([padC P p4] ++ padR g P p4 G5 : List va_W), (sh_136 g P p GP y1 G2 p4 G5 ep4 eG5), ?_⟩
    refine y_iinc (v := (x4 + (-1 : Int32))) (lv' := [(4, .int (x4 + (-1 : Int32))), (0, .ref (P 0)), (1, .long cs)]) C dX2_append_29 2 rfl rfl (Nat.le_of_ble_eq_true rfl) rfl ?_
    refine y_goto (tgt := 5) C dX2_append_32 rfl ?_
    refine y_sub (lv' := [(0, .ref (P 0)), (1, .long cs), (4, .int (x4 + (-1 : Int32)))]) [1, 2, 0] rfl ?_
    exact hX5 _ _ _ h
set_option maxHeartbeats 4000000 in
set_option maxRecDepth 100000 in
theorem l_X2_append {Z : yZ} (g : yG) (P : Nat → Nat) (cs : Int64) (mo : Int32) (C : yC Z g cX2_append 5 wsX2_append RX2) {post : List va_W → Prop} (HR : yRv Z ({ frames := 2, cells := 0, slots := 0, locals := 44 } : Room) cX2_append post 0 0) {K : RV → Prop} (hK : ∀ (p : RV) (GP : Nat → Nat → Int32), K p → post ([padC P p] ++ padR g P p GP : List va_W)) {I5 : Nat → RV → Int32 → Prop} (o5 : ∀ (w0 : Nat) (p : RV) (x4 : Int32), I5 w0 p x4 → wp_X2_append_5 cs mo (fun (p9 : RV) (x49 : Int32) => ∃ w9, w9 < w0 ∧ I5 w9 p9 x49) K p x4) : ∀ w0 : Nat, (∀ (p : RV) (x4 : Int32) (GP : Nat → Nat → Int32), I5 w0 p x4 → yJ Z ({ frames := 2, cells := 0, slots := 0, locals := 44 } : Room) 0 0 ([padC P p] ++ padR g P p GP : List va_W) 5 [(0, .ref (P 0)), (1, .long cs), (4, .int x4)] []) := by
  intro w0
  induction w0 using Nat.strongRecOn with
  | _ w0 ih =>
    exact fun p x4 GP hi => w_X2_append_5 g P cs mo C HR (fun p x4 GP hq => by obtain ⟨w9, hlt, hi⟩ := hq; exact (ih w9 hlt) p x4 GP hi) hK p x4 GP (o5 w0 p x4 hi)
set_option maxHeartbeats 4000000 in
set_option maxRecDepth 100000 in
theorem t_X2_append (g : yG) (P : Nat → Nat) (p : RV) (GP : Nat → Nat → Int32) (cs : Int64) (mo : Int32) {post : List va_W → Prop} {K : RV → Prop} (hK : ∀ (p : RV) (GP : Nat → Nat → Int32), K p → post ([padC P p] ++ padR g P p GP : List va_W)) (hPO : PO_X2_append cs mo K p ) : yMv g yX2_append wsX2_append ({ frames := 2, cells := 0, slots := 0, locals := 44 } : Room) [.ref (P 0), .long cs, .int mo] ([padC P p] ++ padR g P p GP : List va_W) post 0 0 := by
  refine y_entryV (cc := cX2_append) (maxL := 5) (by decide +kernel) rfl (Nat.le_of_ble_eq_true rfl) (fun Z C _ HR => ?_)
  have C : yC Z g cX2_append 5 wsX2_append RX2 := C
  obtain ⟨I5, o5, h⟩ := hPO
  have hX5 : ∀ (p : RV) (x4 : Int32) (GP : Nat → Nat → Int32), (fun (p9 : RV) (x49 : Int32) => ∃ w9, I5 w9 p9 x49) p x4 → yJ Z ({ frames := 2, cells := 0, slots := 0, locals := 44 } : Room) 0 0 ([padC P p] ++ padR g P p GP : List va_W) 5 [(0, .ref (P 0)), (1, .long cs), (4, .int x4)] [] := by
    intro p x4 GP hq
    obtain ⟨w9, hi⟩ := hq
    exact (l_X2_append g P cs mo C HR hK o5 w9) p x4 GP hi
  unfold wp_X2_append_0 at h
  show yJ Z _ 0 0 _ 0 [(0, .ref (P 0)), (1, .long cs), (3, .int mo)] []
  refine y_iload_n C dX2_append_0 2 rfl rfl ?_
  refine y_iconst (v := 1) C dX2_append_1 (by decide) ?_
  refine y_isub C dX2_append_2 ?_
  refine y_istore (lv' := [(4, .int (mo - (1 : Int32))), (0, .ref (P 0)), (1, .long cs), (3, .int mo)]) C dX2_append_3 (Nat.le_of_ble_eq_true rfl) rfl ?_
  refine y_sub (lv' := [(0, .ref (P 0)), (1, .long cs), (4, .int (mo - (1 : Int32)))]) [1, 2, 0] rfl ?_
  exact hX5 _ _ _ h
set_option maxHeartbeats 4000000 in
set_option maxRecDepth 100000 in
theorem c_X2_append (g : yG) (P : Nat → Nat) (p : RV) (GP : Nat → Nat → Int32) (cs : Int64) (mo : Int32) (hmo : ∃ cs9 : Int64, mo = fSigns cs9) : yMv g yX2_append wsX2_append ({ frames := 2, cells := 0, slots := 0, locals := 44 } : Room) [.ref (P 0), .long cs, .int mo] ([padC P p] ++ padR g P p GP : List va_W) (fun w => ∃ p' : RV, ∃ GP' : Nat → Nat → Int32, p' = (rvR p 0 (fApp cs mo (p.1 0))) ∧ w = ([padC P p'] ++ padR g P p' GP' : List va_W)) 0 0 :=
  t_X2_append g P p GP cs mo (K := (fun (p1 : RV) => p1 = (rvR p 0 (fApp cs mo (p.1 0))))) (fun p1 GP1 e0 => ⟨p1, GP1, e0, rfl⟩) (p_X2_append hmo)
