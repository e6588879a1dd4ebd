theorem dX7_in_0 : decode cX7_in 0 = .ok (.iload_n 0, 1) := by decide +kernel
theorem dX7_in_1 : decode cX7_in 1 = .ok (.iload_n 1, 1) := by decide +kernel
theorem dX7_in_2 : decode cX7_in 2 = .ok (.if_icmp .lt 12, 3) := by decide +kernel
theorem dX7_in_5 : decode cX7_in 5 = .ok (.iload_n 0, 1) := by decide +kernel
theorem dX7_in_6 : decode cX7_in 6 = .ok (.iload_n 2, 1) := by decide +kernel
theorem dX7_in_7 : decode cX7_in 7 = .ok (.if_icmp .gt 7, 3) := by decide +kernel
theorem dX7_in_10 : decode cX7_in 10 = .ok (.iconst 1, 1) := by decide +kernel
theorem dX7_in_11 : decode cX7_in 11 = .ok (.goto 4, 3) := by decide +kernel
theorem dX7_in_14 : decode cX7_in 14 = .ok (.iconst 0, 1) := by decide +kernel
theorem dX7_in_15 : decode cX7_in 15 = .ok (.ireturn, 1) := by decide +kernel
set_option maxHeartbeats 4000000 in
set_option maxRecDepth 100000 in
theorem c_X7_in (g : yG)  (v : Int32) (lo : Int32) (hi : Int32) : yM g yX7_in wsX7_in ({ frames := 0, cells := 0, slots := 0, locals := 0 } : Room) [.int v, .int lo, .int hi] ([] : List va_W) (fun r w => r = (f_X7_in v lo hi) ∧ w = ([] : List va_W)) 0 0 := by
  refine y_entryI (cc := cX7_in) (maxL := 3) (by decide +kernel) rfl (Nat.le_of_ble_eq_true rfl) (fun Z C HR => ?_)
  have C : yC Z g cX7_in 3 wsX7_in RX7 := C
  have h := f_X7_in.eq_1 v lo hi
  show yJ Z _ 0 0 _ 0 [(0, .int v), (1, .int lo), (2, .int hi)] []
  refine y_iload_n C dX7_in_0 0 rfl rfl ?_
  refine y_iload_n C dX7_in_1 1 rfl rfl ?_
  refine y_icmp_lt (tgt := 14) C dX7_in_2 rfl (y_e h) (fun c2 h => ?_) (fun c2 h => ?_)
  · refine y_iconst (v := 0) C dX7_in_14 (by decide) ?_
    exact HR 15 dX7_in_15 (0 : Int32) _ _ _ _ (rfl) (Nat.le_of_ble_eq_true rfl) (Nat.le_of_ble_eq_true rfl) ⟨by rw [h], rfl⟩
  · refine y_iload_n C dX7_in_5 0 rfl rfl ?_
    refine y_iload_n C dX7_in_6 2 rfl rfl ?_
    refine y_icmp_gt (tgt := 14) C dX7_in_7 rfl (y_e h) (fun c7 h => ?_) (fun c7 h => ?_)
    · refine y_iconst (v := 0) C dX7_in_14 (by decide) ?_
      exact HR 15 dX7_in_15 (0 : Int32) _ _ _ _ (rfl) (Nat.le_of_ble_eq_true rfl) (Nat.le_of_ble_eq_true rfl) ⟨by rw [h], rfl⟩
    · refine y_iconst (v := 1) C dX7_in_10 (by decide) ?_
      refine y_goto (tgt := 15) C dX7_in_11 rfl ?_
      exact HR 15 dX7_in_15 (1 : Int32) _ _ _ _ (rfl) (Nat.le_of_ble_eq_true rfl) (Nat.le_of_ble_eq_true rfl) ⟨by rw [h], rfl⟩
theorem dX7_isStop_0 : decode cX7_isStop 0 = .ok (.iload_n 1, 1) := by decide +kernel
theorem dX7_isStop_1 : decode cX7_isStop 1 = .ok (.iconst 0, 1) := by decide +kernel
theorem dX7_isStop_2 : decode cX7_isStop 2 = .ok (.aload_n 0, 1) := by decide +kernel
theorem dX7_isStop_3 : decode cX7_isStop 3 = .ok (.getfield 7, 3) := by decide +kernel
theorem dX7_isStop_6 : decode cX7_isStop 6 = .ok (.iconst 3, 1) := by decide +kernel
theorem dX7_isStop_7 : decode cX7_isStop 7 = .ok (.iaload, 1) := by decide +kernel
theorem dX7_isStop_8 : decode cX7_isStop 8 = .ok (.iconst 1, 1) := by decide +kernel
theorem dX7_isStop_9 : decode cX7_isStop 9 = .ok (.isub, 1) := by decide +kernel
theorem dX7_isStop_10 : decode cX7_isStop 10 = .ok (.invokestatic 48, 3) := by decide +kernel
theorem dX7_isStop_13 : decode cX7_isStop 13 = .ok (.ireturn, 1) := by decide +kernel
set_option maxRecDepth 20000 in
theorem ggX7_isStop_X7_in : GoodIn wsX7_isStop wsX7_in := goodIn_r _ [5] (by decide +kernel) (by decide +kernel)
set_option maxRecDepth 20000 in
theorem gX7_isStop_X7_in : GoodIn wsX7_isStop (va_wsS RX7 48 yX7_in wsX7_in) := goodIn_app (goodIn_of _ (by decide +kernel)) ggX7_isStop_X7_in
theorem kX7_isStop_1 : Cond.fieldLink RX7 7 "BookedDetoursModel" "s" "[I" ∈ wsX7_isStop := List.mem_of_getElem? (i := 1) (by decide +kernel)
theorem hX7_isStop_X7 : ∀ w ∈ u_ws RX7 TX7 26, w ∈ wsX7_isStop := fun _ h => List.mem_cons_of_mem _ (List.mem_append_right _ h)
set_option maxHeartbeats 4000000 in
set_option maxRecDepth 100000 in
theorem t_X7_isStop (g : yG) (M : Nat → Nat) (m : MV) (st : Int32) {post : Int32 → List va_W → Prop} {K : Int32 → Prop} (hK : ∀ (r0 : Int32), K r0 → post r0 ([modW g M m] : List va_W)) (hPO : PO_X7_isStop m st K  ) : yM g yX7_isStop wsX7_isStop ({ frames := 1, cells := 0, slots := 0, locals := 22 } : Room) [.ref (M 0), .int st] ([modW g M m] : List va_W) post 0 0 := by
  refine y_entryI (cc := cX7_isStop) (maxL := 2) (by decide +kernel) rfl (Nat.le_of_ble_eq_true rfl) (fun Z C HR => ?_)
  have C : yC Z g cX7_isStop 2 wsX7_isStop RX7 := C
  have h := hPO
  unfold PO_X7_isStop wp_X7_isStop_0 at h
  show yJ Z _ 0 0 _ 0 [(0, .ref (M 0)), (1, .int st)] []
  refine y_iload_n C dX7_isStop_0 1 rfl rfl ?_
  refine y_iconst (v := 0) C dX7_isStop_1 (by decide) ?_
  refine y_aload_n C dX7_isStop_2 0 rfl rfl ?_
  refine y_get (Cn := RX7) (T := TX7) (N := 26) (v := .ref (M 1)) C dX7_isStop_3 hX7_isStop_X7 0 (sh_5000 g M m) rfl 1 (Nat.le_of_ble_eq_true rfl) kX7_isStop_1 rfl ?_
  refine y_iconst (v := 3) C dX7_isStop_6 (by decide) ?_
  obtain ⟨hb1, h⟩ := h
  refine y_iald (N := 186) (f := (m.2 1)) C dX7_isStop_7 1 (sh_5001 g M m) hb1 ?_
  refine y_iconst (v := 1) C dX7_isStop_8 (by decide) ?_
  refine y_isub C dX7_isStop_9 ?_
  refine y_callS (As := [.int st, .int (0 : Int32), .int (((m.2 1) (3 : Int32).toNatClampNeg) - (1 : Int32))]) (rest := []) C dX7_isStop_10 (c_X7_in g st (0 : Int32) (((m.2 1) (3 : Int32).toNatClampNeg) - (1 : Int32))) rfl rfl rfl rfl ⟨Nat.le_of_ble_eq_true rfl, Nat.le_of_ble_eq_true rfl⟩ gX7_isStop_X7_in (nA := 3) (by decide +kernel) rfl (Nat.le_of_ble_eq_true rfl) ⟨Nat.le_of_ble_eq_true rfl, Nat.le_of_ble_eq_true rfl⟩ [] [0] (nB := 1) rfl (by decide +kernel) (sh_5002 g M m) (fun r2 w9 hw => ?_)
  obtain ⟨er2, rfl⟩ := hw
  have h := y_letP h er2
  refine ⟨([modW g M m] : List va_W), ⟨(sh_5002 g M m), rfl, rfl⟩, ?_⟩
  exact HR 13 dX7_isStop_13 r2 _ _ _ _ ((by rw [er2]; exact nb_in _ _ _)) (Nat.le_of_ble_eq_true rfl) (Nat.le_of_ble_eq_true rfl) (hK _  h)
theorem u_X7_isStop (g : yG) (M : Nat → Nat) (m : MV) (st : Int32) {K : Int32 → Prop} (hPO : PO_X7_isStop m st K  ) : yM g yX7_isStop wsX7_isStop ({ frames := 1, cells := 0, slots := 0, locals := 22 } : Room) [.ref (M 0), .int st] ([modW g M m] : List va_W) (fun r w => K r ∧ w = ([modW g M m] : List va_W)) 0 0 :=
  t_X7_isStop g M m st (fun r0 hk => ⟨hk, rfl⟩) hPO
theorem dX7_isRide_0 : decode cX7_isRide 0 = .ok (.iload_n 1, 1) := by decide +kernel
theorem dX7_isRide_1 : decode cX7_isRide 1 = .ok (.iconst 0, 1) := by decide +kernel
theorem dX7_isRide_2 : decode cX7_isRide 2 = .ok (.aload_n 0, 1) := by decide +kernel
theorem dX7_isRide_3 : decode cX7_isRide 3 = .ok (.getfield 7, 3) := by decide +kernel
theorem dX7_isRide_6 : decode cX7_isRide 6 = .ok (.iconst 4, 1) := by decide +kernel
theorem dX7_isRide_7 : decode cX7_isRide 7 = .ok (.iaload, 1) := by decide +kernel
theorem dX7_isRide_8 : decode cX7_isRide 8 = .ok (.iconst 1, 1) := by decide +kernel
theorem dX7_isRide_9 : decode cX7_isRide 9 = .ok (.isub, 1) := by decide +kernel
theorem dX7_isRide_10 : decode cX7_isRide 10 = .ok (.invokestatic 48, 3) := by decide +kernel
theorem dX7_isRide_13 : decode cX7_isRide 13 = .ok (.ireturn, 1) := by decide +kernel
set_option maxRecDepth 20000 in
theorem ggX7_isRide_X7_in : GoodIn wsX7_isRide wsX7_in := goodIn_r _ [5] (by decide +kernel) (by decide +kernel)
set_option maxRecDepth 20000 in
theorem gX7_isRide_X7_in : GoodIn wsX7_isRide (va_wsS RX7 48 yX7_in wsX7_in) := goodIn_app (goodIn_of _ (by decide +kernel)) ggX7_isRide_X7_in
theorem kX7_isRide_1 : Cond.fieldLink RX7 7 "BookedDetoursModel" "s" "[I" ∈ wsX7_isRide := List.mem_of_getElem? (i := 1) (by decide +kernel)
theorem hX7_isRide_X7 : ∀ w ∈ u_ws RX7 TX7 26, w ∈ wsX7_isRide := fun _ h => List.mem_cons_of_mem _ (List.mem_append_right _ h)
set_option maxHeartbeats 4000000 in
set_option maxRecDepth 100000 in
theorem t_X7_isRide (g : yG) (M : Nat → Nat) (m : MV) (ri : Int32) {post : Int32 → List va_W → Prop} {K : Int32 → Prop} (hK : ∀ (r0 : Int32), K r0 → post r0 ([modW g M m] : List va_W)) (hPO : PO_X7_isRide m ri K  ) : yM g yX7_isRide wsX7_isRide ({ frames := 1, cells := 0, slots := 0, locals := 22 } : Room) [.ref (M 0), .int ri] ([modW g M m] : List va_W) post 0 0 := by
  refine y_entryI (cc := cX7_isRide) (maxL := 2) (by decide +kernel) rfl (Nat.le_of_ble_eq_true rfl) (fun Z C HR => ?_)
  have C : yC Z g cX7_isRide 2 wsX7_isRide RX7 := C
  have h := hPO
  unfold PO_X7_isRide wp_X7_isRide_0 at h
  show yJ Z _ 0 0 _ 0 [(0, .ref (M 0)), (1, .int ri)] []
  refine y_iload_n C dX7_isRide_0 1 rfl rfl ?_
  refine y_iconst (v := 0) C dX7_isRide_1 (by decide) ?_
  refine y_aload_n C dX7_isRide_2 0 rfl rfl ?_
  refine y_get (Cn := RX7) (T := TX7) (N := 26) (v := .ref (M 1)) C dX7_isRide_3 hX7_isRide_X7 0 (sh_5000 g M m) rfl 1 (Nat.le_of_ble_eq_true rfl) kX7_isRide_1 rfl ?_
  refine y_iconst (v := 4) C dX7_isRide_6 (by decide) ?_
  obtain ⟨hb1, h⟩ := h
  refine y_iald (N := 186) (f := (m.2 1)) C dX7_isRide_7 1 (sh_5001 g M m) hb1 ?_
  refine y_iconst (v := 1) C dX7_isRide_8 (by decide) ?_
  refine y_isub C dX7_isRide_9 ?_
  refine y_callS (As := [.int ri, .int (0 : Int32), .int (((m.2 1) (4 : Int32).toNatClampNeg) - (1 : Int32))]) (rest := []) C dX7_isRide_10 (c_X7_in g ri (0 : Int32) (((m.2 1) (4 : Int32).toNatClampNeg) - (1 : Int32))) rfl rfl rfl rfl ⟨Nat.le_of_ble_eq_true rfl, Nat.le_of_ble_eq_true rfl⟩ gX7_isRide_X7_in (nA := 3) (by decide +kernel) rfl (Nat.le_of_ble_eq_true rfl) ⟨Nat.le_of_ble_eq_true rfl, Nat.le_of_ble_eq_true rfl⟩ [] [0] (nB := 1) rfl (by decide +kernel) (sh_5002 g M m) (fun r2 w9 hw => ?_)
  obtain ⟨er2, rfl⟩ := hw
  have h := y_letP h er2
  refine ⟨([modW g M m] : List va_W), ⟨(sh_5002 g M m), rfl, rfl⟩, ?_⟩
  exact HR 13 dX7_isRide_13 r2 _ _ _ _ ((by rw [er2]; exact nb_in _ _ _)) (Nat.le_of_ble_eq_true rfl) (Nat.le_of_ble_eq_true rfl) (hK _  h)
theorem u_X7_isRide (g : yG) (M : Nat → Nat) (m : MV) (ri : Int32) {K : Int32 → Prop} (hPO : PO_X7_isRide m ri K  ) : yM g yX7_isRide wsX7_isRide ({ frames := 1, cells := 0, slots := 0, locals := 22 } : Room) [.ref (M 0), .int ri] ([modW g M m] : List va_W) (fun r w => K r ∧ w = ([modW g M m] : List va_W)) 0 0 :=
  t_X7_isRide g M m ri (fun r0 hk => ⟨hk, rfl⟩) hPO
theorem dX7_of_0 : decode cX7_of 0 = .ok (.aload_n 0, 1) := by decide +kernel
theorem dX7_of_1 : decode cX7_of 1 = .ok (.getfield 7, 3) := by decide +kernel
theorem dX7_of_4 : decode cX7_of 4 = .ok (.bipush 33, 2) := by decide +kernel
theorem dX7_of_6 : decode cX7_of 6 = .ok (.bipush 7, 2) := by decide +kernel
theorem dX7_of_8 : decode cX7_of 8 = .ok (.iload_n 1, 1) := by decide +kernel
theorem dX7_of_9 : decode cX7_of 9 = .ok (.imul, 1) := by decide +kernel
theorem dX7_of_10 : decode cX7_of 10 = .ok (.iadd, 1) := by decide +kernel
theorem dX7_of_11 : decode cX7_of 11 = .ok (.iload_n 2, 1) := by decide +kernel
theorem dX7_of_12 : decode cX7_of 12 = .ok (.iadd, 1) := by decide +kernel
theorem dX7_of_13 : decode cX7_of 13 = .ok (.iaload, 1) := by decide +kernel
theorem dX7_of_14 : decode cX7_of 14 = .ok (.ireturn, 1) := by decide +kernel
theorem kX7_of_1 : Cond.fieldLink RX7 7 "BookedDetoursModel" "s" "[I" ∈ wsX7_of := List.mem_of_getElem? (i := 1) (by decide +kernel)
theorem hX7_of_X7 : ∀ w ∈ u_ws RX7 TX7 26, w ∈ wsX7_of := fun _ h => List.mem_cons_of_mem _ (List.mem_append_right _ h)
set_option maxHeartbeats 4000000 in
set_option maxRecDepth 100000 in
theorem t_X7_of (g : yG) (M : Nat → Nat) (m : MV) (ri : Int32) (wh : Int32) {post : Int32 → List va_W → Prop} {K : Int32 → Prop} (hK : ∀ (r0 : Int32), K r0 → post r0 ([modW g M m] : List va_W)) (hPO : PO_X7_of m ri wh K  ) : yM g yX7_of wsX7_of ({ frames := 0, cells := 0, slots := 0, locals := 0 } : Room) [.ref (M 0), .int ri, .int wh] ([modW g M m] : List va_W) post 0 0 := by
  refine y_entryI (cc := cX7_of) (maxL := 3) (by decide +kernel) rfl (Nat.le_of_ble_eq_true rfl) (fun Z C HR => ?_)
  have C : yC Z g cX7_of 3 wsX7_of RX7 := C
  have h := hPO
  unfold PO_X7_of wp_X7_of_0 at h
  show yJ Z _ 0 0 _ 0 [(0, .ref (M 0)), (1, .int ri), (2, .int wh)] []
  refine y_aload_n C dX7_of_0 0 rfl rfl ?_
  refine y_get (Cn := RX7) (T := TX7) (N := 26) (v := .ref (M 1)) C dX7_of_1 hX7_of_X7 0 (sh_5000 g M m) rfl 1 (Nat.le_of_ble_eq_true rfl) kX7_of_1 rfl ?_
  refine y_bipush (v := 33) C dX7_of_4 (by decide) ?_
  refine y_bipush (v := 7) C dX7_of_6 (by decide) ?_
  refine y_iload_n C dX7_of_8 1 rfl rfl ?_
  refine y_imul C dX7_of_9 ?_
  refine y_iadd C dX7_of_10 ?_
  refine y_iload_n C dX7_of_11 2 rfl rfl ?_
  refine y_iadd C dX7_of_12 ?_
  obtain ⟨hb1, h⟩ := h
  refine y_iald (N := 186) (f := (m.2 1)) C dX7_of_13 1 (sh_5001 g M m) hb1 ?_
  exact HR 14 dX7_of_14 ((m.2 1) (((33 : Int32) + ((7 : Int32) * ri)) + wh).toNatClampNeg) _ _ _ _ (rfl) (Nat.le_of_ble_eq_true rfl) (Nat.le_of_ble_eq_true rfl) (hK _  h)
theorem u_X7_of (g : yG) (M : Nat → Nat) (m : MV) (ri : Int32) (wh : Int32) {K : Int32 → Prop} (hPO : PO_X7_of m ri wh K  ) : yM g yX7_of wsX7_of ({ frames := 0, cells := 0, slots := 0, locals := 0 } : Room) [.ref (M 0), .int ri, .int wh] ([modW g M m] : List va_W) (fun r w => K r ∧ w = ([modW g M m] : List va_W)) 0 0 :=
  t_X7_of g M m ri wh (fun r0 hk => ⟨hk, rfl⟩) hPO
theorem dX7_lay_0 : decode cX7_lay 0 = .ok (.aload_n 0, 1) := by decide +kernel
theorem dX7_lay_1 : decode cX7_lay 1 = .ok (.getfield 7, 3) := by decide +kernel
theorem dX7_lay_4 : decode cX7_lay 4 = .ok (.bipush 33, 2) := by decide +kernel
theorem dX7_lay_6 : decode cX7_lay 6 = .ok (.bipush 7, 2) := by decide +kernel
theorem dX7_lay_8 : decode cX7_lay 8 = .ok (.iload_n 1, 1) := by decide +kernel
theorem dX7_lay_9 : decode cX7_lay 9 = .ok (.imul, 1) := by decide +kernel
theorem dX7_lay_10 : decode cX7_lay 10 = .ok (.iadd, 1) := by decide +kernel
theorem dX7_lay_11 : decode cX7_lay 11 = .ok (.iload_n 2, 1) := by decide +kernel
theorem dX7_lay_12 : decode cX7_lay 12 = .ok (.iadd, 1) := by decide +kernel
theorem dX7_lay_13 : decode cX7_lay 13 = .ok (.iload_n 3, 1) := by decide +kernel
theorem dX7_lay_14 : decode cX7_lay 14 = .ok (.iastore, 1) := by decide +kernel
theorem dX7_lay_15 : decode cX7_lay 15 = .ok (.return_, 1) := by decide +kernel
theorem kX7_lay_1 : Cond.fieldLink RX7 7 "BookedDetoursModel" "s" "[I" ∈ wsX7_lay := List.mem_of_getElem? (i := 1) (by decide +kernel)
theorem hX7_lay_X7 : ∀ w ∈ u_ws RX7 TX7 26, w ∈ wsX7_lay := fun _ h => List.mem_cons_of_mem _ (List.mem_append_right _ h)
set_option maxHeartbeats 4000000 in
set_option maxRecDepth 100000 in
theorem t_X7_lay (g : yG) (M : Nat → Nat) (m : MV) (ri : Int32) (wh : Int32) (va : Int32) {post : List va_W → Prop} {K : MV → Prop} (hK : ∀ (m : MV), K m → post ([modW g M m] : List va_W)) (hPO : PO_X7_lay ri wh va K m ) : yMv g yX7_lay wsX7_lay ({ frames := 0, cells := 0, slots := 0, locals := 0 } : Room) [.ref (M 0), .int ri, .int wh, .int va] ([modW g M m] : List va_W) post 0 0 := by
  refine y_entryV (cc := cX7_lay) (maxL := 4) (by decide +kernel) rfl (Nat.le_of_ble_eq_true rfl) (fun Z C _ HR => ?_)
  have C : yC Z g cX7_lay 4 wsX7_lay RX7 := C
  have h := hPO
  unfold PO_X7_lay wp_X7_lay_0 at h
  show yJ Z _ 0 0 _ 0 [(0, .ref (M 0)), (1, .int ri), (2, .int wh), (3, .int va)] []
  refine y_aload_n C dX7_lay_0 0 rfl rfl ?_
  refine y_get (Cn := RX7) (T := TX7) (N := 26) (v := .ref (M 1)) C dX7_lay_1 hX7_lay_X7 0 (sh_5000 g M m) rfl 1 (Nat.le_of_ble_eq_true rfl) kX7_lay_1 rfl ?_
  refine y_bipush (v := 33) C dX7_lay_4 (by decide) ?_
  refine y_bipush (v := 7) C dX7_lay_6 (by decide) ?_
  refine y_iload_n C dX7_lay_8 1 rfl rfl ?_
  refine y_imul C dX7_lay_9 ?_
  refine y_iadd C dX7_lay_10 ?_
  refine y_iload_n C dX7_lay_11 2 rfl rfl ?_
  refine y_iadd C dX7_lay_12 ?_
  refine y_iload_n C dX7_lay_13 3 rfl rfl ?_
  obtain ⟨hb1, h⟩ := h
  obtain ⟨m2, em2⟩ : ∃ z : MV, z = mA m 1 (((33 : Int32) + ((7 : Int32) * ri)) + wh).toNatClampNeg va := ⟨_, rfl⟩
  have h := y_letP h em2
  refine y_iast (N := 186) (f := (m.2 1)) (L1 := ([modW g M m2] : List va_W)) C dX7_lay_14 1 (sh_5001 g M m) hb1 (sh_5003 g M m (((33 : Int32) + ((7 : Int32) * ri)) + wh).toNatClampNeg va m2 em2) ?_
  exact HR 15 dX7_lay_15 _ _ _ _ (Nat.le_of_ble_eq_true rfl) (Nat.le_of_ble_eq_true rfl) (hK _  h)
theorem u_X7_lay (g : yG) (M : Nat → Nat) (m : MV) (ri : Int32) (wh : Int32) (va : Int32) {K : MV → Prop} (hPO : PO_X7_lay ri wh va K m ) : yMv g yX7_lay wsX7_lay ({ frames := 0, cells := 0, slots := 0, locals := 0 } : Room) [.ref (M 0), .int ri, .int wh, .int va] ([modW g M m] : List va_W) (fun w => ∃ m' : MV, K m' ∧ w = ([modW g M m'] : List va_W)) 0 0 :=
  t_X7_lay g M m ri wh va (fun m hk => ⟨m, hk, rfl⟩) hPO
