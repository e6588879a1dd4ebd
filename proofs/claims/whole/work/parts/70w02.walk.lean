theorem dX7_takeBack_0 : decode cX7_takeBack 0 = .ok (.iconst 0, 1) := by decide +kernel
theorem dX7_takeBack_1 : decode cX7_takeBack 1 = .ok (.istore_n 1, 1) := by decide +kernel
theorem dX7_takeBack_2 : decode cX7_takeBack 2 = .ok (.iload_n 1, 1) := by decide +kernel
theorem dX7_takeBack_3 : decode cX7_takeBack 3 = .ok (.sipush 186, 3) := by decide +kernel
theorem dX7_takeBack_6 : decode cX7_takeBack 6 = .ok (.if_icmp .ge 21, 3) := by decide +kernel
theorem dX7_takeBack_9 : decode cX7_takeBack 9 = .ok (.aload_n 0, 1) := by decide +kernel
theorem dX7_takeBack_10 : decode cX7_takeBack 10 = .ok (.getfield 7, 3) := by decide +kernel
theorem dX7_takeBack_13 : decode cX7_takeBack 13 = .ok (.iload_n 1, 1) := by decide +kernel
theorem dX7_takeBack_14 : decode cX7_takeBack 14 = .ok (.aload_n 0, 1) := by decide +kernel
theorem dX7_takeBack_15 : decode cX7_takeBack 15 = .ok (.getfield 13, 3) := by decide +kernel
theorem dX7_takeBack_18 : decode cX7_takeBack 18 = .ok (.iload_n 1, 1) := by decide +kernel
theorem dX7_takeBack_19 : decode cX7_takeBack 19 = .ok (.iaload, 1) := by decide +kernel
theorem dX7_takeBack_20 : decode cX7_takeBack 20 = .ok (.iastore, 1) := by decide +kernel
theorem dX7_takeBack_21 : decode cX7_takeBack 21 = .ok (.iinc 1 1, 3) := by decide +kernel
theorem dX7_takeBack_24 : decode cX7_takeBack 24 = .ok (.goto (-22), 3) := by decide +kernel
theorem dX7_takeBack_27 : decode cX7_takeBack 27 = .ok (.return_, 1) := by decide +kernel
theorem kX7_takeBack_1 : Cond.fieldLink RX7 7 "BookedDetoursModel" "s" "[I" ∈ wsX7_takeBack := List.mem_of_getElem? (i := 1) (by decide +kernel)
theorem kX7_takeBack_2 : Cond.fieldLink RX7 13 "BookedDetoursModel" "aside" "[I" ∈ wsX7_takeBack := List.mem_of_getElem? (i := 2) (by decide +kernel)
theorem hX7_takeBack_X7 : ∀ w ∈ u_ws RX7 TX7 26, w ∈ wsX7_takeBack := fun _ h => List.mem_cons_of_mem _ (List.mem_append_right _ h)
set_option maxHeartbeats 4000000 in
set_option maxRecDepth 100000 in
theorem w_X7_takeBack_2 {Z : yZ} (g : yG) (M : Nat → Nat) (C : yC Z g cX7_takeBack 2 wsX7_takeBack RX7) {post : List va_W → Prop} (HR : yRv Z ({ frames := 0, cells := 0, slots := 0, locals := 0 } : Room) cX7_takeBack post 0 0) {X2 : MV → Int32 → Prop} (hX2 : ∀ (m : MV) (x1 : Int32), X2 m x1 → yJ Z ({ frames := 0, cells := 0, slots := 0, locals := 0 } : Room) 0 0 ([modW g M m] : List va_W) 2 [(0, .ref (M 0)), (1, .int x1)] []) {K : MV → Prop} (hK : ∀ (m : MV), K m → post ([modW g M m] : List va_W)) (m : MV) (x1 : Int32) (h : wp_X7_takeBack_2  X2 K m x1) : yJ Z ({ frames := 0, cells := 0, slots := 0, locals := 0 } : Room) 0 0 ([modW g M m] : List va_W) 2 [(0, .ref (M 0)), (1, .int x1)] [] := by
  unfold wp_X7_takeBack_2 at h
  refine y_iload_n C dX7_takeBack_2 1 rfl rfl ?_
  refine y_sipush (v := 186) C dX7_takeBack_3 (by decide) ?_
  refine y_icmp_ge (tgt := 27) C dX7_takeBack_6 rfl h (fun c6 h => ?_) (fun c6 h => ?_)
  · exact HR 27 dX7_takeBack_27 _ _ _ _ (Nat.le_of_ble_eq_true rfl) (Nat.le_of_ble_eq_true rfl) (hK _  h)
  · refine y_aload_n C dX7_takeBack_9 0 rfl rfl ?_
    refine y_get (Cn := RX7) (T := TX7) (N := 26) (v := .ref (M 1)) C dX7_takeBack_10 hX7_takeBack_X7 0 (sh_5000 g M m) rfl 1 (Nat.le_of_ble_eq_true rfl) kX7_takeBack_1 rfl ?_
    refine y_iload_n C dX7_takeBack_13 1 rfl rfl ?_
    refine y_aload_n C dX7_takeBack_14 0 rfl rfl ?_
    refine y_get (Cn := RX7) (T := TX7) (N := 26) (v := .ref (M 2)) C dX7_takeBack_15 hX7_takeBack_X7 0 (sh_5000 g M m) rfl 2 (Nat.le_of_ble_eq_true rfl) kX7_takeBack_2 rfl ?_
    refine y_iload_n C dX7_takeBack_18 1 rfl rfl ?_
    obtain ⟨hb1, h⟩ := h
    refine y_iald (N := 186) (f := (m.2 2)) C dX7_takeBack_19 2 (sh_5007 g M m) hb1 ?_
    obtain ⟨hb2, h⟩ := h
    obtain ⟨m3, em3⟩ : ∃ z : MV, z = mA m 1 x1.toNatClampNeg ((m.2 2) x1.toNatClampNeg) := ⟨_, rfl⟩
    have h := y_letP h em3
    refine y_iast (N := 186) (f := (m.2 1)) (L1 := ([modW g M m3] : List va_W)) C dX7_takeBack_20 1 (sh_5001 g M m) hb2 (sh_5003 g M m x1.toNatClampNeg ((m.2 2) x1.toNatClampNeg) m3 em3) ?_
    refine y_iinc (v := (x1 + (1 : Int32))) (lv' := [(1, .int (x1 + (1 : Int32))), (0, .ref (M 0))]) C dX7_takeBack_21 1 rfl rfl (Nat.le_of_ble_eq_true rfl) rfl ?_
    refine y_goto (tgt := 2) C dX7_takeBack_24 rfl ?_
    refine y_sub (lv' := [(0, .ref (M 0)), (1, .int (x1 + (1 : Int32)))]) [1, 0] rfl ?_
    exact hX2 _ _ h
set_option maxHeartbeats 4000000 in
set_option maxRecDepth 100000 in
theorem l_X7_takeBack {Z : yZ} (g : yG) (M : Nat → Nat) (C : yC Z g cX7_takeBack 2 wsX7_takeBack RX7) {post : List va_W → Prop} (HR : yRv Z ({ frames := 0, cells := 0, slots := 0, locals := 0 } : Room) cX7_takeBack post 0 0) {K : MV → Prop} (hK : ∀ (m : MV), K m → post ([modW g M m] : List va_W)) {I2 : Nat → MV → Int32 → Prop} (o2 : ∀ (w0 : Nat) (m : MV) (x1 : Int32), I2 w0 m x1 → wp_X7_takeBack_2  (fun (m9 : MV) (x19 : Int32) => ∃ w9, w9 < w0 ∧ I2 w9 m9 x19) K m x1) : ∀ w0 : Nat, (∀ (m : MV) (x1 : Int32), I2 w0 m x1 → yJ Z ({ frames := 0, cells := 0, slots := 0, locals := 0 } : Room) 0 0 ([modW g M m] : List va_W) 2 [(0, .ref (M 0)), (1, .int x1)] []) := by
  intro w0
  induction w0 using Nat.strongRecOn with
  | _ w0 ih =>
    exact fun m x1 hi => w_X7_takeBack_2 g M C HR (fun m x1 hq => by obtain ⟨w9, hlt, hi⟩ := hq; exact (ih w9 hlt) m x1 hi) hK m x1 (o2 w0 m x1 hi)
set_option maxHeartbeats 4000000 in
set_option maxRecDepth 100000 in
theorem t_X7_takeBack (g : yG) (M : Nat → Nat) (m : MV)  {post : List va_W → Prop} {K : MV → Prop} (hK : ∀ (m : MV), K m → post ([modW g M m] : List va_W)) (hPO : PO_X7_takeBack  K m ) : yMv g yX7_takeBack wsX7_takeBack ({ frames := 0, cells := 0, slots := 0, locals := 0 } : Room) [.ref (M 0)] ([modW g M m] : List va_W) post 0 0 := by
  refine y_entryV (cc := cX7_takeBack) (maxL := 2) (by decide +kernel) rfl (Nat.le_of_ble_eq_true rfl) (fun Z C _ HR => ?_)
  have C : yC Z g cX7_takeBack 2 wsX7_takeBack RX7 := C
  obtain ⟨I2, o2, h⟩ := hPO
  have hX2 : ∀ (m : MV) (x1 : Int32), (fun (m9 : MV) (x19 : Int32) => ∃ w9, I2 w9 m9 x19) m x1 → yJ Z ({ frames := 0, cells := 0, slots := 0, locals := 0 } : Room) 0 0 ([modW g M m] : List va_W) 2 [(0, .ref (M 0)), (1, .int x1)] [] := by
    intro m x1 hq
    obtain ⟨w9, hi⟩ := hq
    exact (l_X7_takeBack g M C HR hK o2 w9) m x1 hi
  unfold wp_X7_takeBack_0 at h
  show yJ Z _ 0 0 _ 0 [(0, .ref (M 0))] []
  refine y_iconst (v := 0) C dX7_takeBack_0 (by decide) ?_
  refine y_istore_n (lv' := [(1, .int (0 : Int32)), (0, .ref (M 0))]) C dX7_takeBack_1 rfl (Nat.le_of_ble_eq_true rfl) rfl ?_
  refine y_sub (lv' := [(0, .ref (M 0)), (1, .int (0 : Int32))]) [1, 0] rfl ?_
  exact hX2 _ _ h
theorem u_X7_takeBack (g : yG) (M : Nat → Nat) (m : MV)  {K : MV → Prop} (hPO : PO_X7_takeBack  K m ) : yMv g yX7_takeBack wsX7_takeBack ({ frames := 0, cells := 0, slots := 0, locals := 0 } : Room) [.ref (M 0)] ([modW g M m] : List va_W) (fun w => ∃ m' : MV, K m' ∧ w = ([modW g M m'] : List va_W)) 0 0 :=
  t_X7_takeBack g M m  (fun m hk => ⟨m, hk, rfl⟩) hPO
theorem dX7_apart_0 : decode cX7_apart 0 = .ok (.iload_n 0, 1) := by decide +kernel
theorem dX7_apart_1 : decode cX7_apart 1 = .ok (.iload_n 1, 1) := by decide +kernel
theorem dX7_apart_2 : decode cX7_apart 2 = .ok (.if_icmp .ge 9, 3) := by decide +kernel
theorem dX7_apart_5 : decode cX7_apart 5 = .ok (.iload_n 1, 1) := by decide +kernel
theorem dX7_apart_6 : decode cX7_apart 6 = .ok (.iload_n 0, 1) := by decide +kernel
theorem dX7_apart_7 : decode cX7_apart 7 = .ok (.isub, 1) := by decide +kernel
theorem dX7_apart_8 : decode cX7_apart 8 = .ok (.goto 6, 3) := by decide +kernel
theorem dX7_apart_11 : decode cX7_apart 11 = .ok (.iload_n 0, 1) := by decide +kernel
theorem dX7_apart_12 : decode cX7_apart 12 = .ok (.iload_n 1, 1) := by decide +kernel
theorem dX7_apart_13 : decode cX7_apart 13 = .ok (.isub, 1) := by decide +kernel
theorem dX7_apart_14 : decode cX7_apart 14 = .ok (.ireturn, 1) := by decide +kernel
set_option maxHeartbeats 4000000 in
set_option maxRecDepth 100000 in
theorem c_X7_apart (g : yG)  (x : Int32) (y : Int32) : yM g yX7_apart wsX7_apart ({ frames := 0, cells := 0, slots := 0, locals := 0 } : Room) [.int x, .int y] ([] : List va_W) (fun r w => r = (f_X7_apart x y) ∧ w = ([] : List va_W)) 0 0 := by
  refine y_entryI (cc := cX7_apart) (maxL := 2) (by decide +kernel) rfl (Nat.le_of_ble_eq_true rfl) (fun Z C HR => ?_)
  have C : yC Z g cX7_apart 2 wsX7_apart RX7 := C
  have h := f_X7_apart.eq_1 x y
  show yJ Z _ 0 0 _ 0 [(0, .int x), (1, .int y)] []
  refine y_iload_n C dX7_apart_0 0 rfl rfl ?_
  refine y_iload_n C dX7_apart_1 1 rfl rfl ?_
  refine y_icmp_ge (tgt := 11) C dX7_apart_2 rfl (y_e h) (fun c2 h => ?_) (fun c2 h => ?_)
  · refine y_iload_n C dX7_apart_11 0 rfl rfl ?_
    refine y_iload_n C dX7_apart_12 1 rfl rfl ?_
    refine y_isub C dX7_apart_13 ?_
    exact HR 14 dX7_apart_14 (x - y) _ _ _ _ (rfl) (Nat.le_of_ble_eq_true rfl) (Nat.le_of_ble_eq_true rfl) ⟨by rw [h], rfl⟩
  · refine y_iload_n C dX7_apart_5 1 rfl rfl ?_
    refine y_iload_n C dX7_apart_6 0 rfl rfl ?_
    refine y_isub C dX7_apart_7 ?_
    refine y_goto (tgt := 14) C dX7_apart_8 rfl ?_
    exact HR 14 dX7_apart_14 (y - x) _ _ _ _ (rfl) (Nat.le_of_ble_eq_true rfl) (Nat.le_of_ble_eq_true rfl) ⟨by rw [h], rfl⟩
theorem dX7_drive_0 : decode cX7_drive 0 = .ok (.aload_n 0, 1) := by decide +kernel
theorem dX7_drive_1 : decode cX7_drive 1 = .ok (.getfield 7, 3) := by decide +kernel
theorem dX7_drive_4 : decode cX7_drive 4 = .ok (.bipush 9, 2) := by decide +kernel
theorem dX7_drive_6 : decode cX7_drive 6 = .ok (.iconst 2, 1) := by decide +kernel
theorem dX7_drive_7 : decode cX7_drive 7 = .ok (.iload_n 1, 1) := by decide +kernel
theorem dX7_drive_8 : decode cX7_drive 8 = .ok (.imul, 1) := by decide +kernel
theorem dX7_drive_9 : decode cX7_drive 9 = .ok (.iadd, 1) := by decide +kernel
theorem dX7_drive_10 : decode cX7_drive 10 = .ok (.iaload, 1) := by decide +kernel
theorem dX7_drive_11 : decode cX7_drive 11 = .ok (.aload_n 0, 1) := by decide +kernel
theorem dX7_drive_12 : decode cX7_drive 12 = .ok (.getfield 7, 3) := by decide +kernel
theorem dX7_drive_15 : decode cX7_drive 15 = .ok (.bipush 9, 2) := by decide +kernel
theorem dX7_drive_17 : decode cX7_drive 17 = .ok (.iconst 2, 1) := by decide +kernel
theorem dX7_drive_18 : decode cX7_drive 18 = .ok (.iload_n 2, 1) := by decide +kernel
theorem dX7_drive_19 : decode cX7_drive 19 = .ok (.imul, 1) := by decide +kernel
theorem dX7_drive_20 : decode cX7_drive 20 = .ok (.iadd, 1) := by decide +kernel
theorem dX7_drive_21 : decode cX7_drive 21 = .ok (.iaload, 1) := by decide +kernel
theorem dX7_drive_22 : decode cX7_drive 22 = .ok (.invokestatic 55, 3) := by decide +kernel
theorem dX7_drive_25 : decode cX7_drive 25 = .ok (.aload_n 0, 1) := by decide +kernel
theorem dX7_drive_26 : decode cX7_drive 26 = .ok (.getfield 7, 3) := by decide +kernel
theorem dX7_drive_29 : decode cX7_drive 29 = .ok (.bipush 9, 2) := by decide +kernel
theorem dX7_drive_31 : decode cX7_drive 31 = .ok (.iconst 2, 1) := by decide +kernel
theorem dX7_drive_32 : decode cX7_drive 32 = .ok (.iload_n 1, 1) := by decide +kernel
theorem dX7_drive_33 : decode cX7_drive 33 = .ok (.imul, 1) := by decide +kernel
theorem dX7_drive_34 : decode cX7_drive 34 = .ok (.iadd, 1) := by decide +kernel
theorem dX7_drive_35 : decode cX7_drive 35 = .ok (.iconst 1, 1) := by decide +kernel
theorem dX7_drive_36 : decode cX7_drive 36 = .ok (.iadd, 1) := by decide +kernel
theorem dX7_drive_37 : decode cX7_drive 37 = .ok (.iaload, 1) := by decide +kernel
theorem dX7_drive_38 : decode cX7_drive 38 = .ok (.aload_n 0, 1) := by decide +kernel
theorem dX7_drive_39 : decode cX7_drive 39 = .ok (.getfield 7, 3) := by decide +kernel
theorem dX7_drive_42 : decode cX7_drive 42 = .ok (.bipush 9, 2) := by decide +kernel
theorem dX7_drive_44 : decode cX7_drive 44 = .ok (.iconst 2, 1) := by decide +kernel
theorem dX7_drive_45 : decode cX7_drive 45 = .ok (.iload_n 2, 1) := by decide +kernel
theorem dX7_drive_46 : decode cX7_drive 46 = .ok (.imul, 1) := by decide +kernel
theorem dX7_drive_47 : decode cX7_drive 47 = .ok (.iadd, 1) := by decide +kernel
theorem dX7_drive_48 : decode cX7_drive 48 = .ok (.iconst 1, 1) := by decide +kernel
theorem dX7_drive_49 : decode cX7_drive 49 = .ok (.iadd, 1) := by decide +kernel
theorem dX7_drive_50 : decode cX7_drive 50 = .ok (.iaload, 1) := by decide +kernel
theorem dX7_drive_51 : decode cX7_drive 51 = .ok (.invokestatic 55, 3) := by decide +kernel
theorem dX7_drive_54 : decode cX7_drive 54 = .ok (.iadd, 1) := by decide +kernel
theorem dX7_drive_55 : decode cX7_drive 55 = .ok (.ireturn, 1) := by decide +kernel
set_option maxRecDepth 20000 in
theorem ggX7_drive_X7_apart : GoodIn wsX7_drive wsX7_apart := goodIn_r _ [5] (by decide +kernel) (by decide +kernel)
set_option maxRecDepth 20000 in
theorem gX7_drive_X7_apart : GoodIn wsX7_drive (va_wsS RX7 55 yX7_apart wsX7_apart) := goodIn_app (goodIn_of _ (by decide +kernel)) ggX7_drive_X7_apart
theorem kX7_drive_1 : Cond.fieldLink RX7 7 "BookedDetoursModel" "s" "[I" ∈ wsX7_drive := List.mem_of_getElem? (i := 1) (by decide +kernel)
theorem hX7_drive_X7 : ∀ w ∈ u_ws RX7 TX7 26, w ∈ wsX7_drive := fun _ h => List.mem_cons_of_mem _ (List.mem_append_right _ h)
set_option maxHeartbeats 4000000 in
set_option maxRecDepth 100000 in
theorem t_X7_drive (g : yG) (M : Nat → Nat) (m : MV) (st : Int32) (ot : Int32) {post : Int32 → List va_W → Prop} {K : Int32 → Prop} (hK : ∀ (r0 : Int32), K r0 → post r0 ([modW g M m] : List va_W)) (hPO : PO_X7_drive m st ot K  ) : yM g yX7_drive wsX7_drive ({ frames := 1, cells := 0, slots := 0, locals := 21 } : Room) [.ref (M 0), .int st, .int ot] ([modW g M m] : List va_W) post 0 0 := by
  refine y_entryI (cc := cX7_drive) (maxL := 3) (by decide +kernel) rfl (Nat.le_of_ble_eq_true rfl) (fun Z C HR => ?_)
  have C : yC Z g cX7_drive 3 wsX7_drive RX7 := C
  have h := hPO
  unfold PO_X7_drive wp_X7_drive_0 at h
  show yJ Z _ 0 0 _ 0 [(0, .ref (M 0)), (1, .int st), (2, .int ot)] []
  refine y_aload_n C dX7_drive_0 0 rfl rfl ?_
  refine y_get (Cn := RX7) (T := TX7) (N := 26) (v := .ref (M 1)) C dX7_drive_1 hX7_drive_X7 0 (sh_5000 g M m) rfl 1 (Nat.le_of_ble_eq_true rfl) kX7_drive_1 rfl ?_
  refine y_bipush (v := 9) C dX7_drive_4 (by decide) ?_
  refine y_iconst (v := 2) C dX7_drive_6 (by decide) ?_
  refine y_iload_n C dX7_drive_7 1 rfl rfl ?_
  refine y_imul C dX7_drive_8 ?_
  refine y_iadd C dX7_drive_9 ?_
  obtain ⟨hb1, h⟩ := h
  refine y_iald (N := 186) (f := (m.2 1)) C dX7_drive_10 1 (sh_5001 g M m) hb1 ?_
  refine y_aload_n C dX7_drive_11 0 rfl rfl ?_
  refine y_get (Cn := RX7) (T := TX7) (N := 26) (v := .ref (M 1)) C dX7_drive_12 hX7_drive_X7 0 (sh_5000 g M m) rfl 1 (Nat.le_of_ble_eq_true rfl) kX7_drive_1 rfl ?_
  refine y_bipush (v := 9) C dX7_drive_15 (by decide) ?_
  refine y_iconst (v := 2) C dX7_drive_17 (by decide) ?_
  refine y_iload_n C dX7_drive_18 2 rfl rfl ?_
  refine y_imul C dX7_drive_19 ?_
  refine y_iadd C dX7_drive_20 ?_
  obtain ⟨hb2, h⟩ := h
  refine y_iald (N := 186) (f := (m.2 1)) C dX7_drive_21 1 (sh_5001 g M m) hb2 ?_
  refine y_callS (As := [.int ((m.2 1) ((9 : Int32) + ((2 : Int32) * st)).toNatClampNeg), .int ((m.2 1) ((9 : Int32) + ((2 : Int32) * ot)).toNatClampNeg)]) (rest := []) C dX7_drive_22 (c_X7_apart g ((m.2 1) ((9 : Int32) + ((2 : Int32) * st)).toNatClampNeg) ((m.2 1) ((9 : Int32) + ((2 : Int32) * ot)).toNatClampNeg)) rfl rfl rfl rfl ⟨Nat.le_of_ble_eq_true rfl, Nat.le_of_ble_eq_true rfl⟩ gX7_drive_X7_apart (nA := 2) (by decide +kernel) rfl (Nat.le_of_ble_eq_true rfl) ⟨Nat.le_of_ble_eq_true rfl, Nat.le_of_ble_eq_true rfl⟩ [] [0] (nB := 1) rfl (by decide +kernel) (sh_5002 g M m) (fun r3 w9 hw => ?_)
  obtain ⟨er3, rfl⟩ := hw
  have h := y_letP h er3
  refine ⟨([modW g M m] : List va_W), ⟨(sh_5002 g M m), rfl, rfl⟩, ?_⟩
  refine y_aload_n C dX7_drive_25 0 rfl rfl ?_
  refine y_get (Cn := RX7) (T := TX7) (N := 26) (v := .ref (M 1)) C dX7_drive_26 hX7_drive_X7 0 (sh_5000 g M m) rfl 1 (Nat.le_of_ble_eq_true rfl) kX7_drive_1 rfl ?_
  refine y_bipush (v := 9) C dX7_drive_29 (by decide) ?_
  refine y_iconst (v := 2) C dX7_drive_31 (by decide) ?_
  refine y_iload_n C dX7_drive_32 1 rfl rfl ?_
  refine y_imul C dX7_drive_33 ?_
  refine y_iadd C dX7_drive_34 ?_
  refine y_iconst (v := 1) C dX7_drive_35 (by decide) ?_
  refine y_iadd C dX7_drive_36 ?_
  obtain ⟨hb4, h⟩ := h
  refine y_iald (N := 186) (f := (m.2 1)) C dX7_drive_37 1 (sh_5001 g M m) hb4 ?_
  refine y_aload_n C dX7_drive_38 0 rfl rfl ?_
  refine y_get (Cn := RX7) (T := TX7) (N := 26) (v := .ref (M 1)) C dX7_drive_39 hX7_drive_X7 0 (sh_5000 g M m) rfl 1 (Nat.le_of_ble_eq_true rfl) kX7_drive_1 rfl ?_
  refine y_bipush (v := 9) C dX7_drive_42 (by decide) ?_
  refine y_iconst (v := 2) C dX7_drive_44 (by decide) ?_
  refine y_iload_n C dX7_drive_45 2 rfl rfl ?_
  refine y_imul C dX7_drive_46 ?_
  refine y_iadd C dX7_drive_47 ?_
  refine y_iconst (v := 1) C dX7_drive_48 (by decide) ?_
  refine y_iadd C dX7_drive_49 ?_
  obtain ⟨hb5, h⟩ := h
  refine y_iald (N := 186) (f := (m.2 1)) C dX7_drive_50 1 (sh_5001 g M m) hb5 ?_
  refine y_callS (As := [.int ((m.2 1) (((9 : Int32) + ((2 : Int32) * st)) + (1 : Int32)).toNatClampNeg), .int ((m.2 1) (((9 : Int32) + ((2 : Int32) * ot)) + (1 : Int32)).toNatClampNeg)]) (rest := [.int r3]) C dX7_drive_51 (c_X7_apart g ((m.2 1) (((9 : Int32) + ((2 : Int32) * st)) + (1 : Int32)).toNatClampNeg) ((m.2 1) (((9 : Int32) + ((2 : Int32) * ot)) + (1 : Int32)).toNatClampNeg)) rfl rfl rfl rfl ⟨Nat.le_of_ble_eq_true rfl, Nat.le_of_ble_eq_true rfl⟩ gX7_drive_X7_apart (nA := 2) (by decide +kernel) rfl (Nat.le_of_ble_eq_true rfl) ⟨Nat.le_of_ble_eq_true rfl, Nat.le_of_ble_eq_true rfl⟩ [] [0] (nB := 1) rfl (by decide +kernel) (sh_5002 g M m) (fun r6 w9 hw => ?_)
  obtain ⟨er6, rfl⟩ := hw
  have h := y_letP h er6
  refine ⟨([modW g M m] : List va_W), ⟨(sh_5002 g M m), rfl, rfl⟩, ?_⟩
  refine y_iadd C dX7_drive_54 ?_
  exact HR 55 dX7_drive_55 (r3 + r6) _ _ _ _ (rfl) (Nat.le_of_ble_eq_true rfl) (Nat.le_of_ble_eq_true rfl) (hK _  h)
theorem u_X7_drive (g : yG) (M : Nat → Nat) (m : MV) (st : Int32) (ot : Int32) {K : Int32 → Prop} (hPO : PO_X7_drive m st ot K  ) : yM g yX7_drive wsX7_drive ({ frames := 1, cells := 0, slots := 0, locals := 21 } : Room) [.ref (M 0), .int st, .int ot] ([modW g M m] : List va_W) (fun r w => K r ∧ w = ([modW g M m] : List va_W)) 0 0 :=
  t_X7_drive g M m st ot (fun r0 hk => ⟨hk, rfl⟩) hPO
theorem dX7_stopOf_0 : decode cX7_stopOf 0 = .ok (.aload_n 0, 1) := by decide +kernel
theorem dX7_stopOf_1 : decode cX7_stopOf 1 = .ok (.iload_n 1, 1) := by decide +kernel
theorem dX7_stopOf_2 : decode cX7_stopOf 2 = .ok (.iconst 2, 1) := by decide +kernel
theorem dX7_stopOf_3 : decode cX7_stopOf 3 = .ok (.idiv, 1) := by decide +kernel
theorem dX7_stopOf_4 : decode cX7_stopOf 4 = .ok (.iload_n 1, 1) := by decide +kernel
theorem dX7_stopOf_5 : decode cX7_stopOf 5 = .ok (.iconst 2, 1) := by decide +kernel
theorem dX7_stopOf_6 : decode cX7_stopOf 6 = .ok (.irem, 1) := by decide +kernel
theorem dX7_stopOf_7 : decode cX7_stopOf 7 = .ok (.ifCond .ne 7, 3) := by decide +kernel
theorem dX7_stopOf_10 : decode cX7_stopOf 10 = .ok (.iconst 0, 1) := by decide +kernel
theorem dX7_stopOf_11 : decode cX7_stopOf 11 = .ok (.goto 4, 3) := by decide +kernel
theorem dX7_stopOf_14 : decode cX7_stopOf 14 = .ok (.iconst 1, 1) := by decide +kernel
theorem dX7_stopOf_15 : decode cX7_stopOf 15 = .ok (.invokevirtual 59, 3) := by decide +kernel
theorem dX7_stopOf_18 : decode cX7_stopOf 18 = .ok (.ireturn, 1) := by decide +kernel
set_option maxRecDepth 20000 in
theorem ggX7_stopOf_X7_of : GoodIn wsX7_stopOf wsX7_of := goodIn_r _ [5, 6, 7, 8, 9, 10, 11, 12, 13, 14, 15, 16, 17, 18, 19, 20, 21, 22, 23, 24, 25, 26, 27, 28, 29, 30, 31, 32] (by decide +kernel) (by decide +kernel)
set_option maxRecDepth 20000 in
theorem gX7_stopOf_X7_of : GoodIn wsX7_stopOf (wsV RX7 59 RX7 yX7_of wsX7_of) := goodIn_app (goodIn_of _ (by decide +kernel)) ggX7_stopOf_X7_of
set_option maxHeartbeats 4000000 in
set_option maxRecDepth 100000 in
theorem t_X7_stopOf (g : yG) (M : Nat → Nat) (m : MV) (vi : Int32) {post : Int32 → List va_W → Prop} {K : Int32 → Prop} (hK : ∀ (r0 : Int32), K r0 → post r0 ([modW g M m] : List va_W)) (hPO : PO_X7_stopOf m vi K  ) : yM g yX7_stopOf wsX7_stopOf ({ frames := 1, cells := 0, slots := 0, locals := 22 } : Room) [.ref (M 0), .int vi] ([modW g M m] : List va_W) post 0 0 := by
  refine y_entryI (cc := cX7_stopOf) (maxL := 2) (by decide +kernel) rfl (Nat.le_of_ble_eq_true rfl) (fun Z C HR => ?_)
  have C : yC Z g cX7_stopOf 2 wsX7_stopOf RX7 := C
  have h := hPO
  unfold PO_X7_stopOf wp_X7_stopOf_0 at h
  show yJ Z _ 0 0 _ 0 [(0, .ref (M 0)), (1, .int vi)] []
  refine y_aload_n C dX7_stopOf_0 0 rfl rfl ?_
  refine y_iload_n C dX7_stopOf_1 1 rfl rfl ?_
  refine y_iconst (v := 2) C dX7_stopOf_2 (by decide) ?_
  refine y_idiv C dX7_stopOf_3 (by decide) ?_
  refine y_iload_n C dX7_stopOf_4 1 rfl rfl ?_
  refine y_iconst (v := 2) C dX7_stopOf_5 (by decide) ?_
  refine y_irem C dX7_stopOf_6 (by decide) ?_
  refine y_if_ne (tgt := 14) C dX7_stopOf_7 rfl h (fun c7 h => ?_) (fun c7 h => ?_)
  · refine y_iconst (v := 1) C dX7_stopOf_14 (by decide) ?_
    refine y_callV (As := [.int (vi / (2 : Int32)), .int (1 : Int32)]) (rest := []) C dX7_stopOf_15 (u_X7_of g M m (vi / (2 : Int32)) (1 : Int32) h) rfl rfl rfl rfl ⟨Nat.le_of_ble_eq_true rfl, Nat.le_of_ble_eq_true rfl⟩ gX7_stopOf_X7_of (nA := 2) (by decide +kernel) rfl (sh_5010 g M m) (Nat.le_of_ble_eq_true rfl) ⟨Nat.le_of_ble_eq_true rfl, Nat.le_of_ble_eq_true rfl⟩ [0] [] (nB := 1) rfl (by decide +kernel) (sh_5009 g M m) (fun r1 w9 hw => ?_)
    obtain ⟨h, rfl⟩ := hw
    refine ⟨([modW g M m] : List va_W), ⟨(sh_5009 g M m), rfl, rfl⟩, ?_⟩
    exact HR 18 dX7_stopOf_18 r1 _ _ _ _ (rfl) (Nat.le_of_ble_eq_true rfl) (Nat.le_of_ble_eq_true rfl) (hK _  h)
  · refine y_iconst (v := 0) C dX7_stopOf_10 (by decide) ?_
    refine y_goto (tgt := 15) C dX7_stopOf_11 rfl ?_
    refine y_callV (As := [.int (vi / (2 : Int32)), .int (0 : Int32)]) (rest := []) C dX7_stopOf_15 (u_X7_of g M m (vi / (2 : Int32)) (0 : Int32) h) rfl rfl rfl rfl ⟨Nat.le_of_ble_eq_true rfl, Nat.le_of_ble_eq_true rfl⟩ gX7_stopOf_X7_of (nA := 2) (by decide +kernel) rfl (sh_5010 g M m) (Nat.le_of_ble_eq_true rfl) ⟨Nat.le_of_ble_eq_true rfl, Nat.le_of_ble_eq_true rfl⟩ [0] [] (nB := 1) rfl (by decide +kernel) (sh_5009 g M m) (fun r2 w9 hw => ?_)
    obtain ⟨h, rfl⟩ := hw
    refine ⟨([modW g M m] : List va_W), ⟨(sh_5009 g M m), rfl, rfl⟩, ?_⟩
    exact HR 18 dX7_stopOf_18 r2 _ _ _ _ (rfl) (Nat.le_of_ble_eq_true rfl) (Nat.le_of_ble_eq_true rfl) (hK _  h)
theorem u_X7_stopOf (g : yG) (M : Nat → Nat) (m : MV) (vi : Int32) {K : Int32 → Prop} (hPO : PO_X7_stopOf m vi K  ) : yM g yX7_stopOf wsX7_stopOf ({ frames := 1, cells := 0, slots := 0, locals := 22 } : Room) [.ref (M 0), .int vi] ([modW g M m] : List va_W) (fun r w => K r ∧ w = ([modW g M m] : List va_W)) 0 0 :=
  t_X7_stopOf g M m vi (fun r0 hk => ⟨hk, rfl⟩) hPO
