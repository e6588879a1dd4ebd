theorem dX7_reads_0 : decode cX7_reads 0 = .ok (.aload_n 0, 1) := by decide +kernel
theorem dX7_reads_1 : decode cX7_reads 1 = .ok (.iconst 0, 1) := by decide +kernel
theorem dX7_reads_2 : decode cX7_reads 2 = .ok (.putfield 175, 3) := by decide +kernel
theorem dX7_reads_5 : decode cX7_reads 5 = .ok (.aload_n 0, 1) := by decide +kernel
theorem dX7_reads_6 : decode cX7_reads 6 = .ok (.iconst 1, 1) := by decide +kernel
theorem dX7_reads_7 : decode cX7_reads 7 = .ok (.putfield 178, 3) := by decide +kernel
theorem dX7_reads_10 : decode cX7_reads 10 = .ok (.aload_n 0, 1) := by decide +kernel
theorem dX7_reads_11 : decode cX7_reads 11 = .ok (.iconst 0, 1) := by decide +kernel
theorem dX7_reads_12 : decode cX7_reads 12 = .ok (.putfield 190, 3) := by decide +kernel
theorem dX7_reads_15 : decode cX7_reads 15 = .ok (.aload_n 0, 1) := by decide +kernel
theorem dX7_reads_16 : decode cX7_reads 16 = .ok (.invokevirtual 193, 3) := by decide +kernel
theorem dX7_reads_19 : decode cX7_reads 19 = .ok (.aload_n 0, 1) := by decide +kernel
theorem dX7_reads_20 : decode cX7_reads 20 = .ok (.getfield 178, 3) := by decide +kernel
theorem dX7_reads_23 : decode cX7_reads 23 = .ok (.ifCond .eq 34, 3) := by decide +kernel
theorem dX7_reads_26 : decode cX7_reads 26 = .ok (.aload_n 0, 1) := by decide +kernel
theorem dX7_reads_27 : decode cX7_reads 27 = .ok (.getfield 175, 3) := by decide +kernel
theorem dX7_reads_30 : decode cX7_reads 30 = .ok (.aload_n 0, 1) := by decide +kernel
theorem dX7_reads_31 : decode cX7_reads 31 = .ok (.getfield 172, 3) := by decide +kernel
theorem dX7_reads_34 : decode cX7_reads 34 = .ok (.if_icmp .ge 23, 3) := by decide +kernel
theorem dX7_reads_37 : decode cX7_reads 37 = .ok (.aload_n 0, 1) := by decide +kernel
theorem dX7_reads_38 : decode cX7_reads 38 = .ok (.bipush 59, 2) := by decide +kernel
theorem dX7_reads_40 : decode cX7_reads 40 = .ok (.invokevirtual 187, 3) := by decide +kernel
theorem dX7_reads_43 : decode cX7_reads 43 = .ok (.aload_n 0, 1) := by decide +kernel
theorem dX7_reads_44 : decode cX7_reads 44 = .ok (.getfield 178, 3) := by decide +kernel
theorem dX7_reads_47 : decode cX7_reads 47 = .ok (.ifCond .eq (-28), 3) := by decide +kernel
theorem dX7_reads_50 : decode cX7_reads 50 = .ok (.aload_n 0, 1) := by decide +kernel
theorem dX7_reads_51 : decode cX7_reads 51 = .ok (.invokevirtual 193, 3) := by decide +kernel
theorem dX7_reads_54 : decode cX7_reads 54 = .ok (.goto (-35), 3) := by decide +kernel
theorem dX7_reads_57 : decode cX7_reads 57 = .ok (.aload_n 0, 1) := by decide +kernel
theorem dX7_reads_58 : decode cX7_reads 58 = .ok (.getfield 178, 3) := by decide +kernel
theorem dX7_reads_61 : decode cX7_reads 61 = .ok (.ifCond .eq 8, 3) := by decide +kernel
theorem dX7_reads_64 : decode cX7_reads 64 = .ok (.bipush (-6), 2) := by decide +kernel
theorem dX7_reads_66 : decode cX7_reads 66 = .ok (.goto 7, 3) := by decide +kernel
theorem dX7_reads_69 : decode cX7_reads 69 = .ok (.aload_n 0, 1) := by decide +kernel
theorem dX7_reads_70 : decode cX7_reads 70 = .ok (.getfield 175, 3) := by decide +kernel
theorem dX7_reads_73 : decode cX7_reads 73 = .ok (.ireturn, 1) := by decide +kernel
set_option maxRecDepth 20000 in
theorem ggX7_reads_X7_wants : GoodIn wsX7_reads wsX7_wants := goodIn_r _ [26, 2, 1, 15, 16, 17, 8, 18, 4, 19, 27, 28, 29, 30, 31, 32, 33, 34, 35, 36, 37, 38, 39, 40, 41, 42, 43, 44, 45, 46, 47, 48, 49, 50, 51, 52] (by decide +kernel) (by decide +kernel)
set_option maxRecDepth 20000 in
theorem gX7_reads_X7_wants : GoodIn wsX7_reads (wsV RX7 187 RX7 yX7_wants wsX7_wants) := goodIn_app (goodIn_of _ (by decide +kernel)) ggX7_reads_X7_wants
set_option maxRecDepth 20000 in
theorem ggX7_reads_X7_readsBooking : GoodIn wsX7_reads wsX7_readsBooking := goodIn_r _ [9, 2, 10, 3, 11, 12, 13, 8, 14, 1, 15, 16, 17, 18, 4, 19, 20, 21, 22, 23, 24, 25, 26, 27, 28, 29, 30, 31, 32, 33, 34, 35, 36, 37, 38, 39, 40, 41, 42, 43, 44, 45, 46, 47, 48, 49, 50, 51, 52] (by decide +kernel) (by decide +kernel)
set_option maxRecDepth 20000 in
theorem gX7_reads_X7_readsBooking : GoodIn wsX7_reads (wsV RX7 193 RX7 yX7_readsBooking wsX7_readsBooking) := goodIn_app (goodIn_of _ (by decide +kernel)) ggX7_reads_X7_readsBooking
theorem kX7_reads_2 : Cond.fieldLink RX7 178 "BookedDetoursModel" "isWell" "Z" ∈ wsX7_reads := List.mem_of_getElem? (i := 2) (by decide +kernel)
theorem kX7_reads_1 : Cond.fieldLink RX7 175 "BookedDetoursModel" "at" "I" ∈ wsX7_reads := List.mem_of_getElem? (i := 1) (by decide +kernel)
theorem kX7_reads_4 : Cond.fieldLink RX7 172 "BookedDetoursModel" "length" "I" ∈ wsX7_reads := List.mem_of_getElem? (i := 4) (by decide +kernel)
theorem kX7_reads_3 : Cond.fieldLink RX7 190 "BookedDetoursModel" "toldMany" "I" ∈ wsX7_reads := List.mem_of_getElem? (i := 3) (by decide +kernel)
theorem hX7_reads_X7 : ∀ w ∈ u_ws RX7 TX7 26, w ∈ wsX7_reads := fun _ h => List.mem_cons_of_mem _ (List.mem_append_right _ h)
set_option maxHeartbeats 4000000 in
set_option maxRecDepth 100000 in
theorem w_X7_reads_19 {Z : yZ} (g : yG) (M : Nat → Nat) (C : yC Z g cX7_reads 1 wsX7_reads RX7) {post : Int32 → List va_W → Prop} (HR : yRi Z ({ frames := 3, cells := 0, slots := 0, locals := 68 } : Room) cX7_reads .int post 0 0) {X19 : MV → Prop} (hX19 : ∀ (m : MV), X19 m → yJ Z ({ frames := 3, cells := 0, slots := 0, locals := 68 } : Room) 0 0 ([modW g M m] : List va_W) 19 [(0, .ref (M 0))] []) {K : Int32 → MV → Prop} (hK : ∀ (r0 : Int32) (m : MV), K r0 m → post r0 ([modW g M m] : List va_W)) (m : MV) (h : wp_X7_reads_19  X19 K m) : yJ Z ({ frames := 3, cells := 0, slots := 0, locals := 68 } : Room) 0 0 ([modW g M m] : List va_W) 19 [(0, .ref (M 0))] [] := by
  unfold wp_X7_reads_19 at h
  refine y_aload_n C dX7_reads_19 0 rfl rfl ?_
  refine y_get (Cn := RX7) (T := TX7) (N := 26) (v := .int (m.1 23)) C dX7_reads_20 hX7_reads_X7 0 (sh_5000 g M m) rfl 23 (Nat.le_of_ble_eq_true rfl) kX7_reads_2 rfl ?_
  refine y_if_eq (tgt := 57) C dX7_reads_23 rfl h (fun c23 h => ?_) (fun c23 h => ?_)
  · refine y_aload_n C dX7_reads_57 0 rfl rfl ?_
    refine y_get (Cn := RX7) (T := TX7) (N := 26) (v := .int (m.1 23)) C dX7_reads_58 hX7_reads_X7 0 (sh_5000 g M m) rfl 23 (Nat.le_of_ble_eq_true rfl) kX7_reads_2 rfl ?_
    refine y_if_eq (tgt := 69) C dX7_reads_61 rfl (y_same (c := (m.1 23) = 0) h) (fun c61 h => ?_) (fun c61 h => ?_)
    · refine y_aload_n C dX7_reads_69 0 rfl rfl ?_
      refine y_get (Cn := RX7) (T := TX7) (N := 26) (v := .int (m.1 22)) C dX7_reads_70 hX7_reads_X7 0 (sh_5000 g M m) rfl 22 (Nat.le_of_ble_eq_true rfl) kX7_reads_1 rfl ?_
      exact HR 73 dX7_reads_73 (m.1 22) _ _ _ _ (rfl) (Nat.le_of_ble_eq_true rfl) (Nat.le_of_ble_eq_true rfl) (hK _ _  h)
    · exact absurd c23 c61
  · refine y_aload_n C dX7_reads_26 0 rfl rfl ?_
    refine y_get (Cn := RX7) (T := TX7) (N := 26) (v := .int (m.1 22)) C dX7_reads_27 hX7_reads_X7 0 (sh_5000 g M m) rfl 22 (Nat.le_of_ble_eq_true rfl) kX7_reads_1 rfl ?_
    refine y_aload_n C dX7_reads_30 0 rfl rfl ?_
    refine y_get (Cn := RX7) (T := TX7) (N := 26) (v := .int (m.1 8)) C dX7_reads_31 hX7_reads_X7 0 (sh_5000 g M m) rfl 8 (Nat.le_of_ble_eq_true rfl) kX7_reads_4 rfl ?_
    refine y_icmp_ge (tgt := 57) C dX7_reads_34 rfl h (fun c34 h => ?_) (fun c34 h => ?_)
    · refine y_aload_n C dX7_reads_57 0 rfl rfl ?_
      refine y_get (Cn := RX7) (T := TX7) (N := 26) (v := .int (m.1 23)) C dX7_reads_58 hX7_reads_X7 0 (sh_5000 g M m) rfl 23 (Nat.le_of_ble_eq_true rfl) kX7_reads_2 rfl ?_
      refine y_if_eq (tgt := 69) C dX7_reads_61 rfl (y_same (c := (m.1 23) = 0) h) (fun c61 h => ?_) (fun c61 h => ?_)
      · exact absurd c61 c23
      · refine y_bipush (v := -6) C dX7_reads_64 (by decide) ?_
        refine y_goto (tgt := 73) C dX7_reads_66 rfl ?_
        exact HR 73 dX7_reads_73 (-6 : Int32) _ _ _ _ (rfl) (Nat.le_of_ble_eq_true rfl) (Nat.le_of_ble_eq_true rfl) (hK _ _  h)
    · refine y_aload_n C dX7_reads_37 0 rfl rfl ?_
      refine y_bipush (v := 59) C dX7_reads_38 (by decide) ?_
      refine y_callVv (As := [.int (59 : Int32)]) (rest := []) C dX7_reads_40 (u_X7_wants g M m (59 : Int32) h) rfl rfl rfl rfl ⟨Nat.le_of_ble_eq_true rfl, Nat.le_of_ble_eq_true rfl⟩ gX7_reads_X7_wants (nA := 1) (by decide +kernel) rfl (sh_5010 g M m) (Nat.le_of_ble_eq_true rfl) ⟨Nat.le_of_ble_eq_true rfl, Nat.le_of_ble_eq_true rfl⟩ [0] [] (nB := 1) rfl (by decide +kernel) (sh_5009 g M m) (fun w9 hw => ?_)
      obtain ⟨m1, h, rfl⟩ := hw
      refine ⟨([modW g M m1] : List va_W), (sh_5023 g M m m1), ?_⟩
      refine y_aload_n C dX7_reads_43 0 rfl rfl ?_
      refine y_get (Cn := RX7) (T := TX7) (N := 26) (v := .int (m1.1 23)) C dX7_reads_44 hX7_reads_X7 0 (sh_5000 g M m1) rfl 23 (Nat.le_of_ble_eq_true rfl) kX7_reads_2 rfl ?_
      refine y_if_eq (tgt := 19) C dX7_reads_47 rfl h (fun c47 h => ?_) (fun c47 h => ?_)
      · refine y_sub (lv' := [(0, .ref (M 0))]) [0] rfl ?_
        exact hX19 _ h
      · refine y_aload_n C dX7_reads_50 0 rfl rfl ?_
        refine y_callVv (As := []) (rest := []) C dX7_reads_51 (u_X7_readsBooking g M m1 h) rfl rfl rfl rfl ⟨Nat.le_of_ble_eq_true rfl, Nat.le_of_ble_eq_true rfl⟩ gX7_reads_X7_readsBooking (nA := 0) (by decide +kernel) rfl (sh_5010 g M m1) (Nat.le_of_ble_eq_true rfl) ⟨Nat.le_of_ble_eq_true rfl, Nat.le_of_ble_eq_true rfl⟩ [0] [] (nB := 1) rfl (by decide +kernel) (sh_5009 g M m1) (fun w9 hw => ?_)
        obtain ⟨m3, h, rfl⟩ := hw
        refine ⟨([modW g M m3] : List va_W), (sh_5023 g M m1 m3), ?_⟩
        refine y_goto (tgt := 19) C dX7_reads_54 rfl ?_
        refine y_sub (lv' := [(0, .ref (M 0))]) [0] rfl ?_
        exact hX19 _ h
set_option maxHeartbeats 4000000 in
set_option maxRecDepth 100000 in
theorem l_X7_reads {Z : yZ} (g : yG) (M : Nat → Nat) (C : yC Z g cX7_reads 1 wsX7_reads RX7) {post : Int32 → List va_W → Prop} (HR : yRi Z ({ frames := 3, cells := 0, slots := 0, locals := 68 } : Room) cX7_reads .int post 0 0) {K : Int32 → MV → Prop} (hK : ∀ (r0 : Int32) (m : MV), K r0 m → post r0 ([modW g M m] : List va_W)) {I19 : Nat → MV → Prop} (o19 : ∀ (w0 : Nat) (m : MV), I19 w0 m → wp_X7_reads_19  (fun (m9 : MV) => ∃ w9, w9 < w0 ∧ I19 w9 m9) K m) : ∀ w0 : Nat, (∀ (m : MV), I19 w0 m → yJ Z ({ frames := 3, cells := 0, slots := 0, locals := 68 } : Room) 0 0 ([modW g M m] : List va_W) 19 [(0, .ref (M 0))] []) := by
  intro w0
  induction w0 using Nat.strongRecOn with
  | _ w0 ih =>
    exact fun m hi => w_X7_reads_19 g M C HR (fun m hq => by obtain ⟨w9, hlt, hi⟩ := hq; exact (ih w9 hlt) m hi) hK m (o19 w0 m hi)
set_option maxHeartbeats 4000000 in
set_option maxRecDepth 100000 in
theorem t_X7_reads (g : yG) (M : Nat → Nat) (m : MV)  {post : Int32 → List va_W → Prop} {K : Int32 → MV → Prop} (hK : ∀ (r0 : Int32) (m : MV), K r0 m → post r0 ([modW g M m] : List va_W)) (hPO : PO_X7_reads  K m ) : yM g yX7_reads wsX7_reads ({ frames := 3, cells := 0, slots := 0, locals := 68 } : Room) [.ref (M 0)] ([modW g M m] : List va_W) post 0 0 := by
  refine y_entryI (cc := cX7_reads) (maxL := 1) (by decide +kernel) rfl (Nat.le_of_ble_eq_true rfl) (fun Z C HR => ?_)
  have C : yC Z g cX7_reads 1 wsX7_reads RX7 := C
  obtain ⟨I19, o19, h⟩ := hPO
  have hX19 : ∀ (m : MV), (fun (m9 : MV) => ∃ w9, I19 w9 m9) m → yJ Z ({ frames := 3, cells := 0, slots := 0, locals := 68 } : Room) 0 0 ([modW g M m] : List va_W) 19 [(0, .ref (M 0))] [] := by
    intro m hq
    obtain ⟨w9, hi⟩ := hq
    exact (l_X7_reads g M C HR hK o19 w9) m hi
  unfold wp_X7_reads_0 at h
  show yJ Z _ 0 0 _ 0 [(0, .ref (M 0))] []
  refine y_aload_n C dX7_reads_0 0 rfl rfl ?_
  refine y_iconst (v := 0) C dX7_reads_1 (by decide) ?_
  obtain ⟨m1, em1⟩ : ∃ z : MV, z = mI m 22 (0 : Int32) := ⟨_, rfl⟩
  have h := y_letP h em1
  refine y_put (Cn := RX7) (T := TX7) (N := 26) (v := .int (0 : Int32)) (ty0 := tyX7) (L1 := ([modW g M m1] : List va_W)) C dX7_reads_2 hX7_reads_X7 0 (sh_5000 g M m) rfl 22 (Nat.le_of_ble_eq_true rfl) kX7_reads_1 tyX7_ok nmX7 rfl rfl rfl (Nat.le_of_ble_eq_true rfl) (sh_5034 g M m (0 : Int32) m1 em1) ?_
  refine y_aload_n C dX7_reads_5 0 rfl rfl ?_
  refine y_iconst (v := 1) C dX7_reads_6 (by decide) ?_
  obtain ⟨m2, em2⟩ : ∃ z : MV, z = mI m1 23 (1 : Int32) := ⟨_, rfl⟩
  have h := y_letP h em2
  refine y_put (Cn := RX7) (T := TX7) (N := 26) (v := .int (1 : Int32)) (ty0 := tyX7) (L1 := ([modW g M m2] : List va_W)) C dX7_reads_7 hX7_reads_X7 0 (sh_5000 g M m1) rfl 23 (Nat.le_of_ble_eq_true rfl) kX7_reads_2 tyX7_ok nmX7 rfl rfl rfl (Nat.le_of_ble_eq_true rfl) (sh_5033 g M m1 (1 : Int32) m2 em2) ?_
  refine y_aload_n C dX7_reads_10 0 rfl rfl ?_
  refine y_iconst (v := 0) C dX7_reads_11 (by decide) ?_
  obtain ⟨m3, em3⟩ : ∃ z : MV, z = mI m2 25 (0 : Int32) := ⟨_, rfl⟩
  have h := y_letP h em3
  refine y_put (Cn := RX7) (T := TX7) (N := 26) (v := .int (0 : Int32)) (ty0 := tyX7) (L1 := ([modW g M m3] : List va_W)) C dX7_reads_12 hX7_reads_X7 0 (sh_5000 g M m2) rfl 25 (Nat.le_of_ble_eq_true rfl) kX7_reads_3 tyX7_ok nmX7 rfl rfl rfl (Nat.le_of_ble_eq_true rfl) (sh_5037 g M m2 (0 : Int32) m3 em3) ?_
  refine y_aload_n C dX7_reads_15 0 rfl rfl ?_
  refine y_callVv (As := []) (rest := []) C dX7_reads_16 (u_X7_readsBooking g M m3 h) rfl rfl rfl rfl ⟨Nat.le_of_ble_eq_true rfl, Nat.le_of_ble_eq_true rfl⟩ gX7_reads_X7_readsBooking (nA := 0) (by decide +kernel) rfl (sh_5010 g M m3) (Nat.le_of_ble_eq_true rfl) ⟨Nat.le_of_ble_eq_true rfl, Nat.le_of_ble_eq_true rfl⟩ [0] [] (nB := 1) rfl (by decide +kernel) (sh_5009 g M m3) (fun w9 hw => ?_)
  obtain ⟨m4, h, rfl⟩ := hw
  refine ⟨([modW g M m4] : List va_W), (sh_5023 g M m3 m4), ?_⟩
  refine y_sub (lv' := [(0, .ref (M 0))]) [0] rfl ?_
  exact hX19 _ h
theorem u_X7_reads (g : yG) (M : Nat → Nat) (m : MV)  {K : Int32 → MV → Prop} (hPO : PO_X7_reads  K m ) : yM g yX7_reads wsX7_reads ({ frames := 3, cells := 0, slots := 0, locals := 68 } : Room) [.ref (M 0)] ([modW g M m] : List va_W) (fun r w => ∃ m' : MV, K r m' ∧ w = ([modW g M m'] : List va_W)) 0 0 :=
  t_X7_reads g M m  (fun r0 m hk => ⟨m, hk, rfl⟩) hPO
theorem dX7_fault_0 : decode cX7_fault 0 = .ok (.aload_n 0, 1) := by decide +kernel
theorem dX7_fault_1 : decode cX7_fault 1 = .ok (.iconst 0, 1) := by decide +kernel
theorem dX7_fault_2 : decode cX7_fault 2 = .ok (.putfield 44, 3) := by decide +kernel
theorem dX7_fault_5 : decode cX7_fault 5 = .ok (.aload_n 0, 1) := by decide +kernel
theorem dX7_fault_6 : decode cX7_fault 6 = .ok (.invokevirtual 196, 3) := by decide +kernel
theorem dX7_fault_9 : decode cX7_fault 9 = .ok (.ireturn, 1) := by decide +kernel
set_option maxRecDepth 20000 in
theorem ggX7_fault_X7_reads : GoodIn wsX7_fault wsX7_reads := goodIn_r _ [6, 7, 8, 9, 10, 11, 12, 13, 5, 14, 15, 16, 17, 18, 19, 20, 21, 22, 23, 24, 25, 26, 27, 28, 29, 30, 31, 32, 33, 34, 35, 36, 37, 38, 39, 40, 41, 42, 43, 44, 45, 46, 47, 48, 49, 50, 51, 52, 53, 54, 55, 56, 57] (by decide +kernel) (by decide +kernel)
set_option maxRecDepth 20000 in
theorem gX7_fault_X7_reads : GoodIn wsX7_fault (wsV RX7 196 RX7 yX7_reads wsX7_reads) := goodIn_app (goodIn_of _ (by decide +kernel)) ggX7_fault_X7_reads
theorem kX7_fault_1 : Cond.fieldLink RX7 44 "BookedDetoursModel" "thrown" "I" ∈ wsX7_fault := List.mem_of_getElem? (i := 1) (by decide +kernel)
theorem hX7_fault_X7 : ∀ w ∈ u_ws RX7 TX7 26, w ∈ wsX7_fault := fun _ h => List.mem_cons_of_mem _ (List.mem_append_right _ h)
set_option maxHeartbeats 4000000 in
set_option maxRecDepth 100000 in
theorem t_X7_fault (g : yG) (M : Nat → Nat) (m : MV)  {post : Int32 → List va_W → Prop} {K : Int32 → MV → Prop} (hK : ∀ (r0 : Int32) (m : MV), K r0 m → post r0 ([modW g M m] : List va_W)) (hPO : PO_X7_fault  K m ) : yM g yX7_fault wsX7_fault ({ frames := 4, cells := 0, slots := 0, locals := 88 } : Room) [.ref (M 0)] ([modW g M m] : List va_W) post 0 0 := by
  refine y_entryI (cc := cX7_fault) (maxL := 1) (by decide +kernel) rfl (Nat.le_of_ble_eq_true rfl) (fun Z C HR => ?_)
  have C : yC Z g cX7_fault 1 wsX7_fault RX7 := C
  have h := hPO
  unfold PO_X7_fault wp_X7_fault_0 at h
  show yJ Z _ 0 0 _ 0 [(0, .ref (M 0))] []
  refine y_aload_n C dX7_fault_0 0 rfl rfl ?_
  refine y_iconst (v := 0) C dX7_fault_1 (by decide) ?_
  obtain ⟨m1, em1⟩ : ∃ z : MV, z = mI m 0 (0 : Int32) := ⟨_, rfl⟩
  have h := y_letP h em1
  refine y_put (Cn := RX7) (T := TX7) (N := 26) (v := .int (0 : Int32)) (ty0 := tyX7) (L1 := ([modW g M m1] : List va_W)) C dX7_fault_2 hX7_fault_X7 0 (sh_5000 g M m) rfl 0 (Nat.le_of_ble_eq_true rfl) kX7_fault_1 tyX7_ok nmX7 rfl rfl rfl (Nat.le_of_ble_eq_true rfl) (sh_5029 g M m (0 : Int32) m1 em1) ?_
  refine y_aload_n C dX7_fault_5 0 rfl rfl ?_
  refine y_callV (As := []) (rest := []) C dX7_fault_6 (u_X7_reads g M m1 h) rfl rfl rfl rfl ⟨Nat.le_of_ble_eq_true rfl, Nat.le_of_ble_eq_true rfl⟩ gX7_fault_X7_reads (nA := 0) (by decide +kernel) rfl (sh_5010 g M m1) (Nat.le_of_ble_eq_true rfl) ⟨Nat.le_of_ble_eq_true rfl, Nat.le_of_ble_eq_true rfl⟩ [0] [] (nB := 1) rfl (by decide +kernel) (sh_5009 g M m1) (fun r4 w9 hw => ?_)
  obtain ⟨m2, h, rfl⟩ := hw
  refine ⟨([modW g M m2] : List va_W), (sh_5023 g M m1 m2), ?_⟩
  exact HR 9 dX7_fault_9 r4 _ _ _ _ (rfl) (Nat.le_of_ble_eq_true rfl) (Nat.le_of_ble_eq_true rfl) (hK _ _  h)
theorem u_X7_fault (g : yG) (M : Nat → Nat) (m : MV)  {K : Int32 → MV → Prop} (hPO : PO_X7_fault  K m ) : yM g yX7_fault wsX7_fault ({ frames := 4, cells := 0, slots := 0, locals := 88 } : Room) [.ref (M 0)] ([modW g M m] : List va_W) (fun r w => ∃ m' : MV, K r m' ∧ w = ([modW g M m'] : List va_W)) 0 0 :=
  t_X7_fault g M m  (fun r0 m hk => ⟨m, hk, rfl⟩) hPO
