theorem dX0_beReady_0 : decode cX0_beReady 0 = .ok (.aload_n 0, 1) := by decide +kernel
theorem dX0_beReady_1 : decode cX0_beReady 1 = .ok (.getfield 50, 3) := by decide +kernel
theorem dX0_beReady_4 : decode cX0_beReady 4 = .ok (.invokevirtual 70, 3) := by decide +kernel
theorem dX0_beReady_7 : decode cX0_beReady 7 = .ok (.ifCond .ne 18, 3) := by decide +kernel
theorem dX0_beReady_10 : decode cX0_beReady 10 = .ok (.aload_n 0, 1) := by decide +kernel
theorem dX0_beReady_11 : decode cX0_beReady 11 = .ok (.aload_n 0, 1) := by decide +kernel
theorem dX0_beReady_12 : decode cX0_beReady 12 = .ok (.getfield 67, 3) := by decide +kernel
theorem dX0_beReady_15 : decode cX0_beReady 15 = .ok (.aload_n 0, 1) := by decide +kernel
theorem dX0_beReady_16 : decode cX0_beReady 16 = .ok (.getfield 60, 3) := by decide +kernel
theorem dX0_beReady_19 : decode cX0_beReady 19 = .ok (.invokestatic 94, 3) := by decide +kernel
theorem dX0_beReady_22 : decode cX0_beReady 22 = .ok (.putfield 67, 3) := by decide +kernel
theorem dX0_beReady_25 : decode cX0_beReady 25 = .ok (.return_, 1) := by decide +kernel
set_option maxRecDepth 20000 in
theorem ggX0_beReady_X3_length : GoodIn wsX0_beReady wsX3_length := goodIn_r _ [12, 13, 29, 30] (by decide +kernel) (by decide +kernel)
set_option maxRecDepth 20000 in
theorem gX0_beReady_X3_length : GoodIn wsX0_beReady (wsV RX0 70 RX3 yX3_length wsX3_length) := goodIn_app (goodIn_of _ (by decide +kernel)) ggX0_beReady_X3_length
theorem kX0_beReady_1 : Cond.fieldLink RX0 50 "BookedDetours$Day" "route" "LBookedDetours$Row;" ∈ wsX0_beReady := List.mem_of_getElem? (i := 1) (by decide +kernel)
theorem kX0_beReady_2 : Cond.fieldLink RX0 67 "BookedDetours$Day" "busFree" "I" ∈ wsX0_beReady := List.mem_of_getElem? (i := 2) (by decide +kernel)
theorem kX0_beReady_3 : Cond.fieldLink RX0 60 "BookedDetours$Day" "now" "I" ∈ wsX0_beReady := List.mem_of_getElem? (i := 3) (by decide +kernel)
theorem kX0_beReady_4 : Cond.methodLink RX0 94 Lib.Math.max.name ∈ wsX0_beReady := List.mem_of_getElem? (i := 4) (by decide +kernel)
theorem kX0_beReady_5 : Cond.static Lib.Math.max.name ∈ wsX0_beReady := List.mem_of_getElem? (i := 5) (by decide +kernel)
theorem kX0_beReady_6 : Cond.initialized "java/lang/Math" ∈ wsX0_beReady := List.mem_of_getElem? (i := 6) (by decide +kernel)
theorem kX0_beReady_7 : Cond.code Lib.Math.max.name Lib.Math.max.code 2 (some .int) ∈ wsX0_beReady := List.mem_of_getElem? (i := 7) (by decide +kernel)
theorem hX0_beReady_X0 : ∀ w ∈ u_ws RX0 TX0 15, w ∈ wsX0_beReady := fun _ h => List.mem_cons_of_mem _ (List.mem_append_left _ (List.mem_append_right _ h))
set_option maxHeartbeats 4000000 in
set_option maxRecDepth 100000 in
theorem c_X0_beReady (g : yG) (A : Nat → Nat) (d : RV) (G : Nat → Nat → Int32)  : yMv g yX0_beReady wsX0_beReady ({ frames := 1, cells := 0, slots := 0, locals := 21 } : Room) [.ref (A 0)] ([dayC A d] ++ dayR g A d G : List va_W) (fun w => ∃ d' : RV, ∃ G' : Nat → Nat → Int32, d' = (f_X0_beReady d) ∧ w = ([dayC A d'] ++ dayR g A d' G' : List va_W)) 0 0 := by
  refine y_entryV (cc := cX0_beReady) (maxL := 1) (by decide +kernel) rfl (Nat.le_of_ble_eq_true rfl) (fun Z C _ HR => ?_)
  have C : yC Z g cX0_beReady 1 wsX0_beReady RX0 := C
  have h := f_X0_beReady.eq_1 d
  show yJ Z _ 0 0 _ 0 [(0, .ref (A 0))] []
  refine y_aload_n C dX0_beReady_0 0 rfl rfl ?_
  refine y_get (Cn := RX0) (T := TX0) (N := 15) (v := .ref (A 23)) C dX0_beReady_1 hX0_beReady_X0 0 (sh_3 g A d G) rfl 11 (Nat.le_of_ble_eq_true rfl) kX0_beReady_1 rfl ?_
  refine y_callV (As := []) (rest := []) C dX0_beReady_4 (c_X3_length g (A 23) (A 24) 34 (d.1 11) (G 11) (by decide)) rfl rfl rfl rfl ⟨Nat.le_of_ble_eq_true rfl, Nat.le_of_ble_eq_true rfl⟩ gX0_beReady_X3_length (nA := 0) (by decide +kernel) rfl (rowW_recv ⟨_, rfl⟩) (Nat.le_of_ble_eq_true rfl) ⟨Nat.le_of_ble_eq_true rfl, Nat.le_of_ble_eq_true rfl⟩ [12] [0, 1, 2, 3, 4, 5, 6, 7, 8, 9, 10, 11] (nB := 13) rfl (by decide +kernel) (sh_10 g A d G) (fun r1 w9 hw => ?_)
  obtain ⟨er1, rfl⟩ := hw
  have h := y_letF h er1
  refine ⟨([dayC A d] ++ dayR g A d G : List va_W), ⟨(sh_10 g A d G), rfl, rfl⟩, ?_⟩
  refine y_if_ne (tgt := 25) C dX0_beReady_7 rfl (y_e h) (fun c7 h => ?_) (fun c7 h => ?_)
  · exact HR 25 dX0_beReady_25 _ _ _ _ (Nat.le_of_ble_eq_true rfl) (Nat.le_of_ble_eq_true rfl) ⟨d, G, by rw [h], rfl⟩
  · refine y_aload_n C dX0_beReady_10 0 rfl rfl ?_
    refine y_aload_n C dX0_beReady_11 0 rfl rfl ?_
    refine y_get (Cn := RX0) (T := TX0) (N := 15) (v := .int (d.2 2)) C dX0_beReady_12 hX0_beReady_X0 0 (sh_3 g A d G) rfl 14 (Nat.le_of_ble_eq_true rfl) kX0_beReady_2 rfl ?_
    refine y_aload_n C dX0_beReady_15 0 rfl rfl ?_
    refine y_get (Cn := RX0) (T := TX0) (N := 15) (v := .int (d.2 0)) C dX0_beReady_16 hX0_beReady_X0 0 (sh_3 g A d G) rfl 12 (Nat.le_of_ble_eq_true rfl) kX0_beReady_3 rfl ?_
    refine y_mmax C dX0_beReady_19 kX0_beReady_4 kX0_beReady_5 kX0_beReady_6 kX0_beReady_7 (Nat.le_of_ble_eq_true rfl) (Nat.le_of_ble_eq_true rfl) (Nat.le_of_ble_eq_true rfl) (Nat.le_of_ble_eq_true rfl) ?_
    refine y_topi (fun m2 em2 => ?_)
    have h := y_letF h em2
    obtain ⟨d3, ed3⟩ : ∃ z : RV, z = rvI d 2 m2 := ⟨_, rfl⟩
    have h := y_letF h ed3
    refine y_put (Cn := RX0) (T := TX0) (N := 15) (v := .int m2) (ty0 := tyX0) (L1 := ([dayC A d3] ++ dayR g A d3 G : List va_W)) C dX0_beReady_22 hX0_beReady_X0 0 (sh_3 g A d G) rfl 14 (Nat.le_of_ble_eq_true rfl) kX0_beReady_2 tyX0_ok nmX0 rfl rfl rfl (Nat.le_of_ble_eq_true rfl) (sh_26 g A d G m2 d3 ed3) ?_
    exact HR 25 dX0_beReady_25 _ _ _ _ (Nat.le_of_ble_eq_true rfl) (Nat.le_of_ble_eq_true rfl) ⟨d3, G, by rw [h], rfl⟩
theorem dX0_endAtFirst_0 : decode cX0_endAtFirst 0 = .ok (.aload_n 0, 1) := by decide +kernel
theorem dX0_endAtFirst_1 : decode cX0_endAtFirst 1 = .ok (.aload_n 0, 1) := by decide +kernel
theorem dX0_endAtFirst_2 : decode cX0_endAtFirst 2 = .ok (.getfield 50, 3) := by decide +kernel
theorem dX0_endAtFirst_5 : decode cX0_endAtFirst 5 = .ok (.iconst 0, 1) := by decide +kernel
theorem dX0_endAtFirst_6 : decode cX0_endAtFirst 6 = .ok (.invokevirtual 74, 3) := by decide +kernel
theorem dX0_endAtFirst_9 : decode cX0_endAtFirst 9 = .ok (.invokevirtual 111, 3) := by decide +kernel
theorem dX0_endAtFirst_12 : decode cX0_endAtFirst 12 = .ok (.istore_n 1, 1) := by decide +kernel
theorem dX0_endAtFirst_13 : decode cX0_endAtFirst 13 = .ok (.aload_n 0, 1) := by decide +kernel
theorem dX0_endAtFirst_14 : decode cX0_endAtFirst 14 = .ok (.aload_n 0, 1) := by decide +kernel
theorem dX0_endAtFirst_15 : decode cX0_endAtFirst 15 = .ok (.getfield 67, 3) := by decide +kernel
theorem dX0_endAtFirst_18 : decode cX0_endAtFirst 18 = .ok (.aload_n 0, 1) := by decide +kernel
theorem dX0_endAtFirst_19 : decode cX0_endAtFirst 19 = .ok (.aload_n 0, 1) := by decide +kernel
theorem dX0_endAtFirst_20 : decode cX0_endAtFirst 20 = .ok (.getfield 64, 3) := by decide +kernel
theorem dX0_endAtFirst_23 : decode cX0_endAtFirst 23 = .ok (.iload_n 1, 1) := by decide +kernel
theorem dX0_endAtFirst_24 : decode cX0_endAtFirst 24 = .ok (.invokevirtual 90, 3) := by decide +kernel
theorem dX0_endAtFirst_27 : decode cX0_endAtFirst 27 = .ok (.iadd, 1) := by decide +kernel
theorem dX0_endAtFirst_28 : decode cX0_endAtFirst 28 = .ok (.aload_n 0, 1) := by decide +kernel
theorem dX0_endAtFirst_29 : decode cX0_endAtFirst 29 = .ok (.getfield 60, 3) := by decide +kernel
theorem dX0_endAtFirst_32 : decode cX0_endAtFirst 32 = .ok (.invokestatic 94, 3) := by decide +kernel
theorem dX0_endAtFirst_35 : decode cX0_endAtFirst 35 = .ok (.putfield 67, 3) := by decide +kernel
theorem dX0_endAtFirst_38 : decode cX0_endAtFirst 38 = .ok (.aload_n 0, 1) := by decide +kernel
theorem dX0_endAtFirst_39 : decode cX0_endAtFirst 39 = .ok (.iload_n 1, 1) := by decide +kernel
theorem dX0_endAtFirst_40 : decode cX0_endAtFirst 40 = .ok (.putfield 64, 3) := by decide +kernel
theorem dX0_endAtFirst_43 : decode cX0_endAtFirst 43 = .ok (.return_, 1) := by decide +kernel
set_option maxRecDepth 20000 in
theorem ggX0_endAtFirst_X3_at : GoodIn wsX0_endAtFirst wsX3_at := goodIn_r _ [13, 14, 15, 52, 53] (by decide +kernel) (by decide +kernel)
set_option maxRecDepth 20000 in
theorem gX0_endAtFirst_X3_at : GoodIn wsX0_endAtFirst (wsV RX0 74 RX3 yX3_at wsX3_at) := goodIn_app (goodIn_of _ (by decide +kernel)) ggX0_endAtFirst_X3_at
set_option maxRecDepth 20000 in
theorem ggX0_endAtFirst_X0_stopOf : GoodIn wsX0_endAtFirst wsX0_stopOf := goodIn_r _ [20, 21, 22, 23, 24, 25, 26, 27, 9, 10, 11, 12, 13, 14, 15, 37, 38, 39, 40, 41, 42, 43, 44, 45, 46, 47, 48, 49, 50, 51, 52, 53] (by decide +kernel) (by decide +kernel)
set_option maxRecDepth 20000 in
theorem gX0_endAtFirst_X0_stopOf : GoodIn wsX0_endAtFirst (wsV RX0 111 RX0 yX0_stopOf wsX0_stopOf) := goodIn_app (goodIn_of _ (by decide +kernel)) ggX0_endAtFirst_X0_stopOf
set_option maxRecDepth 20000 in
theorem ggX0_endAtFirst_X0_minutes : GoodIn wsX0_endAtFirst wsX0_minutes := goodIn_r _ [31, 32, 33, 34, 7, 35, 36, 9, 10, 11, 12, 13, 14, 15, 37, 38, 39, 40, 41, 42, 43, 44, 45, 46, 47, 48, 49, 50, 51, 52, 53] (by decide +kernel) (by decide +kernel)
set_option maxRecDepth 20000 in
theorem gX0_endAtFirst_X0_minutes : GoodIn wsX0_endAtFirst (wsV RX0 90 RX0 yX0_minutes wsX0_minutes) := goodIn_app (goodIn_of _ (by decide +kernel)) ggX0_endAtFirst_X0_minutes
theorem kX0_endAtFirst_1 : Cond.fieldLink RX0 50 "BookedDetours$Day" "route" "LBookedDetours$Row;" ∈ wsX0_endAtFirst := List.mem_of_getElem? (i := 1) (by decide +kernel)
theorem kX0_endAtFirst_2 : Cond.fieldLink RX0 67 "BookedDetours$Day" "busFree" "I" ∈ wsX0_endAtFirst := List.mem_of_getElem? (i := 2) (by decide +kernel)
theorem kX0_endAtFirst_3 : Cond.fieldLink RX0 64 "BookedDetours$Day" "busStop" "I" ∈ wsX0_endAtFirst := List.mem_of_getElem? (i := 3) (by decide +kernel)
theorem kX0_endAtFirst_4 : Cond.fieldLink RX0 60 "BookedDetours$Day" "now" "I" ∈ wsX0_endAtFirst := List.mem_of_getElem? (i := 4) (by decide +kernel)
theorem kX0_endAtFirst_5 : Cond.methodLink RX0 94 Lib.Math.max.name ∈ wsX0_endAtFirst := List.mem_of_getElem? (i := 5) (by decide +kernel)
theorem kX0_endAtFirst_6 : Cond.static Lib.Math.max.name ∈ wsX0_endAtFirst := List.mem_of_getElem? (i := 6) (by decide +kernel)
theorem kX0_endAtFirst_7 : Cond.initialized "java/lang/Math" ∈ wsX0_endAtFirst := List.mem_of_getElem? (i := 7) (by decide +kernel)
theorem kX0_endAtFirst_8 : Cond.code Lib.Math.max.name Lib.Math.max.code 2 (some .int) ∈ wsX0_endAtFirst := List.mem_of_getElem? (i := 8) (by decide +kernel)
theorem hX0_endAtFirst_X0 : ∀ w ∈ u_ws RX0 TX0 15, w ∈ wsX0_endAtFirst := fun _ h => List.mem_cons_of_mem _ (List.mem_append_left _ (List.mem_append_right _ h))
set_option maxHeartbeats 4000000 in
set_option maxRecDepth 100000 in
theorem c_X0_endAtFirst (g : yG) (A : Nat → Nat) (d : RV) (G : Nat → Nat → Int32)  : yMv g yX0_endAtFirst wsX0_endAtFirst ({ frames := 2, cells := 0, slots := 0, locals := 43 } : Room) [.ref (A 0)] ([dayC A d] ++ dayR g A d G : List va_W) (fun w => ∃ d' : RV, ∃ G' : Nat → Nat → Int32, d' = (f_X0_endAtFirst d) ∧ w = ([dayC A d'] ++ dayR g A d' G' : List va_W)) 0 0 := by
  refine y_entryV (cc := cX0_endAtFirst) (maxL := 2) (by decide +kernel) rfl (Nat.le_of_ble_eq_true rfl) (fun Z C _ HR => ?_)
  have C : yC Z g cX0_endAtFirst 2 wsX0_endAtFirst RX0 := C
  have h := f_X0_endAtFirst.eq_1 d
  show yJ Z _ 0 0 _ 0 [(0, .ref (A 0))] []
  refine y_aload_n C dX0_endAtFirst_0 0 rfl rfl ?_
  refine y_aload_n C dX0_endAtFirst_1 0 rfl rfl ?_
  refine y_get (Cn := RX0) (T := TX0) (N := 15) (v := .ref (A 23)) C dX0_endAtFirst_2 hX0_endAtFirst_X0 0 (sh_3 g A d G) rfl 11 (Nat.le_of_ble_eq_true rfl) kX0_endAtFirst_1 rfl ?_
  refine y_iconst (v := 0) C dX0_endAtFirst_5 (by decide) ?_
  refine y_callV (As := [.int (0 : Int32)]) (rest := [.ref (A 0)]) C dX0_endAtFirst_6 (c_X3_at g (A 23) (A 24) 34 (d.1 11) (G 11) (0 : Int32) (by decide)) rfl rfl rfl rfl ⟨Nat.le_of_ble_eq_true rfl, Nat.le_of_ble_eq_true rfl⟩ gX0_endAtFirst_X3_at (nA := 1) (by decide +kernel) rfl (rowW_recv ⟨_, rfl⟩) (Nat.le_of_ble_eq_true rfl) ⟨Nat.le_of_ble_eq_true rfl, Nat.le_of_ble_eq_true rfl⟩ [12] [0, 1, 2, 3, 4, 5, 6, 7, 8, 9, 10, 11] (nB := 13) rfl (by decide +kernel) (sh_10 g A d G) (fun r1 w9 hw => ?_)
  obtain ⟨er1, rfl⟩ := hw
  have h := y_letF h er1
  refine ⟨([dayC A d] ++ dayR g A d G : List va_W), ⟨(sh_10 g A d G), rfl, rfl⟩, ?_⟩
  refine y_callV (As := [.int r1]) (rest := []) C dX0_endAtFirst_9 (c_X0_stopOf g A d G r1) rfl rfl rfl rfl ⟨Nat.le_of_ble_eq_true rfl, Nat.le_of_ble_eq_true rfl⟩ gX0_endAtFirst_X0_stopOf (nA := 1) (by decide +kernel) rfl (sh_18 g A d G) (Nat.le_of_ble_eq_true rfl) ⟨Nat.le_of_ble_eq_true rfl, Nat.le_of_ble_eq_true rfl⟩ [0, 1, 2, 3, 4, 5, 6, 7, 8, 9, 10, 11, 12] [] (nB := 13) rfl (by decide +kernel) (sh_17 g A d G) (fun r2 w9 hw => ?_)
  obtain ⟨er2, rfl⟩ := hw
  have h := y_letF h er2
  refine ⟨([dayC A d] ++ dayR g A d G : List va_W), ⟨(sh_17 g A d G), rfl, rfl⟩, ?_⟩
  refine y_istore_n (lv' := [(1, .int r2), (0, .ref (A 0))]) C dX0_endAtFirst_12 rfl (Nat.le_of_ble_eq_true rfl) rfl ?_
  refine y_aload_n C dX0_endAtFirst_13 1 rfl rfl ?_
  refine y_aload_n C dX0_endAtFirst_14 1 rfl rfl ?_
  refine y_get (Cn := RX0) (T := TX0) (N := 15) (v := .int (d.2 2)) C dX0_endAtFirst_15 hX0_endAtFirst_X0 0 (sh_3 g A d G) rfl 14 (Nat.le_of_ble_eq_true rfl) kX0_endAtFirst_2 rfl ?_
  refine y_aload_n C dX0_endAtFirst_18 1 rfl rfl ?_
  refine y_aload_n C dX0_endAtFirst_19 1 rfl rfl ?_
  refine y_get (Cn := RX0) (T := TX0) (N := 15) (v := .int (d.2 1)) C dX0_endAtFirst_20 hX0_endAtFirst_X0 0 (sh_3 g A d G) rfl 13 (Nat.le_of_ble_eq_true rfl) kX0_endAtFirst_3 rfl ?_
  refine y_iload_n C dX0_endAtFirst_23 0 rfl rfl ?_
  refine y_callV (As := [.int (d.2 1), .int r2]) (rest := [.int (d.2 2), .ref (A 0)]) C dX0_endAtFirst_24 (c_X0_minutes g A d G (d.2 1) r2) rfl rfl rfl rfl ⟨Nat.le_of_ble_eq_true rfl, Nat.le_of_ble_eq_true rfl⟩ gX0_endAtFirst_X0_minutes (nA := 2) (by decide +kernel) rfl (sh_18 g A d G) (Nat.le_of_ble_eq_true rfl) ⟨Nat.le_of_ble_eq_true rfl, Nat.le_of_ble_eq_true rfl⟩ [0, 1, 2, 3, 4, 5, 6, 7, 8, 9, 10, 11, 12] [] (nB := 13) rfl (by decide +kernel) (sh_17 g A d G) (fun r3 w9 hw => ?_)
  obtain ⟨er3, rfl⟩ := hw
  have h := y_letF h er3
  refine ⟨([dayC A d] ++ dayR g A d G : List va_W), ⟨(sh_17 g A d G), rfl, rfl⟩, ?_⟩
  refine y_iadd C dX0_endAtFirst_27 ?_
  refine y_aload_n C dX0_endAtFirst_28 1 rfl rfl ?_
  refine y_get (Cn := RX0) (T := TX0) (N := 15) (v := .int (d.2 0)) C dX0_endAtFirst_29 hX0_endAtFirst_X0 0 (sh_3 g A d G) rfl 12 (Nat.le_of_ble_eq_true rfl) kX0_endAtFirst_4 rfl ?_
  refine y_mmax C dX0_endAtFirst_32 kX0_endAtFirst_5 kX0_endAtFirst_6 kX0_endAtFirst_7 kX0_endAtFirst_8 (Nat.le_of_ble_eq_true rfl) (Nat.le_of_ble_eq_true rfl) (Nat.le_of_ble_eq_true rfl) (Nat.le_of_ble_eq_true rfl) ?_
  refine y_topi (fun m4 em4 => ?_)
  have h := y_letF h em4
  obtain ⟨d5, ed5⟩ : ∃ z : RV, z = rvI d 2 m4 := ⟨_, rfl⟩
  have h := y_letF h ed5
  refine y_put (Cn := RX0) (T := TX0) (N := 15) (v := .int m4) (ty0 := tyX0) (L1 := ([dayC A d5] ++ dayR g A d5 G : List va_W)) C dX0_endAtFirst_35 hX0_endAtFirst_X0 0 (sh_3 g A d G) rfl 14 (Nat.le_of_ble_eq_true rfl) kX0_endAtFirst_2 tyX0_ok nmX0 rfl rfl rfl (Nat.le_of_ble_eq_true rfl) (sh_26 g A d G m4 d5 ed5) ?_
  refine y_aload_n C dX0_endAtFirst_38 1 rfl rfl ?_
  refine y_iload_n C dX0_endAtFirst_39 0 rfl rfl ?_
  obtain ⟨d6, ed6⟩ : ∃ z : RV, z = rvI d5 1 r2 := ⟨_, rfl⟩
  have h := y_letF h ed6
  refine y_put (Cn := RX0) (T := TX0) (N := 15) (v := .int r2) (ty0 := tyX0) (L1 := ([dayC A d6] ++ dayR g A d6 G : List va_W)) C dX0_endAtFirst_40 hX0_endAtFirst_X0 0 (sh_3 g A d5 G) rfl 13 (Nat.le_of_ble_eq_true rfl) kX0_endAtFirst_3 tyX0_ok nmX0 rfl rfl rfl (Nat.le_of_ble_eq_true rfl) (sh_27 g A d5 G r2 d6 ed6) ?_
  exact HR 43 dX0_endAtFirst_43 _ _ _ _ (Nat.le_of_ble_eq_true rfl) (Nat.le_of_ble_eq_true rfl) ⟨d6, G, by rw [h], rfl⟩
