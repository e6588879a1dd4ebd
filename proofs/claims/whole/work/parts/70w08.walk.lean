theorem dX7_laysRide_0 : decode cX7_laysRide 0 = .ok (.aload_n 0, 1) := by decide +kernel
theorem dX7_laysRide_1 : decode cX7_laysRide 1 = .ok (.getfield 7, 3) := by decide +kernel
theorem dX7_laysRide_4 : decode cX7_laysRide 4 = .ok (.iconst 4, 1) := by decide +kernel
theorem dX7_laysRide_5 : decode cX7_laysRide 5 = .ok (.iaload, 1) := by decide +kernel
theorem dX7_laysRide_6 : decode cX7_laysRide 6 = .ok (.istore 5, 2) := by decide +kernel
theorem dX7_laysRide_8 : decode cX7_laysRide 8 = .ok (.aload_n 0, 1) := by decide +kernel
theorem dX7_laysRide_9 : decode cX7_laysRide 9 = .ok (.iload 5, 2) := by decide +kernel
theorem dX7_laysRide_11 : decode cX7_laysRide 11 = .ok (.iconst 0, 1) := by decide +kernel
theorem dX7_laysRide_12 : decode cX7_laysRide 12 = .ok (.iload_n 1, 1) := by decide +kernel
theorem dX7_laysRide_13 : decode cX7_laysRide 13 = .ok (.invokevirtual 103, 3) := by decide +kernel
theorem dX7_laysRide_16 : decode cX7_laysRide 16 = .ok (.aload_n 0, 1) := by decide +kernel
theorem dX7_laysRide_17 : decode cX7_laysRide 17 = .ok (.iload 5, 2) := by decide +kernel
theorem dX7_laysRide_19 : decode cX7_laysRide 19 = .ok (.iconst 1, 1) := by decide +kernel
theorem dX7_laysRide_20 : decode cX7_laysRide 20 = .ok (.iload_n 2, 1) := by decide +kernel
theorem dX7_laysRide_21 : decode cX7_laysRide 21 = .ok (.invokevirtual 103, 3) := by decide +kernel
theorem dX7_laysRide_24 : decode cX7_laysRide 24 = .ok (.aload_n 0, 1) := by decide +kernel
theorem dX7_laysRide_25 : decode cX7_laysRide 25 = .ok (.iload 5, 2) := by decide +kernel
theorem dX7_laysRide_27 : decode cX7_laysRide 27 = .ok (.iconst 2, 1) := by decide +kernel
theorem dX7_laysRide_28 : decode cX7_laysRide 28 = .ok (.iload_n 3, 1) := by decide +kernel
theorem dX7_laysRide_29 : decode cX7_laysRide 29 = .ok (.invokevirtual 103, 3) := by decide +kernel
theorem dX7_laysRide_32 : decode cX7_laysRide 32 = .ok (.aload_n 0, 1) := by decide +kernel
theorem dX7_laysRide_33 : decode cX7_laysRide 33 = .ok (.iload 5, 2) := by decide +kernel
theorem dX7_laysRide_35 : decode cX7_laysRide 35 = .ok (.iconst 3, 1) := by decide +kernel
theorem dX7_laysRide_36 : decode cX7_laysRide 36 = .ok (.iload 4, 2) := by decide +kernel
theorem dX7_laysRide_38 : decode cX7_laysRide 38 = .ok (.invokevirtual 103, 3) := by decide +kernel
theorem dX7_laysRide_41 : decode cX7_laysRide 41 = .ok (.aload_n 0, 1) := by decide +kernel
theorem dX7_laysRide_42 : decode cX7_laysRide 42 = .ok (.iload 5, 2) := by decide +kernel
theorem dX7_laysRide_44 : decode cX7_laysRide 44 = .ok (.iconst 4, 1) := by decide +kernel
theorem dX7_laysRide_45 : decode cX7_laysRide 45 = .ok (.iconst 0, 1) := by decide +kernel
theorem dX7_laysRide_46 : decode cX7_laysRide 46 = .ok (.invokevirtual 103, 3) := by decide +kernel
theorem dX7_laysRide_49 : decode cX7_laysRide 49 = .ok (.aload_n 0, 1) := by decide +kernel
theorem dX7_laysRide_50 : decode cX7_laysRide 50 = .ok (.iload 5, 2) := by decide +kernel
theorem dX7_laysRide_52 : decode cX7_laysRide 52 = .ok (.iconst 5, 1) := by decide +kernel
theorem dX7_laysRide_53 : decode cX7_laysRide 53 = .ok (.bipush (-6), 2) := by decide +kernel
theorem dX7_laysRide_55 : decode cX7_laysRide 55 = .ok (.invokevirtual 103, 3) := by decide +kernel
theorem dX7_laysRide_58 : decode cX7_laysRide 58 = .ok (.aload_n 0, 1) := by decide +kernel
theorem dX7_laysRide_59 : decode cX7_laysRide 59 = .ok (.iload 5, 2) := by decide +kernel
theorem dX7_laysRide_61 : decode cX7_laysRide 61 = .ok (.bipush 6, 2) := by decide +kernel
theorem dX7_laysRide_63 : decode cX7_laysRide 63 = .ok (.bipush (-6), 2) := by decide +kernel
theorem dX7_laysRide_65 : decode cX7_laysRide 65 = .ok (.invokevirtual 103, 3) := by decide +kernel
theorem dX7_laysRide_68 : decode cX7_laysRide 68 = .ok (.iload 5, 2) := by decide +kernel
theorem dX7_laysRide_70 : decode cX7_laysRide 70 = .ok (.ireturn, 1) := by decide +kernel
set_option maxRecDepth 20000 in
theorem ggX7_laysRide_X7_lay : GoodIn wsX7_laysRide wsX7_lay := goodIn_r _ [6, 1, 7, 8, 9, 10, 11, 12, 13, 14, 15, 16, 17, 18, 19, 20, 21, 22, 23, 24, 25, 26, 27, 28, 29, 30, 31, 32] (by decide +kernel) (by decide +kernel)
set_option maxRecDepth 20000 in
theorem gX7_laysRide_X7_lay : GoodIn wsX7_laysRide (wsV RX7 103 RX7 yX7_lay wsX7_lay) := goodIn_app (goodIn_of _ (by decide +kernel)) ggX7_laysRide_X7_lay
theorem kX7_laysRide_1 : Cond.fieldLink RX7 7 "BookedDetoursModel" "s" "[I" ∈ wsX7_laysRide := List.mem_of_getElem? (i := 1) (by decide +kernel)
theorem hX7_laysRide_X7 : ∀ w ∈ u_ws RX7 TX7 26, w ∈ wsX7_laysRide := fun _ h => List.mem_cons_of_mem _ (List.mem_append_right _ h)
set_option maxHeartbeats 4000000 in
set_option maxRecDepth 100000 in
theorem t_X7_laysRide (g : yG) (M : Nat → Nat) (m : MV) (fr : Int32) (to : Int32) (wa : Int32) (bt : Int32) {post : Int32 → List va_W → Prop} {K : Int32 → MV → Prop} (hK : ∀ (r0 : Int32) (m : MV), K r0 m → post r0 ([modW g M m] : List va_W)) (hPO : PO_X7_laysRide fr to wa bt K m ) : yM g yX7_laysRide wsX7_laysRide ({ frames := 1, cells := 0, slots := 0, locals := 23 } : Room) [.ref (M 0), .int fr, .int to, .int wa, .int bt] ([modW g M m] : List va_W) post 0 0 := by
  refine y_entryI (cc := cX7_laysRide) (maxL := 6) (by decide +kernel) rfl (Nat.le_of_ble_eq_true rfl) (fun Z C HR => ?_)
  have C : yC Z g cX7_laysRide 6 wsX7_laysRide RX7 := C
  have h := hPO
  unfold PO_X7_laysRide wp_X7_laysRide_0 at h
  show yJ Z _ 0 0 _ 0 [(0, .ref (M 0)), (1, .int fr), (2, .int to), (3, .int wa), (4, .int bt)] []
  refine y_aload_n C dX7_laysRide_0 0 rfl rfl ?_
  refine y_get (Cn := RX7) (T := TX7) (N := 26) (v := .ref (M 1)) C dX7_laysRide_1 hX7_laysRide_X7 0 (sh_5000 g M m) rfl 1 (Nat.le_of_ble_eq_true rfl) kX7_laysRide_1 rfl ?_
  refine y_iconst (v := 4) C dX7_laysRide_4 (by decide) ?_
  obtain ⟨hb1, h⟩ := h
  refine y_iald (N := 186) (f := (m.2 1)) C dX7_laysRide_5 1 (sh_5001 g M m) hb1 ?_
  refine y_istore (lv' := [(5, .int ((m.2 1) (4 : Int32).toNatClampNeg)), (0, .ref (M 0)), (1, .int fr), (2, .int to), (3, .int wa), (4, .int bt)]) C dX7_laysRide_6 (Nat.le_of_ble_eq_true rfl) rfl ?_
  refine y_aload_n C dX7_laysRide_8 1 rfl rfl ?_
  refine y_iload C dX7_laysRide_9 0 rfl ?_
  refine y_iconst (v := 0) C dX7_laysRide_11 (by decide) ?_
  refine y_iload_n C dX7_laysRide_12 2 rfl rfl ?_
  refine y_callVv (As := [.int ((m.2 1) (4 : Int32).toNatClampNeg), .int (0 : Int32), .int fr]) (rest := []) C dX7_laysRide_13 (u_X7_lay g M m ((m.2 1) (4 : Int32).toNatClampNeg) (0 : Int32) fr h) rfl rfl rfl rfl ⟨Nat.le_of_ble_eq_true rfl, Nat.le_of_ble_eq_true rfl⟩ gX7_laysRide_X7_lay (nA := 3) (by decide +kernel) rfl (sh_5010 g M m) (Nat.le_of_ble_eq_true rfl) ⟨Nat.le_of_ble_eq_true rfl, Nat.le_of_ble_eq_true rfl⟩ [0] [] (nB := 1) rfl (by decide +kernel) (sh_5009 g M m) (fun w9 hw => ?_)
  obtain ⟨m2, h, rfl⟩ := hw
  refine ⟨([modW g M m2] : List va_W), (sh_5023 g M m m2), ?_⟩
  refine y_aload_n C dX7_laysRide_16 1 rfl rfl ?_
  refine y_iload C dX7_laysRide_17 0 rfl ?_
  refine y_iconst (v := 1) C dX7_laysRide_19 (by decide) ?_
  refine y_iload_n C dX7_laysRide_20 3 rfl rfl ?_
  refine y_callVv (As := [.int ((m.2 1) (4 : Int32).toNatClampNeg), .int (1 : Int32), .int to]) (rest := []) C dX7_laysRide_21 (u_X7_lay g M m2 ((m.2 1) (4 : Int32).toNatClampNeg) (1 : Int32) to h) rfl rfl rfl rfl ⟨Nat.le_of_ble_eq_true rfl, Nat.le_of_ble_eq_true rfl⟩ gX7_laysRide_X7_lay (nA := 3) (by decide +kernel) rfl (sh_5010 g M m2) (Nat.le_of_ble_eq_true rfl) ⟨Nat.le_of_ble_eq_true rfl, Nat.le_of_ble_eq_true rfl⟩ [0] [] (nB := 1) rfl (by decide +kernel) (sh_5009 g M m2) (fun w9 hw => ?_)
  obtain ⟨m4, h, rfl⟩ := hw
  refine ⟨([modW g M m4] : List va_W), (sh_5023 g M m2 m4), ?_⟩
  refine y_aload_n C dX7_laysRide_24 1 rfl rfl ?_
  refine y_iload C dX7_laysRide_25 0 rfl ?_
  refine y_iconst (v := 2) C dX7_laysRide_27 (by decide) ?_
  refine y_iload_n C dX7_laysRide_28 4 rfl rfl ?_
  refine y_callVv (As := [.int ((m.2 1) (4 : Int32).toNatClampNeg), .int (2 : Int32), .int wa]) (rest := []) C dX7_laysRide_29 (u_X7_lay g M m4 ((m.2 1) (4 : Int32).toNatClampNeg) (2 : Int32) wa h) rfl rfl rfl rfl ⟨Nat.le_of_ble_eq_true rfl, Nat.le_of_ble_eq_true rfl⟩ gX7_laysRide_X7_lay (nA := 3) (by decide +kernel) rfl (sh_5010 g M m4) (Nat.le_of_ble_eq_true rfl) ⟨Nat.le_of_ble_eq_true rfl, Nat.le_of_ble_eq_true rfl⟩ [0] [] (nB := 1) rfl (by decide +kernel) (sh_5009 g M m4) (fun w9 hw => ?_)
  obtain ⟨m6, h, rfl⟩ := hw
  refine ⟨([modW g M m6] : List va_W), (sh_5023 g M m4 m6), ?_⟩
  refine y_aload_n C dX7_laysRide_32 1 rfl rfl ?_
  refine y_iload C dX7_laysRide_33 0 rfl ?_
  refine y_iconst (v := 3) C dX7_laysRide_35 (by decide) ?_
  refine y_iload C dX7_laysRide_36 5 rfl ?_
  refine y_callVv (As := [.int ((m.2 1) (4 : Int32).toNatClampNeg), .int (3 : Int32), .int bt]) (rest := []) C dX7_laysRide_38 (u_X7_lay g M m6 ((m.2 1) (4 : Int32).toNatClampNeg) (3 : Int32) bt h) rfl rfl rfl rfl ⟨Nat.le_of_ble_eq_true rfl, Nat.le_of_ble_eq_true rfl⟩ gX7_laysRide_X7_lay (nA := 3) (by decide +kernel) rfl (sh_5010 g M m6) (Nat.le_of_ble_eq_true rfl) ⟨Nat.le_of_ble_eq_true rfl, Nat.le_of_ble_eq_true rfl⟩ [0] [] (nB := 1) rfl (by decide +kernel) (sh_5009 g M m6) (fun w9 hw => ?_)
  obtain ⟨m8, h, rfl⟩ := hw
  refine ⟨([modW g M m8] : List va_W), (sh_5023 g M m6 m8), ?_⟩
  refine y_aload_n C dX7_laysRide_41 1 rfl rfl ?_
  refine y_iload C dX7_laysRide_42 0 rfl ?_
  refine y_iconst (v := 4) C dX7_laysRide_44 (by decide) ?_
  refine y_iconst (v := 0) C dX7_laysRide_45 (by decide) ?_
  refine y_callVv (As := [.int ((m.2 1) (4 : Int32).toNatClampNeg), .int (4 : Int32), .int (0 : Int32)]) (rest := []) C dX7_laysRide_46 (u_X7_lay g M m8 ((m.2 1) (4 : Int32).toNatClampNeg) (4 : Int32) (0 : Int32) h) rfl rfl rfl rfl ⟨Nat.le_of_ble_eq_true rfl, Nat.le_of_ble_eq_true rfl⟩ gX7_laysRide_X7_lay (nA := 3) (by decide +kernel) rfl (sh_5010 g M m8) (Nat.le_of_ble_eq_true rfl) ⟨Nat.le_of_ble_eq_true rfl, Nat.le_of_ble_eq_true rfl⟩ [0] [] (nB := 1) rfl (by decide +kernel) (sh_5009 g M m8) (fun w9 hw => ?_)
  obtain ⟨m10, h, rfl⟩ := hw
  refine ⟨([modW g M m10] : List va_W), (sh_5023 g M m8 m10), ?_⟩
  refine y_aload_n C dX7_laysRide_49 1 rfl rfl ?_
  refine y_iload C dX7_laysRide_50 0 rfl ?_
  refine y_iconst (v := 5) C dX7_laysRide_52 (by decide) ?_
  refine y_bipush (v := -6) C dX7_laysRide_53 (by decide) ?_
  refine y_callVv (As := [.int ((m.2 1) (4 : Int32).toNatClampNeg), .int (5 : Int32), .int (-6 : Int32)]) (rest := []) C dX7_laysRide_55 (u_X7_lay g M m10 ((m.2 1) (4 : Int32).toNatClampNeg) (5 : Int32) (-6 : Int32) h) rfl rfl rfl rfl ⟨Nat.le_of_ble_eq_true rfl, Nat.le_of_ble_eq_true rfl⟩ gX7_laysRide_X7_lay (nA := 3) (by decide +kernel) rfl (sh_5010 g M m10) (Nat.le_of_ble_eq_true rfl) ⟨Nat.le_of_ble_eq_true rfl, Nat.le_of_ble_eq_true rfl⟩ [0] [] (nB := 1) rfl (by decide +kernel) (sh_5009 g M m10) (fun w9 hw => ?_)
  obtain ⟨m12, h, rfl⟩ := hw
  refine ⟨([modW g M m12] : List va_W), (sh_5023 g M m10 m12), ?_⟩
  refine y_aload_n C dX7_laysRide_58 1 rfl rfl ?_
  refine y_iload C dX7_laysRide_59 0 rfl ?_
  refine y_bipush (v := 6) C dX7_laysRide_61 (by decide) ?_
  refine y_bipush (v := -6) C dX7_laysRide_63 (by decide) ?_
  refine y_callVv (As := [.int ((m.2 1) (4 : Int32).toNatClampNeg), .int (6 : Int32), .int (-6 : Int32)]) (rest := []) C dX7_laysRide_65 (u_X7_lay g M m12 ((m.2 1) (4 : Int32).toNatClampNeg) (6 : Int32) (-6 : Int32) h) rfl rfl rfl rfl ⟨Nat.le_of_ble_eq_true rfl, Nat.le_of_ble_eq_true rfl⟩ gX7_laysRide_X7_lay (nA := 3) (by decide +kernel) rfl (sh_5010 g M m12) (Nat.le_of_ble_eq_true rfl) ⟨Nat.le_of_ble_eq_true rfl, Nat.le_of_ble_eq_true rfl⟩ [0] [] (nB := 1) rfl (by decide +kernel) (sh_5009 g M m12) (fun w9 hw => ?_)
  obtain ⟨m14, h, rfl⟩ := hw
  refine ⟨([modW g M m14] : List va_W), (sh_5023 g M m12 m14), ?_⟩
  refine y_iload C dX7_laysRide_68 0 rfl ?_
  exact HR 70 dX7_laysRide_70 ((m.2 1) (4 : Int32).toNatClampNeg) _ _ _ _ (rfl) (Nat.le_of_ble_eq_true rfl) (Nat.le_of_ble_eq_true rfl) (hK _ _  h)
theorem u_X7_laysRide (g : yG) (M : Nat → Nat) (m : MV) (fr : Int32) (to : Int32) (wa : Int32) (bt : Int32) {K : Int32 → MV → Prop} (hPO : PO_X7_laysRide fr to wa bt K m ) : yM g yX7_laysRide wsX7_laysRide ({ frames := 1, cells := 0, slots := 0, locals := 23 } : Room) [.ref (M 0), .int fr, .int to, .int wa, .int bt] ([modW g M m] : List va_W) (fun r w => ∃ m' : MV, K r m' ∧ w = ([modW g M m'] : List va_W)) 0 0 :=
  t_X7_laysRide g M m fr to wa bt (fun r0 m hk => ⟨m, hk, rfl⟩) hPO
