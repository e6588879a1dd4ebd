theorem dX7_stop_0 : decode cX7_stop 0 = .ok (.aload_n 0, 1) := by decide +kernel
theorem dX7_stop_1 : decode cX7_stop 1 = .ok (.iconst 0, 1) := by decide +kernel
theorem dX7_stop_2 : decode cX7_stop 2 = .ok (.putfield 44, 3) := by decide +kernel
theorem dX7_stop_5 : decode cX7_stop 5 = .ok (.iload_n 1, 1) := by decide +kernel
theorem dX7_stop_6 : decode cX7_stop 6 = .ok (.iconst 0, 1) := by decide +kernel
theorem dX7_stop_7 : decode cX7_stop 7 = .ok (.bipush 30, 2) := by decide +kernel
theorem dX7_stop_9 : decode cX7_stop 9 = .ok (.invokestatic 48, 3) := by decide +kernel
theorem dX7_stop_12 : decode cX7_stop 12 = .ok (.ifCond .eq 13, 3) := by decide +kernel
theorem dX7_stop_15 : decode cX7_stop 15 = .ok (.iload_n 2, 1) := by decide +kernel
theorem dX7_stop_16 : decode cX7_stop 16 = .ok (.iconst 0, 1) := by decide +kernel
theorem dX7_stop_17 : decode cX7_stop 17 = .ok (.bipush 30, 2) := by decide +kernel
theorem dX7_stop_19 : decode cX7_stop 19 = .ok (.invokestatic 48, 3) := by decide +kernel
theorem dX7_stop_22 : decode cX7_stop 22 = .ok (.ifCond .ne 6, 3) := by decide +kernel
theorem dX7_stop_25 : decode cX7_stop 25 = .ok (.bipush (-2), 2) := by decide +kernel
theorem dX7_stop_27 : decode cX7_stop 27 = .ok (.ireturn, 1) := by decide +kernel
theorem dX7_stop_28 : decode cX7_stop 28 = .ok (.aload_n 0, 1) := by decide +kernel
theorem dX7_stop_29 : decode cX7_stop 29 = .ok (.getfield 7, 3) := by decide +kernel
theorem dX7_stop_32 : decode cX7_stop 32 = .ok (.iconst 3, 1) := by decide +kernel
theorem dX7_stop_33 : decode cX7_stop 33 = .ok (.iaload, 1) := by decide +kernel
theorem dX7_stop_34 : decode cX7_stop 34 = .ok (.bipush 12, 2) := by decide +kernel
theorem dX7_stop_36 : decode cX7_stop 36 = .ok (.if_icmp .ne 6, 3) := by decide +kernel
theorem dX7_stop_39 : decode cX7_stop 39 = .ok (.bipush (-4), 2) := by decide +kernel
theorem dX7_stop_41 : decode cX7_stop 41 = .ok (.ireturn, 1) := by decide +kernel
theorem dX7_stop_42 : decode cX7_stop 42 = .ok (.aload_n 0, 1) := by decide +kernel
theorem dX7_stop_43 : decode cX7_stop 43 = .ok (.invokevirtual 149, 3) := by decide +kernel
theorem dX7_stop_46 : decode cX7_stop 46 = .ok (.aload_n 0, 1) := by decide +kernel
theorem dX7_stop_47 : decode cX7_stop 47 = .ok (.getfield 7, 3) := by decide +kernel
theorem dX7_stop_50 : decode cX7_stop 50 = .ok (.bipush 9, 2) := by decide +kernel
theorem dX7_stop_52 : decode cX7_stop 52 = .ok (.iconst 2, 1) := by decide +kernel
theorem dX7_stop_53 : decode cX7_stop 53 = .ok (.aload_n 0, 1) := by decide +kernel
theorem dX7_stop_54 : decode cX7_stop 54 = .ok (.getfield 7, 3) := by decide +kernel
theorem dX7_stop_57 : decode cX7_stop 57 = .ok (.iconst 3, 1) := by decide +kernel
theorem dX7_stop_58 : decode cX7_stop 58 = .ok (.iaload, 1) := by decide +kernel
theorem dX7_stop_59 : decode cX7_stop 59 = .ok (.imul, 1) := by decide +kernel
theorem dX7_stop_60 : decode cX7_stop 60 = .ok (.iadd, 1) := by decide +kernel
theorem dX7_stop_61 : decode cX7_stop 61 = .ok (.iload_n 1, 1) := by decide +kernel
theorem dX7_stop_62 : decode cX7_stop 62 = .ok (.iastore, 1) := by decide +kernel
theorem dX7_stop_63 : decode cX7_stop 63 = .ok (.aload_n 0, 1) := by decide +kernel
theorem dX7_stop_64 : decode cX7_stop 64 = .ok (.getfield 7, 3) := by decide +kernel
theorem dX7_stop_67 : decode cX7_stop 67 = .ok (.bipush 9, 2) := by decide +kernel
theorem dX7_stop_69 : decode cX7_stop 69 = .ok (.iconst 2, 1) := by decide +kernel
theorem dX7_stop_70 : decode cX7_stop 70 = .ok (.aload_n 0, 1) := by decide +kernel
theorem dX7_stop_71 : decode cX7_stop 71 = .ok (.getfield 7, 3) := by decide +kernel
theorem dX7_stop_74 : decode cX7_stop 74 = .ok (.iconst 3, 1) := by decide +kernel
theorem dX7_stop_75 : decode cX7_stop 75 = .ok (.iaload, 1) := by decide +kernel
theorem dX7_stop_76 : decode cX7_stop 76 = .ok (.imul, 1) := by decide +kernel
theorem dX7_stop_77 : decode cX7_stop 77 = .ok (.iadd, 1) := by decide +kernel
theorem dX7_stop_78 : decode cX7_stop 78 = .ok (.iconst 1, 1) := by decide +kernel
theorem dX7_stop_79 : decode cX7_stop 79 = .ok (.iadd, 1) := by decide +kernel
theorem dX7_stop_80 : decode cX7_stop 80 = .ok (.iload_n 2, 1) := by decide +kernel
theorem dX7_stop_81 : decode cX7_stop 81 = .ok (.iastore, 1) := by decide +kernel
theorem dX7_stop_82 : decode cX7_stop 82 = .ok (.aload_n 0, 1) := by decide +kernel
theorem dX7_stop_83 : decode cX7_stop 83 = .ok (.getfield 7, 3) := by decide +kernel
theorem dX7_stop_86 : decode cX7_stop 86 = .ok (.iconst 3, 1) := by decide +kernel
theorem dX7_stop_87 : decode cX7_stop 87 = .ok (.dup2, 1) := by decide +kernel
theorem dX7_stop_88 : decode cX7_stop 88 = .ok (.iaload, 1) := by decide +kernel
theorem dX7_stop_89 : decode cX7_stop 89 = .ok (.iconst 1, 1) := by decide +kernel
theorem dX7_stop_90 : decode cX7_stop 90 = .ok (.iadd, 1) := by decide +kernel
theorem dX7_stop_91 : decode cX7_stop 91 = .ok (.iastore, 1) := by decide +kernel
theorem dX7_stop_92 : decode cX7_stop 92 = .ok (.aload_n 0, 1) := by decide +kernel
theorem dX7_stop_93 : decode cX7_stop 93 = .ok (.getfield 7, 3) := by decide +kernel
theorem dX7_stop_96 : decode cX7_stop 96 = .ok (.iconst 3, 1) := by decide +kernel
theorem dX7_stop_97 : decode cX7_stop 97 = .ok (.iaload, 1) := by decide +kernel
theorem dX7_stop_98 : decode cX7_stop 98 = .ok (.iconst 1, 1) := by decide +kernel
theorem dX7_stop_99 : decode cX7_stop 99 = .ok (.isub, 1) := by decide +kernel
theorem dX7_stop_100 : decode cX7_stop 100 = .ok (.ireturn, 1) := by decide +kernel
set_option maxRecDepth 20000 in
theorem ggX7_stop_X7_in : GoodIn wsX7_stop wsX7_in := goodIn_r _ [6] (by decide +kernel) (by decide +kernel)
set_option maxRecDepth 20000 in
theorem gX7_stop_X7_in : GoodIn wsX7_stop (va_wsS RX7 48 yX7_in wsX7_in) := goodIn_app (goodIn_of _ (by decide +kernel)) ggX7_stop_X7_in
set_option maxRecDepth 20000 in
theorem ggX7_stop_X7_records : GoodIn wsX7_stop wsX7_records := goodIn_r _ [10, 11, 12, 2, 13, 14, 15, 16, 17, 18, 19, 20, 21, 22, 23, 24, 25, 26, 27, 28, 29, 30, 31, 32, 33, 34, 35, 36, 37, 38] (by decide +kernel) (by decide +kernel)
set_option maxRecDepth 20000 in
theorem gX7_stop_X7_records : GoodIn wsX7_stop (wsV RX7 149 RX7 yX7_records wsX7_records) := goodIn_app (goodIn_of _ (by decide +kernel)) ggX7_stop_X7_records
theorem kX7_stop_1 : Cond.fieldLink RX7 44 "BookedDetoursModel" "thrown" "I" ∈ wsX7_stop := List.mem_of_getElem? (i := 1) (by decide +kernel)
theorem kX7_stop_2 : Cond.fieldLink RX7 7 "BookedDetoursModel" "s" "[I" ∈ wsX7_stop := List.mem_of_getElem? (i := 2) (by decide +kernel)
theorem hX7_stop_X7 : ∀ w ∈ u_ws RX7 TX7 26, w ∈ wsX7_stop := fun _ h => List.mem_cons_of_mem _ (List.mem_append_right _ h)
set_option maxHeartbeats 4000000 in
set_option maxRecDepth 100000 in
theorem t_X7_stop (g : yG) (M : Nat → Nat) (m : MV) (px : Int32) (py : Int32) {post : Int32 → List va_W → Prop} {K : Int32 → MV → Prop} (hK : ∀ (r0 : Int32) (m : MV), K r0 m → post r0 ([modW g M m] : List va_W)) (hPO : PO_X7_stop px py K m ) : yM g yX7_stop wsX7_stop ({ frames := 1, cells := 0, slots := 0, locals := 22 } : Room) [.ref (M 0), .int px, .int py] ([modW g M m] : List va_W) post 0 0 := by
  refine y_entryI (cc := cX7_stop) (maxL := 3) (by decide +kernel) rfl (Nat.le_of_ble_eq_true rfl) (fun Z C HR => ?_)
  have C : yC Z g cX7_stop 3 wsX7_stop RX7 := C
  have h := hPO
  unfold PO_X7_stop wp_X7_stop_0 at h
  show yJ Z _ 0 0 _ 0 [(0, .ref (M 0)), (1, .int px), (2, .int py)] []
  refine y_aload_n C dX7_stop_0 0 rfl rfl ?_
  refine y_iconst (v := 0) C dX7_stop_1 (by decide) ?_
  obtain ⟨m1, em1⟩ : ∃ z : MV, z = mI m 0 (0 : Int32) := ⟨_, rfl⟩
  have h := y_letP h em1
  refine y_put (Cn := RX7) (T := TX7) (N := 26) (v := .int (0 : Int32)) (ty0 := tyX7) (L1 := ([modW g M m1] : List va_W)) C dX7_stop_2 hX7_stop_X7 0 (sh_5000 g M m) rfl 0 (Nat.le_of_ble_eq_true rfl) kX7_stop_1 tyX7_ok nmX7 rfl rfl rfl (Nat.le_of_ble_eq_true rfl) (sh_5029 g M m (0 : Int32) m1 em1) ?_
  refine y_iload_n C dX7_stop_5 1 rfl rfl ?_
  refine y_iconst (v := 0) C dX7_stop_6 (by decide) ?_
  refine y_bipush (v := 30) C dX7_stop_7 (by decide) ?_
  refine y_callS (As := [.int px, .int (0 : Int32), .int (30 : Int32)]) (rest := []) C dX7_stop_9 (c_X7_in g px (0 : Int32) (30 : Int32)) rfl rfl rfl rfl ⟨Nat.le_of_ble_eq_true rfl, Nat.le_of_ble_eq_true rfl⟩ gX7_stop_X7_in (nA := 3) (by decide +kernel) rfl (Nat.le_of_ble_eq_true rfl) ⟨Nat.le_of_ble_eq_true rfl, Nat.le_of_ble_eq_true rfl⟩ [] [0] (nB := 1) rfl (by decide +kernel) (sh_5002 g M m1) (fun r2 w9 hw => ?_)
  obtain ⟨er2, rfl⟩ := hw
  have h := y_letP h er2
  refine ⟨([modW g M m1] : List va_W), ⟨(sh_5002 g M m1), rfl, rfl⟩, ?_⟩
  refine y_if_eq (tgt := 25) C dX7_stop_12 rfl h (fun c12 h => ?_) (fun c12 h => ?_)
  · refine y_bipush (v := -2) C dX7_stop_25 (by decide) ?_
    exact HR 27 dX7_stop_27 (-2 : Int32) _ _ _ _ (rfl) (Nat.le_of_ble_eq_true rfl) (Nat.le_of_ble_eq_true rfl) (hK _ _  h)
  · refine y_iload_n C dX7_stop_15 2 rfl rfl ?_
    refine y_iconst (v := 0) C dX7_stop_16 (by decide) ?_
    refine y_bipush (v := 30) C dX7_stop_17 (by decide) ?_
    refine y_callS (As := [.int py, .int (0 : Int32), .int (30 : Int32)]) (rest := []) C dX7_stop_19 (c_X7_in g py (0 : Int32) (30 : Int32)) rfl rfl rfl rfl ⟨Nat.le_of_ble_eq_true rfl, Nat.le_of_ble_eq_true rfl⟩ gX7_stop_X7_in (nA := 3) (by decide +kernel) rfl (Nat.le_of_ble_eq_true rfl) ⟨Nat.le_of_ble_eq_true rfl, Nat.le_of_ble_eq_true rfl⟩ [] [0] (nB := 1) rfl (by decide +kernel) (sh_5002 g M m1) (fun r3 w9 hw => ?_)
    obtain ⟨er3, rfl⟩ := hw
    have h := y_letP h er3
    refine ⟨([modW g M m1] : List va_W), ⟨(sh_5002 g M m1), rfl, rfl⟩, ?_⟩
    refine y_if_ne (tgt := 28) C dX7_stop_22 rfl h (fun c22 h => ?_) (fun c22 h => ?_)
    · refine y_aload_n C dX7_stop_28 0 rfl rfl ?_
      refine y_get (Cn := RX7) (T := TX7) (N := 26) (v := .ref (M 1)) C dX7_stop_29 hX7_stop_X7 0 (sh_5000 g M m1) rfl 1 (Nat.le_of_ble_eq_true rfl) kX7_stop_2 rfl ?_
      refine y_iconst (v := 3) C dX7_stop_32 (by decide) ?_
      obtain ⟨hb4, h⟩ := h
      refine y_iald (N := 186) (f := (m1.2 1)) C dX7_stop_33 1 (sh_5001 g M m1) hb4 ?_
      refine y_bipush (v := 12) C dX7_stop_34 (by decide) ?_
      refine y_icmp_ne (tgt := 42) C dX7_stop_36 rfl h (fun c36 h => ?_) (fun c36 h => ?_)
      · refine y_aload_n C dX7_stop_42 0 rfl rfl ?_
        refine y_callVv (As := []) (rest := []) C dX7_stop_43 (u_X7_records g M m1 h) rfl rfl rfl rfl ⟨Nat.le_of_ble_eq_true rfl, Nat.le_of_ble_eq_true rfl⟩ gX7_stop_X7_records (nA := 0) (by decide +kernel) rfl (sh_5010 g M m1) (Nat.le_of_ble_eq_true rfl) ⟨Nat.le_of_ble_eq_true rfl, Nat.le_of_ble_eq_true rfl⟩ [0] [] (nB := 1) rfl (by decide +kernel) (sh_5009 g M m1) (fun w9 hw => ?_)
        obtain ⟨m5, h, rfl⟩ := hw
        refine ⟨([modW g M m5] : List va_W), (sh_5023 g M m1 m5), ?_⟩
        refine y_aload_n C dX7_stop_46 0 rfl rfl ?_
        refine y_get (Cn := RX7) (T := TX7) (N := 26) (v := .ref (M 1)) C dX7_stop_47 hX7_stop_X7 0 (sh_5000 g M m5) rfl 1 (Nat.le_of_ble_eq_true rfl) kX7_stop_2 rfl ?_
        refine y_bipush (v := 9) C dX7_stop_50 (by decide) ?_
        refine y_iconst (v := 2) C dX7_stop_52 (by decide) ?_
        refine y_aload_n C dX7_stop_53 0 rfl rfl ?_
        refine y_get (Cn := RX7) (T := TX7) (N := 26) (v := .ref (M 1)) C dX7_stop_54 hX7_stop_X7 0 (sh_5000 g M m5) rfl 1 (Nat.le_of_ble_eq_true rfl) kX7_stop_2 rfl ?_
        refine y_iconst (v := 3) C dX7_stop_57 (by decide) ?_
        obtain ⟨hb7, h⟩ := h
        refine y_iald (N := 186) (f := (m5.2 1)) C dX7_stop_58 1 (sh_5001 g M m5) hb7 ?_
        refine y_imul C dX7_stop_59 ?_
        refine y_iadd C dX7_stop_60 ?_
        refine y_iload_n C dX7_stop_61 1 rfl rfl ?_
        obtain ⟨hb8, h⟩ := h
        obtain ⟨m9, em9⟩ : ∃ z : MV, z = mA m5 1 ((9 : Int32) + ((2 : Int32) * ((m5.2 1) (3 : Int32).toNatClampNeg))).toNatClampNeg px := ⟨_, rfl⟩
        have h := y_letP h em9
        refine y_iast (N := 186) (f := (m5.2 1)) (L1 := ([modW g M m9] : List va_W)) C dX7_stop_62 1 (sh_5001 g M m5) hb8 (sh_5003 g M m5 ((9 : Int32) + ((2 : Int32) * ((m5.2 1) (3 : Int32).toNatClampNeg))).toNatClampNeg px m9 em9) ?_
        refine y_aload_n C dX7_stop_63 0 rfl rfl ?_
        refine y_get (Cn := RX7) (T := TX7) (N := 26) (v := .ref (M 1)) C dX7_stop_64 hX7_stop_X7 0 (sh_5000 g M m9) rfl 1 (Nat.le_of_ble_eq_true rfl) kX7_stop_2 rfl ?_
        refine y_bipush (v := 9) C dX7_stop_67 (by decide) ?_
        refine y_iconst (v := 2) C dX7_stop_69 (by decide) ?_
        refine y_aload_n C dX7_stop_70 0 rfl rfl ?_
        refine y_get (Cn := RX7) (T := TX7) (N := 26) (v := .ref (M 1)) C dX7_stop_71 hX7_stop_X7 0 (sh_5000 g M m9) rfl 1 (Nat.le_of_ble_eq_true rfl) kX7_stop_2 rfl ?_
        refine y_iconst (v := 3) C dX7_stop_74 (by decide) ?_
        obtain ⟨hb10, h⟩ := h
        refine y_iald (N := 186) (f := (m9.2 1)) C dX7_stop_75 1 (sh_5001 g M m9) hb10 ?_
        refine y_imul C dX7_stop_76 ?_
        refine y_iadd C dX7_stop_77 ?_
        refine y_iconst (v := 1) C dX7_stop_78 (by decide) ?_
        refine y_iadd C dX7_stop_79 ?_
        refine y_iload_n C dX7_stop_80 2 rfl rfl ?_
        obtain ⟨hb11, h⟩ := h
        obtain ⟨m12, em12⟩ : ∃ z : MV, z = mA m9 1 (((9 : Int32) + ((2 : Int32) * ((m9.2 1) (3 : Int32).toNatClampNeg))) + (1 : Int32)).toNatClampNeg py := ⟨_, rfl⟩
        have h := y_letP h em12
        refine y_iast (N := 186) (f := (m9.2 1)) (L1 := ([modW g M m12] : List va_W)) C dX7_stop_81 1 (sh_5001 g M m9) hb11 (sh_5003 g M m9 (((9 : Int32) + ((2 : Int32) * ((m9.2 1) (3 : Int32).toNatClampNeg))) + (1 : Int32)).toNatClampNeg py m12 em12) ?_
        refine y_aload_n C dX7_stop_82 0 rfl rfl ?_
        refine y_get (Cn := RX7) (T := TX7) (N := 26) (v := .ref (M 1)) C dX7_stop_83 hX7_stop_X7 0 (sh_5000 g M m12) rfl 1 (Nat.le_of_ble_eq_true rfl) kX7_stop_2 rfl ?_
        refine y_iconst (v := 3) C dX7_stop_86 (by decide) ?_
        refine y_dup2 C dX7_stop_87 rfl rfl ?_
        obtain ⟨hb13, h⟩ := h
        refine y_iald (N := 186) (f := (m12.2 1)) C dX7_stop_88 1 (sh_5001 g M m12) hb13 ?_
        refine y_iconst (v := 1) C dX7_stop_89 (by decide) ?_
        refine y_iadd C dX7_stop_90 ?_
        obtain ⟨hb14, h⟩ := h
        obtain ⟨m15, em15⟩ : ∃ z : MV, z = mA m12 1 (3 : Int32).toNatClampNeg (((m12.2 1) (3 : Int32).toNatClampNeg) + (1 : Int32)) := ⟨_, rfl⟩
        have h := y_letP h em15
        refine y_iast (N := 186) (f := (m12.2 1)) (L1 := ([modW g M m15] : List va_W)) C dX7_stop_91 1 (sh_5001 g M m12) hb14 (sh_5003 g M m12 (3 : Int32).toNatClampNeg (((m12.2 1) (3 : Int32).toNatClampNeg) + (1 : Int32)) m15 em15) ?_
        refine y_aload_n C dX7_stop_92 0 rfl rfl ?_
        refine y_get (Cn := RX7) (T := TX7) (N := 26) (v := .ref (M 1)) C dX7_stop_93 hX7_stop_X7 0 (sh_5000 g M m15) rfl 1 (Nat.le_of_ble_eq_true rfl) kX7_stop_2 rfl ?_
        refine y_iconst (v := 3) C dX7_stop_96 (by decide) ?_
        obtain ⟨hb16, h⟩ := h
        refine y_iald (N := 186) (f := (m15.2 1)) C dX7_stop_97 1 (sh_5001 g M m15) hb16 ?_
        refine y_iconst (v := 1) C dX7_stop_98 (by decide) ?_
        refine y_isub C dX7_stop_99 ?_
        exact HR 100 dX7_stop_100 (((m15.2 1) (3 : Int32).toNatClampNeg) - (1 : Int32)) _ _ _ _ (rfl) (Nat.le_of_ble_eq_true rfl) (Nat.le_of_ble_eq_true rfl) (hK _ _  h)
      · refine y_bipush (v := -4) C dX7_stop_39 (by decide) ?_
        exact HR 41 dX7_stop_41 (-4 : Int32) _ _ _ _ (rfl) (Nat.le_of_ble_eq_true rfl) (Nat.le_of_ble_eq_true rfl) (hK _ _  h)
    · refine y_bipush (v := -2) C dX7_stop_25 (by decide) ?_
      exact HR 27 dX7_stop_27 (-2 : Int32) _ _ _ _ (rfl) (Nat.le_of_ble_eq_true rfl) (Nat.le_of_ble_eq_true rfl) (hK _ _  h)
theorem u_X7_stop (g : yG) (M : Nat → Nat) (m : MV) (px : Int32) (py : Int32) {K : Int32 → MV → Prop} (hPO : PO_X7_stop px py K m ) : yM g yX7_stop wsX7_stop ({ frames := 1, cells := 0, slots := 0, locals := 22 } : Room) [.ref (M 0), .int px, .int py] ([modW g M m] : List va_W) (fun r w => ∃ m' : MV, K r m' ∧ w = ([modW g M m'] : List va_W)) 0 0 :=
  t_X7_stop g M m px py (fun r0 m hk => ⟨m, hk, rfl⟩) hPO
