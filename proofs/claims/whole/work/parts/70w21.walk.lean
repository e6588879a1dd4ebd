theorem dX7_readsBooking_0 : decode cX7_readsBooking 0 = .ok (.aload_n 0, 1) := by decide +kernel
theorem dX7_readsBooking_1 : decode cX7_readsBooking 1 = .ok (.bipush 11, 2) := by decide +kernel
theorem dX7_readsBooking_3 : decode cX7_readsBooking 3 = .ok (.invokevirtual 184, 3) := by decide +kernel
theorem dX7_readsBooking_6 : decode cX7_readsBooking 6 = .ok (.istore_n 1, 1) := by decide +kernel
theorem dX7_readsBooking_7 : decode cX7_readsBooking 7 = .ok (.aload_n 0, 1) := by decide +kernel
theorem dX7_readsBooking_8 : decode cX7_readsBooking 8 = .ok (.bipush 62, 2) := by decide +kernel
theorem dX7_readsBooking_10 : decode cX7_readsBooking 10 = .ok (.invokevirtual 187, 3) := by decide +kernel
theorem dX7_readsBooking_13 : decode cX7_readsBooking 13 = .ok (.aload_n 0, 1) := by decide +kernel
theorem dX7_readsBooking_14 : decode cX7_readsBooking 14 = .ok (.bipush 11, 2) := by decide +kernel
theorem dX7_readsBooking_16 : decode cX7_readsBooking 16 = .ok (.invokevirtual 184, 3) := by decide +kernel
theorem dX7_readsBooking_19 : decode cX7_readsBooking 19 = .ok (.istore_n 2, 1) := by decide +kernel
theorem dX7_readsBooking_20 : decode cX7_readsBooking 20 = .ok (.aload_n 0, 1) := by decide +kernel
theorem dX7_readsBooking_21 : decode cX7_readsBooking 21 = .ok (.bipush 64, 2) := by decide +kernel
theorem dX7_readsBooking_23 : decode cX7_readsBooking 23 = .ok (.invokevirtual 187, 3) := by decide +kernel
theorem dX7_readsBooking_26 : decode cX7_readsBooking 26 = .ok (.aload_n 0, 1) := by decide +kernel
theorem dX7_readsBooking_27 : decode cX7_readsBooking 27 = .ok (.sipush 600, 3) := by decide +kernel
theorem dX7_readsBooking_30 : decode cX7_readsBooking 30 = .ok (.invokevirtual 184, 3) := by decide +kernel
theorem dX7_readsBooking_33 : decode cX7_readsBooking 33 = .ok (.istore_n 3, 1) := by decide +kernel
theorem dX7_readsBooking_34 : decode cX7_readsBooking 34 = .ok (.aload_n 0, 1) := by decide +kernel
theorem dX7_readsBooking_35 : decode cX7_readsBooking 35 = .ok (.bipush 45, 2) := by decide +kernel
theorem dX7_readsBooking_37 : decode cX7_readsBooking 37 = .ok (.invokevirtual 187, 3) := by decide +kernel
theorem dX7_readsBooking_40 : decode cX7_readsBooking 40 = .ok (.aload_n 0, 1) := by decide +kernel
theorem dX7_readsBooking_41 : decode cX7_readsBooking 41 = .ok (.sipush 900, 3) := by decide +kernel
theorem dX7_readsBooking_44 : decode cX7_readsBooking 44 = .ok (.invokevirtual 184, 3) := by decide +kernel
theorem dX7_readsBooking_47 : decode cX7_readsBooking 47 = .ok (.istore 4, 2) := by decide +kernel
theorem dX7_readsBooking_49 : decode cX7_readsBooking 49 = .ok (.aload_n 0, 1) := by decide +kernel
theorem dX7_readsBooking_50 : decode cX7_readsBooking 50 = .ok (.getfield 178, 3) := by decide +kernel
theorem dX7_readsBooking_53 : decode cX7_readsBooking 53 = .ok (.ifCond .eq 68, 3) := by decide +kernel
theorem dX7_readsBooking_56 : decode cX7_readsBooking 56 = .ok (.aload_n 0, 1) := by decide +kernel
theorem dX7_readsBooking_57 : decode cX7_readsBooking 57 = .ok (.getfield 41, 3) := by decide +kernel
theorem dX7_readsBooking_60 : decode cX7_readsBooking 60 = .ok (.iconst 4, 1) := by decide +kernel
theorem dX7_readsBooking_61 : decode cX7_readsBooking 61 = .ok (.aload_n 0, 1) := by decide +kernel
theorem dX7_readsBooking_62 : decode cX7_readsBooking 62 = .ok (.getfield 190, 3) := by decide +kernel
theorem dX7_readsBooking_65 : decode cX7_readsBooking 65 = .ok (.imul, 1) := by decide +kernel
theorem dX7_readsBooking_66 : decode cX7_readsBooking 66 = .ok (.iload_n 1, 1) := by decide +kernel
theorem dX7_readsBooking_67 : decode cX7_readsBooking 67 = .ok (.iastore, 1) := by decide +kernel
theorem dX7_readsBooking_68 : decode cX7_readsBooking 68 = .ok (.aload_n 0, 1) := by decide +kernel
theorem dX7_readsBooking_69 : decode cX7_readsBooking 69 = .ok (.getfield 41, 3) := by decide +kernel
theorem dX7_readsBooking_72 : decode cX7_readsBooking 72 = .ok (.iconst 4, 1) := by decide +kernel
theorem dX7_readsBooking_73 : decode cX7_readsBooking 73 = .ok (.aload_n 0, 1) := by decide +kernel
theorem dX7_readsBooking_74 : decode cX7_readsBooking 74 = .ok (.getfield 190, 3) := by decide +kernel
theorem dX7_readsBooking_77 : decode cX7_readsBooking 77 = .ok (.imul, 1) := by decide +kernel
theorem dX7_readsBooking_78 : decode cX7_readsBooking 78 = .ok (.iconst 1, 1) := by decide +kernel
theorem dX7_readsBooking_79 : decode cX7_readsBooking 79 = .ok (.iadd, 1) := by decide +kernel
theorem dX7_readsBooking_80 : decode cX7_readsBooking 80 = .ok (.iload_n 2, 1) := by decide +kernel
theorem dX7_readsBooking_81 : decode cX7_readsBooking 81 = .ok (.iastore, 1) := by decide +kernel
theorem dX7_readsBooking_82 : decode cX7_readsBooking 82 = .ok (.aload_n 0, 1) := by decide +kernel
theorem dX7_readsBooking_83 : decode cX7_readsBooking 83 = .ok (.getfield 41, 3) := by decide +kernel
theorem dX7_readsBooking_86 : decode cX7_readsBooking 86 = .ok (.iconst 4, 1) := by decide +kernel
theorem dX7_readsBooking_87 : decode cX7_readsBooking 87 = .ok (.aload_n 0, 1) := by decide +kernel
theorem dX7_readsBooking_88 : decode cX7_readsBooking 88 = .ok (.getfield 190, 3) := by decide +kernel
theorem dX7_readsBooking_91 : decode cX7_readsBooking 91 = .ok (.imul, 1) := by decide +kernel
theorem dX7_readsBooking_92 : decode cX7_readsBooking 92 = .ok (.iconst 2, 1) := by decide +kernel
theorem dX7_readsBooking_93 : decode cX7_readsBooking 93 = .ok (.iadd, 1) := by decide +kernel
theorem dX7_readsBooking_94 : decode cX7_readsBooking 94 = .ok (.iload_n 3, 1) := by decide +kernel
theorem dX7_readsBooking_95 : decode cX7_readsBooking 95 = .ok (.iastore, 1) := by decide +kernel
theorem dX7_readsBooking_96 : decode cX7_readsBooking 96 = .ok (.aload_n 0, 1) := by decide +kernel
theorem dX7_readsBooking_97 : decode cX7_readsBooking 97 = .ok (.getfield 41, 3) := by decide +kernel
theorem dX7_readsBooking_100 : decode cX7_readsBooking 100 = .ok (.iconst 4, 1) := by decide +kernel
theorem dX7_readsBooking_101 : decode cX7_readsBooking 101 = .ok (.aload_n 0, 1) := by decide +kernel
theorem dX7_readsBooking_102 : decode cX7_readsBooking 102 = .ok (.getfield 190, 3) := by decide +kernel
theorem dX7_readsBooking_105 : decode cX7_readsBooking 105 = .ok (.imul, 1) := by decide +kernel
theorem dX7_readsBooking_106 : decode cX7_readsBooking 106 = .ok (.iconst 3, 1) := by decide +kernel
theorem dX7_readsBooking_107 : decode cX7_readsBooking 107 = .ok (.iadd, 1) := by decide +kernel
theorem dX7_readsBooking_108 : decode cX7_readsBooking 108 = .ok (.iload 4, 2) := by decide +kernel
theorem dX7_readsBooking_110 : decode cX7_readsBooking 110 = .ok (.iastore, 1) := by decide +kernel
theorem dX7_readsBooking_111 : decode cX7_readsBooking 111 = .ok (.aload_n 0, 1) := by decide +kernel
theorem dX7_readsBooking_112 : decode cX7_readsBooking 112 = .ok (.dup, 1) := by decide +kernel
theorem dX7_readsBooking_113 : decode cX7_readsBooking 113 = .ok (.getfield 190, 3) := by decide +kernel
theorem dX7_readsBooking_116 : decode cX7_readsBooking 116 = .ok (.iconst 1, 1) := by decide +kernel
theorem dX7_readsBooking_117 : decode cX7_readsBooking 117 = .ok (.iadd, 1) := by decide +kernel
theorem dX7_readsBooking_118 : decode cX7_readsBooking 118 = .ok (.putfield 190, 3) := by decide +kernel
theorem dX7_readsBooking_121 : decode cX7_readsBooking 121 = .ok (.return_, 1) := by decide +kernel
set_option maxRecDepth 20000 in
theorem ggX7_readsBooking_X7_number : GoodIn wsX7_readsBooking wsX7_number := goodIn_r _ [8, 1, 9, 10, 11, 12, 7, 13, 14, 15, 16, 17, 18, 23, 24, 25, 26, 27, 28, 29, 30, 31, 32, 33, 34, 35, 36, 37, 38, 39, 40, 41, 42, 43, 44, 45, 46, 47, 48] (by decide +kernel) (by decide +kernel)
set_option maxRecDepth 20000 in
theorem gX7_readsBooking_X7_number : GoodIn wsX7_readsBooking (wsV RX7 184 RX7 yX7_number wsX7_number) := goodIn_app (goodIn_of _ (by decide +kernel)) ggX7_readsBooking_X7_number
set_option maxRecDepth 20000 in
theorem ggX7_readsBooking_X7_wants : GoodIn wsX7_readsBooking wsX7_wants := goodIn_r _ [22, 1, 9, 10, 11, 12, 7, 13, 14, 15, 23, 24, 25, 26, 27, 28, 29, 30, 31, 32, 33, 34, 35, 36, 37, 38, 39, 40, 41, 42, 43, 44, 45, 46, 47, 48] (by decide +kernel) (by decide +kernel)
set_option maxRecDepth 20000 in
theorem gX7_readsBooking_X7_wants : GoodIn wsX7_readsBooking (wsV RX7 187 RX7 yX7_wants wsX7_wants) := goodIn_app (goodIn_of _ (by decide +kernel)) ggX7_readsBooking_X7_wants
theorem kX7_readsBooking_1 : Cond.fieldLink RX7 178 "BookedDetoursModel" "isWell" "Z" ∈ wsX7_readsBooking := List.mem_of_getElem? (i := 1) (by decide +kernel)
theorem kX7_readsBooking_2 : Cond.fieldLink RX7 41 "BookedDetoursModel" "told" "[I" ∈ wsX7_readsBooking := List.mem_of_getElem? (i := 2) (by decide +kernel)
theorem kX7_readsBooking_3 : Cond.fieldLink RX7 190 "BookedDetoursModel" "toldMany" "I" ∈ wsX7_readsBooking := List.mem_of_getElem? (i := 3) (by decide +kernel)
theorem hX7_readsBooking_X7 : ∀ w ∈ u_ws RX7 TX7 26, w ∈ wsX7_readsBooking := fun _ h => List.mem_cons_of_mem _ (List.mem_append_right _ h)
set_option maxHeartbeats 4000000 in
set_option maxRecDepth 100000 in
theorem t_X7_readsBooking (g : yG) (M : Nat → Nat) (m : MV)  {post : List va_W → Prop} {K : MV → Prop} (hK : ∀ (m : MV), K m → post ([modW g M m] : List va_W)) (hPO : PO_X7_readsBooking  K m ) : yMv g yX7_readsBooking wsX7_readsBooking ({ frames := 2, cells := 0, slots := 0, locals := 44 } : Room) [.ref (M 0)] ([modW g M m] : List va_W) post 0 0 := by
  refine y_entryV (cc := cX7_readsBooking) (maxL := 5) (by decide +kernel) rfl (Nat.le_of_ble_eq_true rfl) (fun Z C _ HR => ?_)
  have C : yC Z g cX7_readsBooking 5 wsX7_readsBooking RX7 := C
  have h := hPO
  unfold PO_X7_readsBooking wp_X7_readsBooking_0 at h
  show yJ Z _ 0 0 _ 0 [(0, .ref (M 0))] []
  refine y_aload_n C dX7_readsBooking_0 0 rfl rfl ?_
  refine y_bipush (v := 11) C dX7_readsBooking_1 (by decide) ?_
  refine y_callV (As := [.int (11 : Int32)]) (rest := []) C dX7_readsBooking_3 (u_X7_number g M m (11 : Int32) h) rfl rfl rfl rfl ⟨Nat.le_of_ble_eq_true rfl, Nat.le_of_ble_eq_true rfl⟩ gX7_readsBooking_X7_number (nA := 1) (by decide +kernel) rfl (sh_5010 g M m) (Nat.le_of_ble_eq_true rfl) ⟨Nat.le_of_ble_eq_true rfl, Nat.le_of_ble_eq_true rfl⟩ [0] [] (nB := 1) rfl (by decide +kernel) (sh_5009 g M m) (fun r3 w9 hw => ?_)
  obtain ⟨m1, h, rfl⟩ := hw
  refine ⟨([modW g M m1] : List va_W), (sh_5023 g M m m1), ?_⟩
  refine y_istore_n (lv' := [(1, .int r3), (0, .ref (M 0))]) C dX7_readsBooking_6 rfl (Nat.le_of_ble_eq_true rfl) rfl ?_
  refine y_aload_n C dX7_readsBooking_7 1 rfl rfl ?_
  refine y_bipush (v := 62) C dX7_readsBooking_8 (by decide) ?_
  refine y_callVv (As := [.int (62 : Int32)]) (rest := []) C dX7_readsBooking_10 (u_X7_wants g M m1 (62 : Int32) h) rfl rfl rfl rfl ⟨Nat.le_of_ble_eq_true rfl, Nat.le_of_ble_eq_true rfl⟩ gX7_readsBooking_X7_wants (nA := 1) (by decide +kernel) rfl (sh_5010 g M m1) (Nat.le_of_ble_eq_true rfl) ⟨Nat.le_of_ble_eq_true rfl, Nat.le_of_ble_eq_true rfl⟩ [0] [] (nB := 1) rfl (by decide +kernel) (sh_5009 g M m1) (fun w9 hw => ?_)
  obtain ⟨m4, h, rfl⟩ := hw
  refine ⟨([modW g M m4] : List va_W), (sh_5023 g M m1 m4), ?_⟩
  refine y_aload_n C dX7_readsBooking_13 1 rfl rfl ?_
  refine y_bipush (v := 11) C dX7_readsBooking_14 (by decide) ?_
  refine y_callV (As := [.int (11 : Int32)]) (rest := []) C dX7_readsBooking_16 (u_X7_number g M m4 (11 : Int32) h) rfl rfl rfl rfl ⟨Nat.le_of_ble_eq_true rfl, Nat.le_of_ble_eq_true rfl⟩ gX7_readsBooking_X7_number (nA := 1) (by decide +kernel) rfl (sh_5010 g M m4) (Nat.le_of_ble_eq_true rfl) ⟨Nat.le_of_ble_eq_true rfl, Nat.le_of_ble_eq_true rfl⟩ [0] [] (nB := 1) rfl (by decide +kernel) (sh_5009 g M m4) (fun r8 w9 hw => ?_)
  obtain ⟨m6, h, rfl⟩ := hw
  refine ⟨([modW g M m6] : List va_W), (sh_5023 g M m4 m6), ?_⟩
  refine y_istore_n (lv' := [(2, .int r8), (1, .int r3), (0, .ref (M 0))]) C dX7_readsBooking_19 rfl (Nat.le_of_ble_eq_true rfl) rfl ?_
  refine y_aload_n C dX7_readsBooking_20 2 rfl rfl ?_
  refine y_bipush (v := 64) C dX7_readsBooking_21 (by decide) ?_
  refine y_callVv (As := [.int (64 : Int32)]) (rest := []) C dX7_readsBooking_23 (u_X7_wants g M m6 (64 : Int32) h) rfl rfl rfl rfl ⟨Nat.le_of_ble_eq_true rfl, Nat.le_of_ble_eq_true rfl⟩ gX7_readsBooking_X7_wants (nA := 1) (by decide +kernel) rfl (sh_5010 g M m6) (Nat.le_of_ble_eq_true rfl) ⟨Nat.le_of_ble_eq_true rfl, Nat.le_of_ble_eq_true rfl⟩ [0] [] (nB := 1) rfl (by decide +kernel) (sh_5009 g M m6) (fun w9 hw => ?_)
  obtain ⟨m9, h, rfl⟩ := hw
  refine ⟨([modW g M m9] : List va_W), (sh_5023 g M m6 m9), ?_⟩
  refine y_aload_n C dX7_readsBooking_26 2 rfl rfl ?_
  refine y_sipush (v := 600) C dX7_readsBooking_27 (by decide) ?_
  refine y_callV (As := [.int (600 : Int32)]) (rest := []) C dX7_readsBooking_30 (u_X7_number g M m9 (600 : Int32) h) rfl rfl rfl rfl ⟨Nat.le_of_ble_eq_true rfl, Nat.le_of_ble_eq_true rfl⟩ gX7_readsBooking_X7_number (nA := 1) (by decide +kernel) rfl (sh_5010 g M m9) (Nat.le_of_ble_eq_true rfl) ⟨Nat.le_of_ble_eq_true rfl, Nat.le_of_ble_eq_true rfl⟩ [0] [] (nB := 1) rfl (by decide +kernel) (sh_5009 g M m9) (fun r13 w9 hw => ?_)
  obtain ⟨m11, h, rfl⟩ := hw
  refine ⟨([modW g M m11] : List va_W), (sh_5023 g M m9 m11), ?_⟩
  refine y_istore_n (lv' := [(3, .int r13), (2, .int r8), (1, .int r3), (0, .ref (M 0))]) C dX7_readsBooking_33 rfl (Nat.le_of_ble_eq_true rfl) rfl ?_
  refine y_aload_n C dX7_readsBooking_34 3 rfl rfl ?_
  refine y_bipush (v := 45) C dX7_readsBooking_35 (by decide) ?_
  refine y_callVv (As := [.int (45 : Int32)]) (rest := []) C dX7_readsBooking_37 (u_X7_wants g M m11 (45 : Int32) h) rfl rfl rfl rfl ⟨Nat.le_of_ble_eq_true rfl, Nat.le_of_ble_eq_true rfl⟩ gX7_readsBooking_X7_wants (nA := 1) (by decide +kernel) rfl (sh_5010 g M m11) (Nat.le_of_ble_eq_true rfl) ⟨Nat.le_of_ble_eq_true rfl, Nat.le_of_ble_eq_true rfl⟩ [0] [] (nB := 1) rfl (by decide +kernel) (sh_5009 g M m11) (fun w9 hw => ?_)
  obtain ⟨m14, h, rfl⟩ := hw
  refine ⟨([modW g M m14] : List va_W), (sh_5023 g M m11 m14), ?_⟩
  refine y_aload_n C dX7_readsBooking_40 3 rfl rfl ?_
  refine y_sipush (v := 900) C dX7_readsBooking_41 (by decide) ?_
  refine y_callV (As := [.int (900 : Int32)]) (rest := []) C dX7_readsBooking_44 (u_X7_number g M m14 (900 : Int32) h) rfl rfl rfl rfl ⟨Nat.le_of_ble_eq_true rfl, Nat.le_of_ble_eq_true rfl⟩ gX7_readsBooking_X7_number (nA := 1) (by decide +kernel) rfl (sh_5010 g M m14) (Nat.le_of_ble_eq_true rfl) ⟨Nat.le_of_ble_eq_true rfl, Nat.le_of_ble_eq_true rfl⟩ [0] [] (nB := 1) rfl (by decide +kernel) (sh_5009 g M m14) (fun r18 w9 hw => ?_)
  obtain ⟨m16, h, rfl⟩ := hw
  refine ⟨([modW g M m16] : List va_W), (sh_5023 g M m14 m16), ?_⟩
  refine y_istore (lv' := [(4, .int r18), (3, .int r13), (2, .int r8), (1, .int r3), (0, .ref (M 0))]) C dX7_readsBooking_47 (Nat.le_of_ble_eq_true rfl) rfl ?_
  refine y_aload_n C dX7_readsBooking_49 4 rfl rfl ?_
  refine y_get (Cn := RX7) (T := TX7) (N := 26) (v := .int (m16.1 23)) C dX7_readsBooking_50 hX7_readsBooking_X7 0 (sh_5000 g M m16) rfl 23 (Nat.le_of_ble_eq_true rfl) kX7_readsBooking_1 rfl ?_
  refine y_if_eq (tgt := 121) C dX7_readsBooking_53 rfl h (fun c53 h => ?_) (fun c53 h => ?_)
  · exact HR 121 dX7_readsBooking_121 _ _ _ _ (Nat.le_of_ble_eq_true rfl) (Nat.le_of_ble_eq_true rfl) (hK _  h)
  · refine y_aload_n C dX7_readsBooking_56 4 rfl rfl ?_
    refine y_get (Cn := RX7) (T := TX7) (N := 26) (v := .ref (M 11)) C dX7_readsBooking_57 hX7_readsBooking_X7 0 (sh_5000 g M m16) rfl 24 (Nat.le_of_ble_eq_true rfl) kX7_readsBooking_2 rfl ?_
    refine y_iconst (v := 4) C dX7_readsBooking_60 (by decide) ?_
    refine y_aload_n C dX7_readsBooking_61 4 rfl rfl ?_
    refine y_get (Cn := RX7) (T := TX7) (N := 26) (v := .int (m16.1 25)) C dX7_readsBooking_62 hX7_readsBooking_X7 0 (sh_5000 g M m16) rfl 25 (Nat.le_of_ble_eq_true rfl) kX7_readsBooking_3 rfl ?_
    refine y_imul C dX7_readsBooking_65 ?_
    refine y_iload_n C dX7_readsBooking_66 3 rfl rfl ?_
    obtain ⟨hb19, h⟩ := h
    obtain ⟨m20, em20⟩ : ∃ z : MV, z = mA m16 24 ((4 : Int32) * (m16.1 25)).toNatClampNeg r3 := ⟨_, rfl⟩
    have h := y_letP h em20
    refine y_iast (N := 64) (f := (m16.2 24)) (L1 := ([modW g M m20] : List va_W)) C dX7_readsBooking_67 11 (sh_5035 g M m16) hb19 (sh_5036 g M m16 ((4 : Int32) * (m16.1 25)).toNatClampNeg r3 m20 em20) ?_
    refine y_aload_n C dX7_readsBooking_68 4 rfl rfl ?_
    refine y_get (Cn := RX7) (T := TX7) (N := 26) (v := .ref (M 11)) C dX7_readsBooking_69 hX7_readsBooking_X7 0 (sh_5000 g M m20) rfl 24 (Nat.le_of_ble_eq_true rfl) kX7_readsBooking_2 rfl ?_
    refine y_iconst (v := 4) C dX7_readsBooking_72 (by decide) ?_
    refine y_aload_n C dX7_readsBooking_73 4 rfl rfl ?_
    refine y_get (Cn := RX7) (T := TX7) (N := 26) (v := .int (m20.1 25)) C dX7_readsBooking_74 hX7_readsBooking_X7 0 (sh_5000 g M m20) rfl 25 (Nat.le_of_ble_eq_true rfl) kX7_readsBooking_3 rfl ?_
    refine y_imul C dX7_readsBooking_77 ?_
    refine y_iconst (v := 1) C dX7_readsBooking_78 (by decide) ?_
    refine y_iadd C dX7_readsBooking_79 ?_
    refine y_iload_n C dX7_readsBooking_80 2 rfl rfl ?_
    obtain ⟨hb21, h⟩ := h
    obtain ⟨m22, em22⟩ : ∃ z : MV, z = mA m20 24 (((4 : Int32) * (m20.1 25)) + (1 : Int32)).toNatClampNeg r8 := ⟨_, rfl⟩
    have h := y_letP h em22
    refine y_iast (N := 64) (f := (m20.2 24)) (L1 := ([modW g M m22] : List va_W)) C dX7_readsBooking_81 11 (sh_5035 g M m20) hb21 (sh_5036 g M m20 (((4 : Int32) * (m20.1 25)) + (1 : Int32)).toNatClampNeg r8 m22 em22) ?_
    refine y_aload_n C dX7_readsBooking_82 4 rfl rfl ?_
    refine y_get (Cn := RX7) (T := TX7) (N := 26) (v := .ref (M 11)) C dX7_readsBooking_83 hX7_readsBooking_X7 0 (sh_5000 g M m22) rfl 24 (Nat.le_of_ble_eq_true rfl) kX7_readsBooking_2 rfl ?_
    refine y_iconst (v := 4) C dX7_readsBooking_86 (by decide) ?_
    refine y_aload_n C dX7_readsBooking_87 4 rfl rfl ?_
    refine y_get (Cn := RX7) (T := TX7) (N := 26) (v := .int (m22.1 25)) C dX7_readsBooking_88 hX7_readsBooking_X7 0 (sh_5000 g M m22) rfl 25 (Nat.le_of_ble_eq_true rfl) kX7_readsBooking_3 rfl ?_
    refine y_imul C dX7_readsBooking_91 ?_
    refine y_iconst (v := 2) C dX7_readsBooking_92 (by decide) ?_
    refine y_iadd C dX7_readsBooking_93 ?_
    refine y_iload_n C dX7_readsBooking_94 1 rfl rfl ?_
    obtain ⟨hb23, h⟩ := h
    obtain ⟨m24, em24⟩ : ∃ z : MV, z = mA m22 24 (((4 : Int32) * (m22.1 25)) + (2 : Int32)).toNatClampNeg r13 := ⟨_, rfl⟩
    have h := y_letP h em24
    refine y_iast (N := 64) (f := (m22.2 24)) (L1 := ([modW g M m24] : List va_W)) C dX7_readsBooking_95 11 (sh_5035 g M m22) hb23 (sh_5036 g M m22 (((4 : Int32) * (m22.1 25)) + (2 : Int32)).toNatClampNeg r13 m24 em24) ?_
    refine y_aload_n C dX7_readsBooking_96 4 rfl rfl ?_
    refine y_get (Cn := RX7) (T := TX7) (N := 26) (v := .ref (M 11)) C dX7_readsBooking_97 hX7_readsBooking_X7 0 (sh_5000 g M m24) rfl 24 (Nat.le_of_ble_eq_true rfl) kX7_readsBooking_2 rfl ?_
    refine y_iconst (v := 4) C dX7_readsBooking_100 (by decide) ?_
    refine y_aload_n C dX7_readsBooking_101 4 rfl rfl ?_
    refine y_get (Cn := RX7) (T := TX7) (N := 26) (v := .int (m24.1 25)) C dX7_readsBooking_102 hX7_readsBooking_X7 0 (sh_5000 g M m24) rfl 25 (Nat.le_of_ble_eq_true rfl) kX7_readsBooking_3 rfl ?_
    refine y_imul C dX7_readsBooking_105 ?_
    refine y_iconst (v := 3) C dX7_readsBooking_106 (by decide) ?_
    refine y_iadd C dX7_readsBooking_107 ?_
    refine y_iload C dX7_readsBooking_108 0 rfl ?_
    obtain ⟨hb25, h⟩ := h
    obtain ⟨m26, em26⟩ : ∃ z : MV, z = mA m24 24 (((4 : Int32) * (m24.1 25)) + (3 : Int32)).toNatClampNeg r18 := ⟨_, rfl⟩
    have h := y_letP h em26
    refine y_iast (N := 64) (f := (m24.2 24)) (L1 := ([modW g M m26] : List va_W)) C dX7_readsBooking_110 11 (sh_5035 g M m24) hb25 (sh_5036 g M m24 (((4 : Int32) * (m24.1 25)) + (3 : Int32)).toNatClampNeg r18 m26 em26) ?_
    refine y_aload_n C dX7_readsBooking_111 4 rfl rfl ?_
    refine y_dup C dX7_readsBooking_112 rfl ?_
    refine y_get (Cn := RX7) (T := TX7) (N := 26) (v := .int (m26.1 25)) C dX7_readsBooking_113 hX7_readsBooking_X7 0 (sh_5000 g M m26) rfl 25 (Nat.le_of_ble_eq_true rfl) kX7_readsBooking_3 rfl ?_
    refine y_iconst (v := 1) C dX7_readsBooking_116 (by decide) ?_
    refine y_iadd C dX7_readsBooking_117 ?_
    obtain ⟨m27, em27⟩ : ∃ z : MV, z = mI m26 25 ((m26.1 25) + (1 : Int32)) := ⟨_, rfl⟩
    have h := y_letP h em27
    refine y_put (Cn := RX7) (T := TX7) (N := 26) (v := .int ((m26.1 25) + (1 : Int32))) (ty0 := tyX7) (L1 := ([modW g M m27] : List va_W)) C dX7_readsBooking_118 hX7_readsBooking_X7 0 (sh_5000 g M m26) rfl 25 (Nat.le_of_ble_eq_true rfl) kX7_readsBooking_3 tyX7_ok nmX7 rfl rfl rfl (Nat.le_of_ble_eq_true rfl) (sh_5037 g M m26 ((m26.1 25) + (1 : Int32)) m27 em27) ?_
    exact HR 121 dX7_readsBooking_121 _ _ _ _ (Nat.le_of_ble_eq_true rfl) (Nat.le_of_ble_eq_true rfl) (hK _  h)
theorem u_X7_readsBooking (g : yG) (M : Nat → Nat) (m : MV)  {K : MV → Prop} (hPO : PO_X7_readsBooking  K m ) : yMv g yX7_readsBooking wsX7_readsBooking ({ frames := 2, cells := 0, slots := 0, locals := 44 } : Room) [.ref (M 0)] ([modW g M m] : List va_W) (fun w => ∃ m' : MV, K m' ∧ w = ([modW g M m'] : List va_W)) 0 0 :=
  t_X7_readsBooking g M m  (fun m hk => ⟨m, hk, rfl⟩) hPO
