theorem dX4_takeWay_0 : decode cX4_takeWay 0 = .ok (.aload_n 0, 1) := by decide +kernel
theorem dX4_takeWay_1 : decode cX4_takeWay 1 = .ok (.getfield 19, 3) := by decide +kernel
theorem dX4_takeWay_4 : decode cX4_takeWay 4 = .ok (.getfield 70, 3) := by decide +kernel
theorem dX4_takeWay_7 : decode cX4_takeWay 7 = .ok (.iload_n 1, 1) := by decide +kernel
theorem dX4_takeWay_8 : decode cX4_takeWay 8 = .ok (.invokevirtual 73, 3) := by decide +kernel
theorem dX4_takeWay_11 : decode cX4_takeWay 11 = .ok (.istore 4, 2) := by decide +kernel
theorem dX4_takeWay_13 : decode cX4_takeWay 13 = .ok (.aload_n 0, 1) := by decide +kernel
theorem dX4_takeWay_14 : decode cX4_takeWay 14 = .ok (.aload_n 0, 1) := by decide +kernel
theorem dX4_takeWay_15 : decode cX4_takeWay 15 = .ok (.getfield 34, 3) := by decide +kernel
theorem dX4_takeWay_18 : decode cX4_takeWay 18 = .ok (.ifCond .ne 8, 3) := by decide +kernel
theorem dX4_takeWay_21 : decode cX4_takeWay 21 = .ok (.iload 4, 2) := by decide +kernel
theorem dX4_takeWay_23 : decode cX4_takeWay 23 = .ok (.goto 12, 3) := by decide +kernel
theorem dX4_takeWay_26 : decode cX4_takeWay 26 = .ok (.aload_n 0, 1) := by decide +kernel
theorem dX4_takeWay_27 : decode cX4_takeWay 27 = .ok (.getfield 77, 3) := by decide +kernel
theorem dX4_takeWay_30 : decode cX4_takeWay 30 = .ok (.iload 4, 2) := by decide +kernel
theorem dX4_takeWay_32 : decode cX4_takeWay 32 = .ok (.invokestatic 80, 3) := by decide +kernel
theorem dX4_takeWay_35 : decode cX4_takeWay 35 = .ok (.putfield 77, 3) := by decide +kernel
theorem dX4_takeWay_38 : decode cX4_takeWay 38 = .ok (.aload_n 0, 1) := by decide +kernel
theorem dX4_takeWay_39 : decode cX4_takeWay 39 = .ok (.getfield 34, 3) := by decide +kernel
theorem dX4_takeWay_42 : decode cX4_takeWay 42 = .ok (.ifCond .eq 17, 3) := by decide +kernel
theorem dX4_takeWay_45 : decode cX4_takeWay 45 = .ok (.aload_n 0, 1) := by decide +kernel
theorem dX4_takeWay_46 : decode cX4_takeWay 46 = .ok (.getfield 19, 3) := by decide +kernel
theorem dX4_takeWay_49 : decode cX4_takeWay 49 = .ok (.getfield 86, 3) := by decide +kernel
theorem dX4_takeWay_52 : decode cX4_takeWay 52 = .ok (.aload_n 0, 1) := by decide +kernel
theorem dX4_takeWay_53 : decode cX4_takeWay 53 = .ok (.getfield 89, 3) := by decide +kernel
theorem dX4_takeWay_56 : decode cX4_takeWay 56 = .ok (.if_icmp .ge 45, 3) := by decide +kernel
theorem dX4_takeWay_59 : decode cX4_takeWay 59 = .ok (.aload_n 0, 1) := by decide +kernel
theorem dX4_takeWay_60 : decode cX4_takeWay 60 = .ok (.aload_n 0, 1) := by decide +kernel
theorem dX4_takeWay_61 : decode cX4_takeWay 61 = .ok (.getfield 19, 3) := by decide +kernel
theorem dX4_takeWay_64 : decode cX4_takeWay 64 = .ok (.getfield 86, 3) := by decide +kernel
theorem dX4_takeWay_67 : decode cX4_takeWay 67 = .ok (.putfield 89, 3) := by decide +kernel
theorem dX4_takeWay_70 : decode cX4_takeWay 70 = .ok (.aload_n 0, 1) := by decide +kernel
theorem dX4_takeWay_71 : decode cX4_takeWay 71 = .ok (.iload_n 2, 1) := by decide +kernel
theorem dX4_takeWay_72 : decode cX4_takeWay 72 = .ok (.putfield 64, 3) := by decide +kernel
theorem dX4_takeWay_75 : decode cX4_takeWay 75 = .ok (.aload_n 0, 1) := by decide +kernel
theorem dX4_takeWay_76 : decode cX4_takeWay 76 = .ok (.iload_n 3, 1) := by decide +kernel
theorem dX4_takeWay_77 : decode cX4_takeWay 77 = .ok (.putfield 67, 3) := by decide +kernel
theorem dX4_takeWay_80 : decode cX4_takeWay 80 = .ok (.aload_n 0, 1) := by decide +kernel
theorem dX4_takeWay_81 : decode cX4_takeWay 81 = .ok (.aload_n 0, 1) := by decide +kernel
theorem dX4_takeWay_82 : decode cX4_takeWay 82 = .ok (.getfield 19, 3) := by decide +kernel
theorem dX4_takeWay_85 : decode cX4_takeWay 85 = .ok (.getfield 92, 3) := by decide +kernel
theorem dX4_takeWay_88 : decode cX4_takeWay 88 = .ok (.iload_n 1, 1) := by decide +kernel
theorem dX4_takeWay_89 : decode cX4_takeWay 89 = .ok (.invokevirtual 73, 3) := by decide +kernel
theorem dX4_takeWay_92 : decode cX4_takeWay 92 = .ok (.putfield 95, 3) := by decide +kernel
theorem dX4_takeWay_95 : decode cX4_takeWay 95 = .ok (.aload_n 0, 1) := by decide +kernel
theorem dX4_takeWay_96 : decode cX4_takeWay 96 = .ok (.iload 4, 2) := by decide +kernel
theorem dX4_takeWay_98 : decode cX4_takeWay 98 = .ok (.putfield 98, 3) := by decide +kernel
theorem dX4_takeWay_101 : decode cX4_takeWay 101 = .ok (.aload_n 0, 1) := by decide +kernel
theorem dX4_takeWay_102 : decode cX4_takeWay 102 = .ok (.dup, 1) := by decide +kernel
theorem dX4_takeWay_103 : decode cX4_takeWay 103 = .ok (.getfield 34, 3) := by decide +kernel
theorem dX4_takeWay_106 : decode cX4_takeWay 106 = .ok (.iconst 1, 1) := by decide +kernel
theorem dX4_takeWay_107 : decode cX4_takeWay 107 = .ok (.iadd, 1) := by decide +kernel
theorem dX4_takeWay_108 : decode cX4_takeWay 108 = .ok (.putfield 34, 3) := by decide +kernel
theorem dX4_takeWay_111 : decode cX4_takeWay 111 = .ok (.return_, 1) := by decide +kernel
set_option maxRecDepth 20000 in
theorem ggX4_takeWay_X3_at : GoodIn wsX4_takeWay wsX3_at := goodIn_r _ [20, 21, 22, 42, 43] (by decide +kernel) (by decide +kernel)
set_option maxRecDepth 20000 in
theorem gX4_takeWay_X3_at : GoodIn wsX4_takeWay (wsV RX4 73 RX3 yX3_at wsX3_at) := goodIn_app (goodIn_of _ (by decide +kernel)) ggX4_takeWay_X3_at
theorem kX4_takeWay_1 : Cond.fieldLink RX4 19 "BookedDetours$Search" "table" "LBookedDetours$Timetable;" ∈ wsX4_takeWay := List.mem_of_getElem? (i := 1) (by decide +kernel)
theorem kX4_takeWay_2 : Cond.fieldLink RX4 70 "BookedDetours$Timetable" "downs" "LBookedDetours$Row;" ∈ wsX4_takeWay := List.mem_of_getElem? (i := 2) (by decide +kernel)
theorem kX4_takeWay_3 : Cond.fieldLink RX4 34 "BookedDetours$Search" "ways" "I" ∈ wsX4_takeWay := List.mem_of_getElem? (i := 3) (by decide +kernel)
theorem kX4_takeWay_4 : Cond.fieldLink RX4 77 "BookedDetours$Search" "earliestDown" "I" ∈ wsX4_takeWay := List.mem_of_getElem? (i := 4) (by decide +kernel)
theorem kX4_takeWay_5 : Cond.methodLink RX4 80 Lib.Math.min.name ∈ wsX4_takeWay := List.mem_of_getElem? (i := 5) (by decide +kernel)
theorem kX4_takeWay_6 : Cond.static Lib.Math.min.name ∈ wsX4_takeWay := List.mem_of_getElem? (i := 6) (by decide +kernel)
theorem kX4_takeWay_7 : Cond.initialized "java/lang/Math" ∈ wsX4_takeWay := List.mem_of_getElem? (i := 7) (by decide +kernel)
theorem kX4_takeWay_8 : Cond.code Lib.Math.min.name Lib.Math.min.code 2 (some .int) ∈ wsX4_takeWay := List.mem_of_getElem? (i := 8) (by decide +kernel)
theorem kX4_takeWay_9 : Cond.fieldLink RX4 86 "BookedDetours$Timetable" "free" "I" ∈ wsX4_takeWay := List.mem_of_getElem? (i := 9) (by decide +kernel)
theorem kX4_takeWay_10 : Cond.fieldLink RX4 89 "BookedDetours$Search" "over" "I" ∈ wsX4_takeWay := List.mem_of_getElem? (i := 10) (by decide +kernel)
theorem kX4_takeWay_11 : Cond.fieldLink RX4 64 "BookedDetours$Search" "pickPlace" "I" ∈ wsX4_takeWay := List.mem_of_getElem? (i := 11) (by decide +kernel)
theorem kX4_takeWay_12 : Cond.fieldLink RX4 67 "BookedDetours$Search" "downPlace" "I" ∈ wsX4_takeWay := List.mem_of_getElem? (i := 12) (by decide +kernel)
theorem kX4_takeWay_13 : Cond.fieldLink RX4 92 "BookedDetours$Timetable" "picks" "LBookedDetours$Row;" ∈ wsX4_takeWay := List.mem_of_getElem? (i := 13) (by decide +kernel)
theorem kX4_takeWay_14 : Cond.fieldLink RX4 95 "BookedDetours$Search" "pickTime" "I" ∈ wsX4_takeWay := List.mem_of_getElem? (i := 14) (by decide +kernel)
theorem kX4_takeWay_15 : Cond.fieldLink RX4 98 "BookedDetours$Search" "downTime" "I" ∈ wsX4_takeWay := List.mem_of_getElem? (i := 15) (by decide +kernel)
theorem hX4_takeWay_X4 : ∀ w ∈ u_ws RX4 TX4 9, w ∈ wsX4_takeWay := fun _ h => List.mem_cons_of_mem _ (List.mem_append_left _ (List.mem_append_left _ (List.mem_append_right _ h)))
theorem hX4_takeWay_X5 : ∀ w ∈ u_ws RX5 TX5 10, w ∈ wsX4_takeWay := fun _ h => List.mem_cons_of_mem _ (List.mem_append_left _ (List.mem_append_right _ h))
set_option maxHeartbeats 4000000 in
set_option maxRecDepth 100000 in
theorem c_X4_takeWay (g : yG) (S aq : Nat) (sv : RV) (ST : Nat → Nat) (st : RV) (SGT : Nat → Nat → Int32) (ri : Int32) (pk : Int32) (dn : Int32) : yMv g yX4_takeWay wsX4_takeWay ({ frames := 1, cells := 0, slots := 0, locals := 21 } : Room) [.ref S, .int ri, .int pk, .int dn] ([seaC S aq (ST 0) sv, tabC ST st] ++ tabR g ST st SGT : List va_W) (fun w => ∃ sv' : RV, sv' = (f_X4_takeWay sv st ri pk dn) ∧ w = ([seaC S aq (ST 0) sv', tabC ST st] ++ tabR g ST st SGT : List va_W)) 0 0 := by
  refine y_entryV (cc := cX4_takeWay) (maxL := 5) (by decide +kernel) rfl (Nat.le_of_ble_eq_true rfl) (fun Z C _ HR => ?_)
  have C : yC Z g cX4_takeWay 5 wsX4_takeWay RX4 := C
  have h := f_X4_takeWay.eq_1 sv st ri pk dn
  show yJ Z _ 0 0 _ 0 [(0, .ref S), (1, .int ri), (2, .int pk), (3, .int dn)] []
  refine y_aload_n C dX4_takeWay_0 0 rfl rfl ?_
  refine y_get (Cn := RX4) (T := TX4) (N := 9) (v := .ref (ST 0)) C dX4_takeWay_1 hX4_takeWay_X4 0 (sh_105 g S aq (ST 0) sv ST st SGT) rfl 1 (Nat.le_of_ble_eq_true rfl) kX4_takeWay_1 rfl ?_
  refine y_get (Cn := RX5) (T := TX5) (N := 10) (v := .ref (ST 9)) C dX4_takeWay_4 hX4_takeWay_X5 1 (sh_106 g S aq (ST 0) sv ST st SGT) rfl 4 (Nat.le_of_ble_eq_true rfl) kX4_takeWay_2 rfl ?_
  refine y_iload_n C dX4_takeWay_7 1 rfl rfl ?_
  refine y_callV (As := [.int ri]) (rest := []) C dX4_takeWay_8 (c_X3_at g (ST 9) (ST 10) 17 (st.1 4) (SGT 4) ri (by decide)) rfl rfl rfl rfl ⟨Nat.le_of_ble_eq_true rfl, Nat.le_of_ble_eq_true rfl⟩ gX4_takeWay_X3_at (nA := 1) (by decide +kernel) rfl (rowW_recv ⟨_, rfl⟩) (Nat.le_of_ble_eq_true rfl) ⟨Nat.le_of_ble_eq_true rfl, Nat.le_of_ble_eq_true rfl⟩ [6] [0, 1, 2, 3, 4, 5] (nB := 7) rfl (by decide +kernel) (sh_107 g S aq (ST 0) sv ST st SGT) (fun r1 w9 hw => ?_)
  obtain ⟨er1, rfl⟩ := hw
  have h := y_letF h er1
  refine ⟨([seaC S aq (ST 0) sv, tabC ST st] ++ tabR g ST st SGT : List va_W), ⟨(sh_107 g S aq (ST 0) sv ST st SGT), rfl, rfl⟩, ?_⟩
  refine y_istore (lv' := [(4, .int r1), (0, .ref S), (1, .int ri), (2, .int pk), (3, .int dn)]) C dX4_takeWay_11 (Nat.le_of_ble_eq_true rfl) rfl ?_
  refine y_aload_n C dX4_takeWay_13 1 rfl rfl ?_
  refine y_aload_n C dX4_takeWay_14 1 rfl rfl ?_
  refine y_get (Cn := RX4) (T := TX4) (N := 9) (v := .int (sv.2 0)) C dX4_takeWay_15 hX4_takeWay_X4 0 (sh_105 g S aq (ST 0) sv ST st SGT) rfl 2 (Nat.le_of_ble_eq_true rfl) kX4_takeWay_3 rfl ?_
  refine y_if_ne (tgt := 26) C dX4_takeWay_18 rfl (y_e h) (fun c18 h => ?_) (fun c18 h => ?_)
  · refine y_aload_n C dX4_takeWay_26 1 rfl rfl ?_
    refine y_get (Cn := RX4) (T := TX4) (N := 9) (v := .int (sv.2 4)) C dX4_takeWay_27 hX4_takeWay_X4 0 (sh_105 g S aq (ST 0) sv ST st SGT) rfl 6 (Nat.le_of_ble_eq_true rfl) kX4_takeWay_4 rfl ?_
    refine y_iload C dX4_takeWay_30 0 rfl ?_
    refine y_mmin C dX4_takeWay_32 kX4_takeWay_5 kX4_takeWay_6 kX4_takeWay_7 kX4_takeWay_8 (Nat.le_of_ble_eq_true rfl) (Nat.le_of_ble_eq_true rfl) (Nat.le_of_ble_eq_true rfl) (Nat.le_of_ble_eq_true rfl) ?_
    refine y_topi (fun m2 em2 => ?_)
    have h := y_letF h em2
    obtain ⟨sv3, esv3⟩ : ∃ z : RV, z = rvI sv 4 m2 := ⟨_, rfl⟩
    have h := y_letF h esv3
    refine y_put (Cn := RX4) (T := TX4) (N := 9) (v := .int m2) (ty0 := tyX4) (L1 := ([seaC S aq (ST 0) sv3, tabC ST st] ++ tabR g ST st SGT : List va_W)) C dX4_takeWay_35 hX4_takeWay_X4 0 (sh_105 g S aq (ST 0) sv ST st SGT) rfl 6 (Nat.le_of_ble_eq_true rfl) kX4_takeWay_4 tyX4_ok nmX4 rfl rfl rfl (Nat.le_of_ble_eq_true rfl) (sh_108 g S aq (ST 0) sv ST st SGT m2 sv3 esv3) ?_
    refine y_aload_n C dX4_takeWay_38 1 rfl rfl ?_
    refine y_get (Cn := RX4) (T := TX4) (N := 9) (v := .int (sv3.2 0)) C dX4_takeWay_39 hX4_takeWay_X4 0 (sh_105 g S aq (ST 0) sv3 ST st SGT) rfl 2 (Nat.le_of_ble_eq_true rfl) kX4_takeWay_3 rfl ?_
    refine y_if_eq (tgt := 59) C dX4_takeWay_42 rfl (y_e h) (fun c42 h => ?_) (fun c42 h => ?_)
    · refine y_aload_n C dX4_takeWay_59 1 rfl rfl ?_
      refine y_aload_n C dX4_takeWay_60 1 rfl rfl ?_
      refine y_get (Cn := RX4) (T := TX4) (N := 9) (v := .ref (ST 0)) C dX4_takeWay_61 hX4_takeWay_X4 0 (sh_105 g S aq (ST 0) sv3 ST st SGT) rfl 1 (Nat.le_of_ble_eq_true rfl) kX4_takeWay_1 rfl ?_
      refine y_get (Cn := RX5) (T := TX5) (N := 10) (v := .int (st.2 1)) C dX4_takeWay_64 hX4_takeWay_X5 1 (sh_106 g S aq (ST 0) sv3 ST st SGT) rfl 6 (Nat.le_of_ble_eq_true rfl) kX4_takeWay_9 rfl ?_
      obtain ⟨sv4, esv4⟩ : ∃ z : RV, z = rvI sv3 1 (st.2 1) := ⟨_, rfl⟩
      have h := y_letF h esv4
      refine y_put (Cn := RX4) (T := TX4) (N := 9) (v := .int (st.2 1)) (ty0 := tyX4) (L1 := ([seaC S aq (ST 0) sv4, tabC ST st] ++ tabR g ST st SGT : List va_W)) C dX4_takeWay_67 hX4_takeWay_X4 0 (sh_105 g S aq (ST 0) sv3 ST st SGT) rfl 3 (Nat.le_of_ble_eq_true rfl) kX4_takeWay_10 tyX4_ok nmX4 rfl rfl rfl (Nat.le_of_ble_eq_true rfl) (sh_109 g S aq (ST 0) sv3 ST st SGT (st.2 1) sv4 esv4) ?_
      refine y_aload_n C dX4_takeWay_70 1 rfl rfl ?_
      refine y_iload_n C dX4_takeWay_71 3 rfl rfl ?_
      obtain ⟨sv5, esv5⟩ : ∃ z : RV, z = rvI sv4 5 pk := ⟨_, rfl⟩
      have h := y_letF h esv5
      refine y_put (Cn := RX4) (T := TX4) (N := 9) (v := .int pk) (ty0 := tyX4) (L1 := ([seaC S aq (ST 0) sv5, tabC ST st] ++ tabR g ST st SGT : List va_W)) C dX4_takeWay_72 hX4_takeWay_X4 0 (sh_105 g S aq (ST 0) sv4 ST st SGT) rfl 7 (Nat.le_of_ble_eq_true rfl) kX4_takeWay_11 tyX4_ok nmX4 rfl rfl rfl (Nat.le_of_ble_eq_true rfl) (sh_110 g S aq (ST 0) sv4 ST st SGT pk sv5 esv5) ?_
      refine y_aload_n C dX4_takeWay_75 1 rfl rfl ?_
      refine y_iload_n C dX4_takeWay_76 4 rfl rfl ?_
      obtain ⟨sv6, esv6⟩ : ∃ z : RV, z = rvI sv5 6 dn := ⟨_, rfl⟩
      have h := y_letF h esv6
      refine y_put (Cn := RX4) (T := TX4) (N := 9) (v := .int dn) (ty0 := tyX4) (L1 := ([seaC S aq (ST 0) sv6, tabC ST st] ++ tabR g ST st SGT : List va_W)) C dX4_takeWay_77 hX4_takeWay_X4 0 (sh_105 g S aq (ST 0) sv5 ST st SGT) rfl 8 (Nat.le_of_ble_eq_true rfl) kX4_takeWay_12 tyX4_ok nmX4 rfl rfl rfl (Nat.le_of_ble_eq_true rfl) (sh_111 g S aq (ST 0) sv5 ST st SGT dn sv6 esv6) ?_
      refine y_aload_n C dX4_takeWay_80 1 rfl rfl ?_
      refine y_aload_n C dX4_takeWay_81 1 rfl rfl ?_
      refine y_get (Cn := RX4) (T := TX4) (N := 9) (v := .ref (ST 0)) C dX4_takeWay_82 hX4_takeWay_X4 0 (sh_105 g S aq (ST 0) sv6 ST st SGT) rfl 1 (Nat.le_of_ble_eq_true rfl) kX4_takeWay_1 rfl ?_
      refine y_get (Cn := RX5) (T := TX5) (N := 10) (v := .ref (ST 7)) C dX4_takeWay_85 hX4_takeWay_X5 1 (sh_106 g S aq (ST 0) sv6 ST st SGT) rfl 3 (Nat.le_of_ble_eq_true rfl) kX4_takeWay_13 rfl ?_
      refine y_iload_n C dX4_takeWay_88 2 rfl rfl ?_
      refine y_callV (As := [.int ri]) (rest := [.ref S]) C dX4_takeWay_89 (c_X3_at g (ST 7) (ST 8) 17 (st.1 3) (SGT 3) ri (by decide)) rfl rfl rfl rfl ⟨Nat.le_of_ble_eq_true rfl, Nat.le_of_ble_eq_true rfl⟩ gX4_takeWay_X3_at (nA := 1) (by decide +kernel) rfl (rowW_recv ⟨_, rfl⟩) (Nat.le_of_ble_eq_true rfl) ⟨Nat.le_of_ble_eq_true rfl, Nat.le_of_ble_eq_true rfl⟩ [5] [0, 1, 2, 3, 4, 6] (nB := 7) rfl (by decide +kernel) (sh_112 g S aq (ST 0) sv6 ST st SGT) (fun r7 w9 hw => ?_)
      obtain ⟨er7, rfl⟩ := hw
      have h := y_letF h er7
      refine ⟨([seaC S aq (ST 0) sv6, tabC ST st] ++ tabR g ST st SGT : List va_W), ⟨(sh_112 g S aq (ST 0) sv6 ST st SGT), rfl, rfl⟩, ?_⟩
      obtain ⟨sv8, esv8⟩ : ∃ z : RV, z = rvI sv6 2 r7 := ⟨_, rfl⟩
      have h := y_letF h esv8
      refine y_put (Cn := RX4) (T := TX4) (N := 9) (v := .int r7) (ty0 := tyX4) (L1 := ([seaC S aq (ST 0) sv8, tabC ST st] ++ tabR g ST st SGT : List va_W)) C dX4_takeWay_92 hX4_takeWay_X4 0 (sh_105 g S aq (ST 0) sv6 ST st SGT) rfl 4 (Nat.le_of_ble_eq_true rfl) kX4_takeWay_14 tyX4_ok nmX4 rfl rfl rfl (Nat.le_of_ble_eq_true rfl) (sh_113 g S aq (ST 0) sv6 ST st SGT r7 sv8 esv8) ?_
      refine y_aload_n C dX4_takeWay_95 1 rfl rfl ?_
      refine y_iload C dX4_takeWay_96 0 rfl ?_
      obtain ⟨sv9, esv9⟩ : ∃ z : RV, z = rvI sv8 3 r1 := ⟨_, rfl⟩
      have h := y_letF h esv9
      refine y_put (Cn := RX4) (T := TX4) (N := 9) (v := .int r1) (ty0 := tyX4) (L1 := ([seaC S aq (ST 0) sv9, tabC ST st] ++ tabR g ST st SGT : List va_W)) C dX4_takeWay_98 hX4_takeWay_X4 0 (sh_105 g S aq (ST 0) sv8 ST st SGT) rfl 5 (Nat.le_of_ble_eq_true rfl) kX4_takeWay_15 tyX4_ok nmX4 rfl rfl rfl (Nat.le_of_ble_eq_true rfl) (sh_114 g S aq (ST 0) sv8 ST st SGT r1 sv9 esv9) ?_
      refine y_aload_n C dX4_takeWay_101 1 rfl rfl ?_
      refine y_dup C dX4_takeWay_102 rfl ?_
      refine y_get (Cn := RX4) (T := TX4) (N := 9) (v := .int (sv9.2 0)) C dX4_takeWay_103 hX4_takeWay_X4 0 (sh_105 g S aq (ST 0) sv9 ST st SGT) rfl 2 (Nat.le_of_ble_eq_true rfl) kX4_takeWay_3 rfl ?_
      refine y_iconst (v := 1) C dX4_takeWay_106 (by decide) ?_
      refine y_iadd C dX4_takeWay_107 ?_
      obtain ⟨sv10, esv10⟩ : ∃ z : RV, z = rvI sv9 0 ((sv9.2 0) + (1 : Int32)) := ⟨_, rfl⟩
      have h := y_letF h esv10
      refine y_put (Cn := RX4) (T := TX4) (N := 9) (v := .int ((sv9.2 0) + (1 : Int32))) (ty0 := tyX4) (L1 := ([seaC S aq (ST 0) sv10, tabC ST st] ++ tabR g ST st SGT : List va_W)) C dX4_takeWay_108 hX4_takeWay_X4 0 (sh_105 g S aq (ST 0) sv9 ST st SGT) rfl 2 (Nat.le_of_ble_eq_true rfl) kX4_takeWay_3 tyX4_ok nmX4 rfl rfl rfl (Nat.le_of_ble_eq_true rfl) (sh_115 g S aq (ST 0) sv9 ST st SGT ((sv9.2 0) + (1 : Int32)) sv10 esv10) ?_
      exact HR 111 dX4_takeWay_111 _ _ _ _ (Nat.le_of_ble_eq_true rfl) (Nat.le_of_ble_eq_true rfl) ⟨sv10, by rw [h], rfl⟩
    · refine y_aload_n C dX4_takeWay_45 1 rfl rfl ?_
      refine y_get (Cn := RX4) (T := TX4) (N := 9) (v := .ref (ST 0)) C dX4_takeWay_46 hX4_takeWay_X4 0 (sh_105 g S aq (ST 0) sv3 ST st SGT) rfl 1 (Nat.le_of_ble_eq_true rfl) kX4_takeWay_1 rfl ?_
      refine y_get (Cn := RX5) (T := TX5) (N := 10) (v := .int (st.2 1)) C dX4_takeWay_49 hX4_takeWay_X5 1 (sh_106 g S aq (ST 0) sv3 ST st SGT) rfl 6 (Nat.le_of_ble_eq_true rfl) kX4_takeWay_9 rfl ?_
      refine y_aload_n C dX4_takeWay_52 1 rfl rfl ?_
      refine y_get (Cn := RX4) (T := TX4) (N := 9) (v := .int (sv3.2 1)) C dX4_takeWay_53 hX4_takeWay_X4 0 (sh_105 g S aq (ST 0) sv3 ST st SGT) rfl 3 (Nat.le_of_ble_eq_true rfl) kX4_takeWay_10 rfl ?_
      refine y_icmp_ge (tgt := 101) C dX4_takeWay_56 rfl (y_e h) (fun c56 h => ?_) (fun c56 h => ?_)
      · refine y_aload_n C dX4_takeWay_101 1 rfl rfl ?_
        refine y_dup C dX4_takeWay_102 rfl ?_
        refine y_get (Cn := RX4) (T := TX4) (N := 9) (v := .int (sv3.2 0)) C dX4_takeWay_103 hX4_takeWay_X4 0 (sh_105 g S aq (ST 0) sv3 ST st SGT) rfl 2 (Nat.le_of_ble_eq_true rfl) kX4_takeWay_3 rfl ?_
        refine y_iconst (v := 1) C dX4_takeWay_106 (by decide) ?_
        refine y_iadd C dX4_takeWay_107 ?_
        obtain ⟨sv11, esv11⟩ : ∃ z : RV, z = rvI sv3 0 ((sv3.2 0) + (1 : Int32)) := ⟨_, rfl⟩
        have h := y_letF h esv11
        refine y_put (Cn := RX4) (T := TX4) (N := 9) (v := .int ((sv3.2 0) + (1 : Int32))) (ty0 := tyX4) (L1 := ([seaC S aq (ST 0) sv11, tabC ST st] ++ tabR g ST st SGT : List va_W)) C dX4_takeWay_108 hX4_takeWay_X4 0 (sh_105 g S aq (ST 0) sv3 ST st SGT) rfl 2 (Nat.le_of_ble_eq_true rfl) kX4_takeWay_3 tyX4_ok nmX4 rfl rfl rfl (Nat.le_of_ble_eq_true rfl) (sh_115 g S aq (ST 0) sv3 ST st SGT ((sv3.2 0) + (1 : Int32)) sv11 esv11) ?_
        exact HR 111 dX4_takeWay_111 _ _ _ _ (Nat.le_of_ble_eq_true rfl) (Nat.le_of_ble_eq_true rfl) ⟨sv11, by rw [h], rfl⟩
      · refine y_aload_n C dX4_takeWay_59 1 rfl rfl ?_
        refine y_aload_n C dX4_takeWay_60 1 rfl rfl ?_
        refine y_get (Cn := RX4) (T := TX4) (N := 9) (v := .ref (ST 0)) C dX4_takeWay_61 hX4_takeWay_X4 0 (sh_105 g S aq (ST 0) sv3 ST st SGT) rfl 1 (Nat.le_of_ble_eq_true rfl) kX4_takeWay_1 rfl ?_
        refine y_get (Cn := RX5) (T := TX5) (N := 10) (v := .int (st.2 1)) C dX4_takeWay_64 hX4_takeWay_X5 1 (sh_106 g S aq (ST 0) sv3 ST st SGT) rfl 6 (Nat.le_of_ble_eq_true rfl) kX4_takeWay_9 rfl ?_
        obtain ⟨sv12, esv12⟩ : ∃ z : RV, z = rvI sv3 1 (st.2 1) := ⟨_, rfl⟩
        have h := y_letF h esv12
        refine y_put (Cn := RX4) (T := TX4) (N := 9) (v := .int (st.2 1)) (ty0 := tyX4) (L1 := ([seaC S aq (ST 0) sv12, tabC ST st] ++ tabR g ST st SGT : List va_W)) C dX4_takeWay_67 hX4_takeWay_X4 0 (sh_105 g S aq (ST 0) sv3 ST st SGT) rfl 3 (Nat.le_of_ble_eq_true rfl) kX4_takeWay_10 tyX4_ok nmX4 rfl rfl rfl (Nat.le_of_ble_eq_true rfl) (sh_109 g S aq (ST 0) sv3 ST st SGT (st.2 1) sv12 esv12) ?_
        refine y_aload_n C dX4_takeWay_70 1 rfl rfl ?_
        refine y_iload_n C dX4_takeWay_71 3 rfl rfl ?_
        obtain ⟨sv13, esv13⟩ : ∃ z : RV, z = rvI sv12 5 pk := ⟨_, rfl⟩
        have h := y_letF h esv13
        refine y_put (Cn := RX4) (T := TX4) (N := 9) (v := .int pk) (ty0 := tyX4) (L1 := ([seaC S aq (ST 0) sv13, tabC ST st] ++ tabR g ST st SGT : List va_W)) C dX4_takeWay_72 hX4_takeWay_X4 0 (sh_105 g S aq (ST 0) sv12 ST st SGT) rfl 7 (Nat.le_of_ble_eq_true rfl) kX4_takeWay_11 tyX4_ok nmX4 rfl rfl rfl (Nat.le_of_ble_eq_true rfl) (sh_110 g S aq (ST 0) sv12 ST st SGT pk sv13 esv13) ?_
        refine y_aload_n C dX4_takeWay_75 1 rfl rfl ?_
        refine y_iload_n C dX4_takeWay_76 4 rfl rfl ?_
        obtain ⟨sv14, esv14⟩ : ∃ z : RV, z = rvI sv13 6 dn := ⟨_, rfl⟩
        have h := y_letF h esv14
        refine y_put (Cn := RX4) (T := TX4) (N := 9) (v := .int dn) (ty0 := tyX4) (L1 := ([seaC S aq (ST 0) sv14, tabC ST st] ++ tabR g ST st SGT : List va_W)) C dX4_takeWay_77 hX4_takeWay_X4 0 (sh_105 g S aq (ST 0) sv13 ST st SGT) rfl 8 (Nat.le_of_ble_eq_true rfl) kX4_takeWay_12 tyX4_ok nmX4 rfl rfl rfl (Nat.le_of_ble_eq_true rfl) (sh_111 g S aq (ST 0) sv13 ST st SGT dn sv14 esv14) ?_
        refine y_aload_n C dX4_takeWay_80 1 rfl rfl ?_
        refine y_aload_n C dX4_takeWay_81 1 rfl rfl ?_
        refine y_get (Cn := RX4) (T := TX4) (N := 9) (v := .ref (ST 0)) C dX4_takeWay_82 hX4_takeWay_X4 0 (sh_105 g S aq (ST 0) sv14 ST st SGT) rfl 1 (Nat.le_of_ble_eq_true rfl) kX4_takeWay_1 rfl ?_
        refine y_get (Cn := RX5) (T := TX5) (N := 10) (v := .ref (ST 7)) C dX4_takeWay_85 hX4_takeWay_X5 1 (sh_106 g S aq (ST 0) sv14 ST st SGT) rfl 3 (Nat.le_of_ble_eq_true rfl) kX4_takeWay_13 rfl ?_
        refine y_iload_n C dX4_takeWay_88 2 rfl rfl ?_
        refine y_callV (As := [.int ri]) (rest := [.ref S]) C dX4_takeWay_89 (c_X3_at g (ST 7) (ST 8) 17 (st.1 3) (SGT 3) ri (by decide)) rfl rfl rfl rfl ⟨Nat.le_of_ble_eq_true rfl, Nat.le_of_ble_eq_true rfl⟩ gX4_takeWay_X3_at (nA := 1) (by decide +kernel) rfl (rowW_recv ⟨_, rfl⟩) (Nat.le_of_ble_eq_true rfl) ⟨Nat.le_of_ble_eq_true rfl, Nat.le_of_ble_eq_true rfl⟩ [5] [0, 1, 2, 3, 4, 6] (nB := 7) rfl (by decide +kernel) (sh_112 g S aq (ST 0) sv14 ST st SGT) (fun r15 w9 hw => ?_)
        obtain ⟨er15, rfl⟩ := hw
        have h := y_letF h er15
        refine ⟨([seaC S aq (ST 0) sv14, tabC ST st] ++ tabR g ST st SGT : List va_W), ⟨(sh_112 g S aq (ST 0) sv14 ST st SGT), rfl, rfl⟩, ?_⟩
        obtain ⟨sv16, esv16⟩ : ∃ z : RV, z = rvI sv14 2 r15 := ⟨_, rfl⟩
        have h := y_letF h esv16
        refine y_put (Cn := RX4) (T := TX4) (N := 9) (v := .int r15) (ty0 := tyX4) (L1 := ([seaC S aq (ST 0) sv16, tabC ST st] ++ tabR g ST st SGT : List va_W)) C dX4_takeWay_92 hX4_takeWay_X4 0 (sh_105 g S aq (ST 0) sv14 ST st SGT) rfl 4 (Nat.le_of_ble_eq_true rfl) kX4_takeWay_14 tyX4_ok nmX4 rfl rfl rfl (Nat.le_of_ble_eq_true rfl) (sh_113 g S aq (ST 0) sv14 ST st SGT r15 sv16 esv16) ?_
        refine y_aload_n C dX4_takeWay_95 1 rfl rfl ?_
        refine y_iload C dX4_takeWay_96 0 rfl ?_
        obtain ⟨sv17, esv17⟩ : ∃ z : RV, z = rvI sv16 3 r1 := ⟨_, rfl⟩
        have h := y_letF h esv17
        refine y_put (Cn := RX4) (T := TX4) (N := 9) (v := .int r1) (ty0 := tyX4) (L1 := ([seaC S aq (ST 0) sv17, tabC ST st] ++ tabR g ST st SGT : List va_W)) C dX4_takeWay_98 hX4_takeWay_X4 0 (sh_105 g S aq (ST 0) sv16 ST st SGT) rfl 5 (Nat.le_of_ble_eq_true rfl) kX4_takeWay_15 tyX4_ok nmX4 rfl rfl rfl (Nat.le_of_ble_eq_true rfl) (sh_114 g S aq (ST 0) sv16 ST st SGT r1 sv17 esv17) ?_
        refine y_aload_n C dX4_takeWay_101 1 rfl rfl ?_
        refine y_dup C dX4_takeWay_102 rfl ?_
        refine y_get (Cn := RX4) (T := TX4) (N := 9) (v := .int (sv17.2 0)) C dX4_takeWay_103 hX4_takeWay_X4 0 (sh_105 g S aq (ST 0) sv17 ST st SGT) rfl 2 (Nat.le_of_ble_eq_true rfl) kX4_takeWay_3 rfl ?_
        refine y_iconst (v := 1) C dX4_takeWay_106 (by decide) ?_
        refine y_iadd C dX4_takeWay_107 ?_
        obtain ⟨sv18, esv18⟩ : ∃ z : RV, z = rvI sv17 0 ((sv17.2 0) + (1 : Int32)) := ⟨_, rfl⟩
        have h := y_letF h esv18
        refine y_put (Cn := RX4) (T := TX4) (N := 9) (v := .int ((sv17.2 0) + (1 : Int32))) (ty0 := tyX4) (L1 := ([seaC S aq (ST 0) sv18, tabC ST st] ++ tabR g ST st SGT : List va_W)) C dX4_takeWay_108 hX4_takeWay_X4 0 (sh_105 g S aq (ST 0) sv17 ST st SGT) rfl 2 (Nat.le_of_ble_eq_true rfl) kX4_takeWay_3 tyX4_ok nmX4 rfl rfl rfl (Nat.le_of_ble_eq_true rfl) (sh_115 g S aq (ST 0) sv17 ST st SGT ((sv17.2 0) + (1 : Int32)) sv18 esv18) ?_
        exact HR 111 dX4_takeWay_111 _ _ _ _ (Nat.le_of_ble_eq_true rfl) (Nat.le_of_ble_eq_true rfl) ⟨sv18, by rw [h], rfl⟩
  · refine y_iload C dX4_takeWay_21 0 rfl ?_
    refine y_goto (tgt := 35) C dX4_takeWay_23 rfl ?_
    obtain ⟨sv19, esv19⟩ : ∃ z : RV, z = rvI sv 4 r1 := ⟨_, rfl⟩
    have h := y_letF h esv19
    refine y_put (Cn := RX4) (T := TX4) (N := 9) (v := .int r1) (ty0 := tyX4) (L1 := ([seaC S aq (ST 0) sv19, tabC ST st] ++ tabR g ST st SGT : List va_W)) C dX4_takeWay_35 hX4_takeWay_X4 0 (sh_105 g S aq (ST 0) sv ST st SGT) rfl 6 (Nat.le_of_ble_eq_true rfl) kX4_takeWay_4 tyX4_ok nmX4 rfl rfl rfl (Nat.le_of_ble_eq_true rfl) (sh_108 g S aq (ST 0) sv ST st SGT r1 sv19 esv19) ?_
    refine y_aload_n C dX4_takeWay_38 1 rfl rfl ?_
    refine y_get (Cn := RX4) (T := TX4) (N := 9) (v := .int (sv19.2 0)) C dX4_takeWay_39 hX4_takeWay_X4 0 (sh_105 g S aq (ST 0) sv19 ST st SGT) rfl 2 (Nat.le_of_ble_eq_true rfl) kX4_takeWay_3 rfl ?_
    refine y_if_eq (tgt := 59) C dX4_takeWay_42 rfl (y_e h) (fun c42 h => ?_) (fun c42 h => ?_)
    · refine y_aload_n C dX4_takeWay_59 1 rfl rfl ?_
      refine y_aload_n C dX4_takeWay_60 1 rfl rfl ?_
      refine y_get (Cn := RX4) (T := TX4) (N := 9) (v := .ref (ST 0)) C dX4_takeWay_61 hX4_takeWay_X4 0 (sh_105 g S aq (ST 0) sv19 ST st SGT) rfl 1 (Nat.le_of_ble_eq_true rfl) kX4_takeWay_1 rfl ?_
      refine y_get (Cn := RX5) (T := TX5) (N := 10) (v := .int (st.2 1)) C dX4_takeWay_64 hX4_takeWay_X5 1 (sh_106 g S aq (ST 0) sv19 ST st SGT) rfl 6 (Nat.le_of_ble_eq_true rfl) kX4_takeWay_9 rfl ?_
      obtain ⟨sv20, esv20⟩ : ∃ z : RV, z = rvI sv19 1 (st.2 1) := ⟨_, rfl⟩
      have h := y_letF h esv20
      refine y_put (Cn := RX4) (T := TX4) (N := 9) (v := .int (st.2 1)) (ty0 := tyX4) (L1 := ([seaC S aq (ST 0) sv20, tabC ST st] ++ tabR g ST st SGT : List va_W)) C dX4_takeWay_67 hX4_takeWay_X4 0 (sh_105 g S aq (ST 0) sv19 ST st SGT) rfl 3 (Nat.le_of_ble_eq_true rfl) kX4_takeWay_10 tyX4_ok nmX4 rfl rfl rfl (Nat.le_of_ble_eq_true rfl) (sh_109 g S aq (ST 0) sv19 ST st SGT (st.2 1) sv20 esv20) ?_
      refine y_aload_n C dX4_takeWay_70 1 rfl rfl ?_
      refine y_iload_n C dX4_takeWay_71 3 rfl rfl ?_
      obtain ⟨sv21, esv21⟩ : ∃ z : RV, z = rvI sv20 5 pk := ⟨_, rfl⟩
      have h := y_letF h esv21
      refine y_put (Cn := RX4) (T := TX4) (N := 9) (v := .int pk) (ty0 := tyX4) (L1 := ([seaC S aq (ST 0) sv21, tabC ST st] ++ tabR g ST st SGT : List va_W)) C dX4_takeWay_72 hX4_takeWay_X4 0 (sh_105 g S aq (ST 0) sv20 ST st SGT) rfl 7 (Nat.le_of_ble_eq_true rfl) kX4_takeWay_11 tyX4_ok nmX4 rfl rfl rfl (Nat.le_of_ble_eq_true rfl) (sh_110 g S aq (ST 0) sv20 ST st SGT pk sv21 esv21) ?_
      refine y_aload_n C dX4_takeWay_75 1 rfl rfl ?_
      refine y_iload_n C dX4_takeWay_76 4 rfl rfl ?_
      obtain ⟨sv22, esv22⟩ : ∃ z : RV, z = rvI sv21 6 dn := ⟨_, rfl⟩
      have h := y_letF h esv22
      refine y_put (Cn := RX4) (T := TX4) (N := 9) (v := .int dn) (ty0 := tyX4) (L1 := ([seaC S aq (ST 0) sv22, tabC ST st] ++ tabR g ST st SGT : List va_W)) C dX4_takeWay_77 hX4_takeWay_X4 0 (sh_105 g S aq (ST 0) sv21 ST st SGT) rfl 8 (Nat.le_of_ble_eq_true rfl) kX4_takeWay_12 tyX4_ok nmX4 rfl rfl rfl (Nat.le_of_ble_eq_true rfl) (sh_111 g S aq (ST 0) sv21 ST st SGT dn sv22 esv22) ?_
      refine y_aload_n C dX4_takeWay_80 1 rfl rfl ?_
      refine y_aload_n C dX4_takeWay_81 1 rfl rfl ?_
      refine y_get (Cn := RX4) (T := TX4) (N := 9) (v := .ref (ST 0)) C dX4_takeWay_82 hX4_takeWay_X4 0 (sh_105 g S aq (ST 0) sv22 ST st SGT) rfl 1 (Nat.le_of_ble_eq_true rfl) kX4_takeWay_1 rfl ?_
      refine y_get (Cn := RX5) (T := TX5) (N := 10) (v := .ref (ST 7)) C dX4_takeWay_85 hX4_takeWay_X5 1 (sh_106 g S aq (ST 0) sv22 ST st SGT) rfl 3 (Nat.le_of_ble_eq_true rfl) kX4_takeWay_13 rfl ?_
      refine y_iload_n C dX4_takeWay_88 2 rfl rfl ?_
      refine y_callV (As := [.int ri]) (rest := [.ref S]) C dX4_takeWay_89 (c_X3_at g (ST 7) (ST 8) 17 (st.1 3) (SGT 3) ri (by decide)) rfl rfl rfl rfl ⟨Nat.le_of_ble_eq_true rfl, Nat.le_of_ble_eq_true rfl⟩ gX4_takeWay_X3_at (nA := 1) (by decide +kernel) rfl (rowW_recv ⟨_, rfl⟩) (Nat.le_of_ble_eq_true rfl) ⟨Nat.le_of_ble_eq_true rfl, Nat.le_of_ble_eq_true rfl⟩ [5] [0, 1, 2, 3, 4, 6] (nB := 7) rfl (by decide +kernel) (sh_112 g S aq (ST 0) sv22 ST st SGT) (fun r23 w9 hw => ?_)
      obtain ⟨er23, rfl⟩ := hw
      have h := y_letF h er23
      refine ⟨([seaC S aq (ST 0) sv22, tabC ST st] ++ tabR g ST st SGT : List va_W), ⟨(sh_112 g S aq (ST 0) sv22 ST st SGT), rfl, rfl⟩, ?_⟩
      obtain ⟨sv24, esv24⟩ : ∃ z : RV, z = rvI sv22 2 r23 := ⟨_, rfl⟩
      have h := y_letF h esv24
      refine y_put (Cn := RX4) (T := TX4) (N := 9) (v := .int r23) (ty0 := tyX4) (L1 := ([seaC S aq (ST 0) sv24, tabC ST st] ++ tabR g ST st SGT : List va_W)) C dX4_takeWay_92 hX4_takeWay_X4 0 (sh_105 g S aq (ST 0) sv22 ST st SGT) rfl 4 (Nat.le_of_ble_eq_true rfl) kX4_takeWay_14 tyX4_ok nmX4 rfl rfl rfl (Nat.le_of_ble_eq_true rfl) (sh_113 g S aq (ST 0) sv22 ST st SGT r23 sv24 esv24) ?_
      refine y_aload_n C dX4_takeWay_95 1 rfl rfl ?_
      refine y_iload C dX4_takeWay_96 0 rfl ?_
      obtain ⟨sv25, esv25⟩ : ∃ z : RV, z = rvI sv24 3 r1 := ⟨_, rfl⟩
      have h := y_letF h esv25
      refine y_put (Cn := RX4) (T := TX4) (N := 9) (v := .int r1) (ty0 := tyX4) (L1 := ([seaC S aq (ST 0) sv25, tabC ST st] ++ tabR g ST st SGT : List va_W)) C dX4_takeWay_98 hX4_takeWay_X4 0 (sh_105 g S aq (ST 0) sv24 ST st SGT) rfl 5 (Nat.le_of_ble_eq_true rfl) kX4_takeWay_15 tyX4_ok nmX4 rfl rfl rfl (Nat.le_of_ble_eq_true rfl) (sh_114 g S aq (ST 0) sv24 ST st SGT r1 sv25 esv25) ?_
      refine y_aload_n C dX4_takeWay_101 1 rfl rfl ?_
      refine y_dup C dX4_takeWay_102 rfl ?_
      refine y_get (Cn := RX4) (T := TX4) (N := 9) (v := .int (sv25.2 0)) C dX4_takeWay_103 hX4_takeWay_X4 0 (sh_105 g S aq (ST 0) sv25 ST st SGT) rfl 2 (Nat.le_of_ble_eq_true rfl) kX4_takeWay_3 rfl ?_
      refine y_iconst (v := 1) C dX4_takeWay_106 (by decide) ?_
      refine y_iadd C dX4_takeWay_107 ?_
      obtain ⟨sv26, esv26⟩ : ∃ z : RV, z = rvI sv25 0 ((sv25.2 0) + (1 : Int32)) := ⟨_, rfl⟩
      have h := y_letF h esv26
      refine y_put (Cn := RX4) (T := TX4) (N := 9) (v := .int ((sv25.2 0) + (1 : Int32))) (ty0 := tyX4) (L1 := ([seaC S aq (ST 0) sv26, tabC ST st] ++ tabR g ST st SGT : List va_W)) C dX4_takeWay_108 hX4_takeWay_X4 0 (sh_105 g S aq (ST 0) sv25 ST st SGT) rfl 2 (Nat.le_of_ble_eq_true rfl) kX4_takeWay_3 tyX4_ok nmX4 rfl rfl rfl (Nat.le_of_ble_eq_true rfl) (sh_115 g S aq (ST 0) sv25 ST st SGT ((sv25.2 0) + (1 : Int32)) sv26 esv26) ?_
      exact HR 111 dX4_takeWay_111 _ _ _ _ (Nat.le_of_ble_eq_true rfl) (Nat.le_of_ble_eq_true rfl) ⟨sv26, by rw [h], rfl⟩
    · refine y_aload_n C dX4_takeWay_45 1 rfl rfl ?_
      refine y_get (Cn := RX4) (T := TX4) (N := 9) (v := .ref (ST 0)) C dX4_takeWay_46 hX4_takeWay_X4 0 (sh_105 g S aq (ST 0) sv19 ST st SGT) rfl 1 (Nat.le_of_ble_eq_true rfl) kX4_takeWay_1 rfl ?_
      refine y_get (Cn := RX5) (T := TX5) (N := 10) (v := .int (st.2 1)) C dX4_takeWay_49 hX4_takeWay_X5 1 (sh_106 g S aq (ST 0) sv19 ST st SGT) rfl 6 (Nat.le_of_ble_eq_true rfl) kX4_takeWay_9 rfl ?_
      refine y_aload_n C dX4_takeWay_52 1 rfl rfl ?_
      refine y_get (Cn := RX4) (T := TX4) (N := 9) (v := .int (sv19.2 1)) C dX4_takeWay_53 hX4_takeWay_X4 0 (sh_105 g S aq (ST 0) sv19 ST st SGT) rfl 3 (Nat.le_of_ble_eq_true rfl) kX4_takeWay_10 rfl ?_
      refine y_icmp_ge (tgt := 101) C dX4_takeWay_56 rfl (y_e h) (fun c56 h => ?_) (fun c56 h => ?_)
      · refine y_aload_n C dX4_takeWay_101 1 rfl rfl ?_
        refine y_dup C dX4_takeWay_102 rfl ?_
        refine y_get (Cn := RX4) (T := TX4) (N := 9) (v := .int (sv19.2 0)) C dX4_takeWay_103 hX4_takeWay_X4 0 (sh_105 g S aq (ST 0) sv19 ST st SGT) rfl 2 (Nat.le_of_ble_eq_true rfl) kX4_takeWay_3 rfl ?_
        refine y_iconst (v := 1) C dX4_takeWay_106 (by decide) ?_
        refine y_iadd C dX4_takeWay_107 ?_
        obtain ⟨sv27, esv27⟩ : ∃ z : RV, z = rvI sv19 0 ((sv19.2 0) + (1 : Int32)) := ⟨_, rfl⟩
        have h := y_letF h esv27
        refine y_put (Cn := RX4) (T := TX4) (N := 9) (v := .int ((sv19.2 0) + (1 : Int32))) (ty0 := tyX4) (L1 := ([seaC S aq (ST 0) sv27, tabC ST st] ++ tabR g ST st SGT : List va_W)) C dX4_takeWay_108 hX4_takeWay_X4 0 (sh_105 g S aq (ST 0) sv19 ST st SGT) rfl 2 (Nat.le_of_ble_eq_true rfl) kX4_takeWay_3 tyX4_ok nmX4 rfl rfl rfl (Nat.le_of_ble_eq_true rfl) (sh_115 g S aq (ST 0) sv19 ST st SGT ((sv19.2 0) + (1 : Int32)) sv27 esv27) ?_
        exact HR 111 dX4_takeWay_111 _ _ _ _ (Nat.le_of_ble_eq_true rfl) (Nat.le_of_ble_eq_true rfl) ⟨sv27, by rw [h], rfl⟩
      · refine y_aload_n C dX4_takeWay_59 1 rfl rfl ?_
        refine y_aload_n C dX4_takeWay_60 1 rfl rfl ?_
        refine y_get (Cn := RX4) (T := TX4) (N := 9) (v := .ref (ST 0)) C dX4_takeWay_61 hX4_takeWay_X4 0 (sh_105 g S aq (ST 0) sv19 ST st SGT) rfl 1 (Nat.le_of_ble_eq_true rfl) kX4_takeWay_1 rfl ?_
        refine y_get (Cn := RX5) (T := TX5) (N := 10) (v := .int (st.2 1)) C dX4_takeWay_64 hX4_takeWay_X5 1 (sh_106 g S aq (ST 0) sv19 ST st SGT) rfl 6 (Nat.le_of_ble_eq_true rfl) kX4_takeWay_9 rfl ?_
        obtain ⟨sv28, esv28⟩ : ∃ z : RV, z = rvI sv19 1 (st.2 1) := ⟨_, rfl⟩
        have h := y_letF h esv28
        refine y_put (Cn := RX4) (T := TX4) (N := 9) (v := .int (st.2 1)) (ty0 := tyX4) (L1 := ([seaC S aq (ST 0) sv28, tabC ST st] ++ tabR g ST st SGT : List va_W)) C dX4_takeWay_67 hX4_takeWay_X4 0 (sh_105 g S aq (ST 0) sv19 ST st SGT) rfl 3 (Nat.le_of_ble_eq_true rfl) kX4_takeWay_10 tyX4_ok nmX4 rfl rfl rfl (Nat.le_of_ble_eq_true rfl) (sh_109 g S aq (ST 0) sv19 ST st SGT (st.2 1) sv28 esv28) ?_
        refine y_aload_n C dX4_takeWay_70 1 rfl rfl ?_
        refine y_iload_n C dX4_takeWay_71 3 rfl rfl ?_
        obtain ⟨sv29, esv29⟩ : ∃ z : RV, z = rvI sv28 5 pk := ⟨_, rfl⟩
        have h := y_letF h esv29
        refine y_put (Cn := RX4) (T := TX4) (N := 9) (v := .int pk) (ty0 := tyX4) (L1 := ([seaC S aq (ST 0) sv29, tabC ST st] ++ tabR g ST st SGT : List va_W)) C dX4_takeWay_72 hX4_takeWay_X4 0 (sh_105 g S aq (ST 0) sv28 ST st SGT) rfl 7 (Nat.le_of_ble_eq_true rfl) kX4_takeWay_11 tyX4_ok nmX4 rfl rfl rfl (Nat.le_of_ble_eq_true rfl) (sh_110 g S aq (ST 0) sv28 ST st SGT pk sv29 esv29) ?_
        refine y_aload_n C dX4_takeWay_75 1 rfl rfl ?_
        refine y_iload_n C dX4_takeWay_76 4 rfl rfl ?_
        obtain ⟨sv30, esv30⟩ : ∃ z : RV, z = rvI sv29 6 dn := ⟨_, rfl⟩
        have h := y_letF h esv30
        refine y_put (Cn := RX4) (T := TX4) (N := 9) (v := .int dn) (ty0 := tyX4) (L1 := ([seaC S aq (ST 0) sv30, tabC ST st] ++ tabR g ST st SGT : List va_W)) C dX4_takeWay_77 hX4_takeWay_X4 0 (sh_105 g S aq (ST 0) sv29 ST st SGT) rfl 8 (Nat.le_of_ble_eq_true rfl) kX4_takeWay_12 tyX4_ok nmX4 rfl rfl rfl (Nat.le_of_ble_eq_true rfl) (sh_111 g S aq (ST 0) sv29 ST st SGT dn sv30 esv30) ?_
        refine y_aload_n C dX4_takeWay_80 1 rfl rfl ?_
        refine y_aload_n C dX4_takeWay_81 1 rfl rfl ?_
        refine y_get (Cn := RX4) (T := TX4) (N := 9) (v := .ref (ST 0)) C dX4_takeWay_82 hX4_takeWay_X4 0 (sh_105 g S aq (ST 0) sv30 ST st SGT) rfl 1 (Nat.le_of_ble_eq_true rfl) kX4_takeWay_1 rfl ?_
        refine y_get (Cn := RX5) (T := TX5) (N := 10) (v := .ref (ST 7)) C dX4_takeWay_85 hX4_takeWay_X5 1 (sh_106 g S aq (ST 0) sv30 ST st SGT) rfl 3 (Nat.le_of_ble_eq_true rfl) kX4_takeWay_13 rfl ?_
        refine y_iload_n C dX4_takeWay_88 2 rfl rfl ?_
        refine y_callV (As := [.int ri]) (rest := [.ref S]) C dX4_takeWay_89 (c_X3_at g (ST 7) (ST 8) 17 (st.1 3) (SGT 3) ri (by decide)) rfl rfl rfl rfl ⟨Nat.le_of_ble_eq_true rfl, Nat.le_of_ble_eq_true rfl⟩ gX4_takeWay_X3_at (nA := 1) (by decide +kernel) rfl (rowW_recv ⟨_, rfl⟩) (Nat.le_of_ble_eq_true rfl) ⟨Nat.le_of_ble_eq_true rfl, Nat.le_of_ble_eq_true rfl⟩ [5] [0, 1, 2, 3, 4, 6] (nB := 7) rfl (by decide +kernel) (sh_112 g S aq (ST 0) sv30 ST st SGT) (fun r31 w9 hw => ?_)
        obtain ⟨er31, rfl⟩ := hw
        have h := y_letF h er31
        refine ⟨([seaC S aq (ST 0) sv30, tabC ST st] ++ tabR g ST st SGT : List va_W), ⟨(sh_112 g S aq (ST 0) sv30 ST st SGT), rfl, rfl⟩, ?_⟩
        obtain ⟨sv32, esv32⟩ : ∃ z : RV, z = rvI sv30 2 r31 := ⟨_, rfl⟩
        have h := y_letF h esv32
        refine y_put (Cn := RX4) (T := TX4) (N := 9) (v := .int r31) (ty0 := tyX4) (L1 := ([seaC S aq (ST 0) sv32, tabC ST st] ++ tabR g ST st SGT : List va_W)) C dX4_takeWay_92 hX4_takeWay_X4 0 (sh_105 g S aq (ST 0) sv30 ST st SGT) rfl 4 (Nat.le_of_ble_eq_true rfl) kX4_takeWay_14 tyX4_ok nmX4 rfl rfl rfl (Nat.le_of_ble_eq_true rfl) (sh_113 g S aq (ST 0) sv30 ST st SGT r31 sv32 esv32) ?_
        refine y_aload_n C dX4_takeWay_95 1 rfl rfl ?_
        refine y_iload C dX4_takeWay_96 0 rfl ?_
        obtain ⟨sv33, esv33⟩ : ∃ z : RV, z = rvI sv32 3 r1 := ⟨_, rfl⟩
        have h := y_letF h esv33
        refine y_put (Cn := RX4) (T := TX4) (N := 9) (v := .int r1) (ty0 := tyX4) (L1 := ([seaC S aq (ST 0) sv33, tabC ST st] ++ tabR g ST st SGT : List va_W)) C dX4_takeWay_98 hX4_takeWay_X4 0 (sh_105 g S aq (ST 0) sv32 ST st SGT) rfl 5 (Nat.le_of_ble_eq_true rfl) kX4_takeWay_15 tyX4_ok nmX4 rfl rfl rfl (Nat.le_of_ble_eq_true rfl) (sh_114 g S aq (ST 0) sv32 ST st SGT r1 sv33 esv33) ?_
        refine y_aload_n C dX4_takeWay_101 1 rfl rfl ?_
        refine y_dup C dX4_takeWay_102 rfl ?_
        refine y_get (Cn := RX4) (T := TX4) (N := 9) (v := .int (sv33.2 0)) C dX4_takeWay_103 hX4_takeWay_X4 0 (sh_105 g S aq (ST 0) sv33 ST st SGT) rfl 2 (Nat.le_of_ble_eq_true rfl) kX4_takeWay_3 rfl ?_
        refine y_iconst (v := 1) C dX4_takeWay_106 (by decide) ?_
        refine y_iadd C dX4_takeWay_107 ?_
        obtain ⟨sv34, esv34⟩ : ∃ z : RV, z = rvI sv33 0 ((sv33.2 0) + (1 : Int32)) := ⟨_, rfl⟩
        have h := y_letF h esv34
        refine y_put (Cn := RX4) (T := TX4) (N := 9) (v := .int ((sv33.2 0) + (1 : Int32))) (ty0 := tyX4) (L1 := ([seaC S aq (ST 0) sv34, tabC ST st] ++ tabR g ST st SGT : List va_W)) C dX4_takeWay_108 hX4_takeWay_X4 0 (sh_105 g S aq (ST 0) sv33 ST st SGT) rfl 2 (Nat.le_of_ble_eq_true rfl) kX4_takeWay_3 tyX4_ok nmX4 rfl rfl rfl (Nat.le_of_ble_eq_true rfl) (sh_115 g S aq (ST 0) sv33 ST st SGT ((sv33.2 0) + (1 : Int32)) sv34 esv34) ?_
        exact HR 111 dX4_takeWay_111 _ _ _ _ (Nat.le_of_ble_eq_true rfl) (Nat.le_of_ble_eq_true rfl) ⟨sv34, by rw [h], rfl⟩
