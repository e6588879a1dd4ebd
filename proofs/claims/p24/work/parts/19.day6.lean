theorem dX0_copy_0 : decode cX0_copy 0 = .ok (.aload_n 0, 1) := by decide +kernel
theorem dX0_copy_1 : decode cX0_copy 1 = .ok (.getfield 14, 3) := by decide +kernel
theorem dX0_copy_4 : decode cX0_copy 4 = .ok (.aload_n 1, 1) := by decide +kernel
theorem dX0_copy_5 : decode cX0_copy 5 = .ok (.getfield 14, 3) := by decide +kernel
theorem dX0_copy_8 : decode cX0_copy 8 = .ok (.invokevirtual 56, 3) := by decide +kernel
theorem dX0_copy_11 : decode cX0_copy 11 = .ok (.aload_n 0, 1) := by decide +kernel
theorem dX0_copy_12 : decode cX0_copy 12 = .ok (.getfield 20, 3) := by decide +kernel
theorem dX0_copy_15 : decode cX0_copy 15 = .ok (.aload_n 1, 1) := by decide +kernel
theorem dX0_copy_16 : decode cX0_copy 16 = .ok (.getfield 20, 3) := by decide +kernel
theorem dX0_copy_19 : decode cX0_copy 19 = .ok (.invokevirtual 56, 3) := by decide +kernel
theorem dX0_copy_22 : decode cX0_copy 22 = .ok (.aload_n 0, 1) := by decide +kernel
theorem dX0_copy_23 : decode cX0_copy 23 = .ok (.getfield 23, 3) := by decide +kernel
theorem dX0_copy_26 : decode cX0_copy 26 = .ok (.aload_n 1, 1) := by decide +kernel
theorem dX0_copy_27 : decode cX0_copy 27 = .ok (.getfield 23, 3) := by decide +kernel
theorem dX0_copy_30 : decode cX0_copy 30 = .ok (.invokevirtual 56, 3) := by decide +kernel
theorem dX0_copy_33 : decode cX0_copy 33 = .ok (.aload_n 0, 1) := by decide +kernel
theorem dX0_copy_34 : decode cX0_copy 34 = .ok (.getfield 26, 3) := by decide +kernel
theorem dX0_copy_37 : decode cX0_copy 37 = .ok (.aload_n 1, 1) := by decide +kernel
theorem dX0_copy_38 : decode cX0_copy 38 = .ok (.getfield 26, 3) := by decide +kernel
theorem dX0_copy_41 : decode cX0_copy 41 = .ok (.invokevirtual 56, 3) := by decide +kernel
theorem dX0_copy_44 : decode cX0_copy 44 = .ok (.aload_n 0, 1) := by decide +kernel
theorem dX0_copy_45 : decode cX0_copy 45 = .ok (.getfield 29, 3) := by decide +kernel
theorem dX0_copy_48 : decode cX0_copy 48 = .ok (.aload_n 1, 1) := by decide +kernel
theorem dX0_copy_49 : decode cX0_copy 49 = .ok (.getfield 29, 3) := by decide +kernel
theorem dX0_copy_52 : decode cX0_copy 52 = .ok (.invokevirtual 56, 3) := by decide +kernel
theorem dX0_copy_55 : decode cX0_copy 55 = .ok (.aload_n 0, 1) := by decide +kernel
theorem dX0_copy_56 : decode cX0_copy 56 = .ok (.getfield 32, 3) := by decide +kernel
theorem dX0_copy_59 : decode cX0_copy 59 = .ok (.aload_n 1, 1) := by decide +kernel
theorem dX0_copy_60 : decode cX0_copy 60 = .ok (.getfield 32, 3) := by decide +kernel
theorem dX0_copy_63 : decode cX0_copy 63 = .ok (.invokevirtual 56, 3) := by decide +kernel
theorem dX0_copy_66 : decode cX0_copy 66 = .ok (.aload_n 0, 1) := by decide +kernel
theorem dX0_copy_67 : decode cX0_copy 67 = .ok (.getfield 35, 3) := by decide +kernel
theorem dX0_copy_70 : decode cX0_copy 70 = .ok (.aload_n 1, 1) := by decide +kernel
theorem dX0_copy_71 : decode cX0_copy 71 = .ok (.getfield 35, 3) := by decide +kernel
theorem dX0_copy_74 : decode cX0_copy 74 = .ok (.invokevirtual 56, 3) := by decide +kernel
theorem dX0_copy_77 : decode cX0_copy 77 = .ok (.aload_n 0, 1) := by decide +kernel
theorem dX0_copy_78 : decode cX0_copy 78 = .ok (.getfield 38, 3) := by decide +kernel
theorem dX0_copy_81 : decode cX0_copy 81 = .ok (.aload_n 1, 1) := by decide +kernel
theorem dX0_copy_82 : decode cX0_copy 82 = .ok (.getfield 38, 3) := by decide +kernel
theorem dX0_copy_85 : decode cX0_copy 85 = .ok (.invokevirtual 56, 3) := by decide +kernel
theorem dX0_copy_88 : decode cX0_copy 88 = .ok (.aload_n 0, 1) := by decide +kernel
theorem dX0_copy_89 : decode cX0_copy 89 = .ok (.getfield 41, 3) := by decide +kernel
theorem dX0_copy_92 : decode cX0_copy 92 = .ok (.aload_n 1, 1) := by decide +kernel
theorem dX0_copy_93 : decode cX0_copy 93 = .ok (.getfield 41, 3) := by decide +kernel
theorem dX0_copy_96 : decode cX0_copy 96 = .ok (.invokevirtual 56, 3) := by decide +kernel
theorem dX0_copy_99 : decode cX0_copy 99 = .ok (.aload_n 0, 1) := by decide +kernel
theorem dX0_copy_100 : decode cX0_copy 100 = .ok (.getfield 44, 3) := by decide +kernel
theorem dX0_copy_103 : decode cX0_copy 103 = .ok (.aload_n 1, 1) := by decide +kernel
theorem dX0_copy_104 : decode cX0_copy 104 = .ok (.getfield 44, 3) := by decide +kernel
theorem dX0_copy_107 : decode cX0_copy 107 = .ok (.invokevirtual 56, 3) := by decide +kernel
theorem dX0_copy_110 : decode cX0_copy 110 = .ok (.aload_n 0, 1) := by decide +kernel
theorem dX0_copy_111 : decode cX0_copy 111 = .ok (.getfield 47, 3) := by decide +kernel
theorem dX0_copy_114 : decode cX0_copy 114 = .ok (.aload_n 1, 1) := by decide +kernel
theorem dX0_copy_115 : decode cX0_copy 115 = .ok (.getfield 47, 3) := by decide +kernel
theorem dX0_copy_118 : decode cX0_copy 118 = .ok (.invokevirtual 56, 3) := by decide +kernel
theorem dX0_copy_121 : decode cX0_copy 121 = .ok (.aload_n 0, 1) := by decide +kernel
theorem dX0_copy_122 : decode cX0_copy 122 = .ok (.getfield 50, 3) := by decide +kernel
theorem dX0_copy_125 : decode cX0_copy 125 = .ok (.aload_n 1, 1) := by decide +kernel
theorem dX0_copy_126 : decode cX0_copy 126 = .ok (.getfield 50, 3) := by decide +kernel
theorem dX0_copy_129 : decode cX0_copy 129 = .ok (.invokevirtual 56, 3) := by decide +kernel
theorem dX0_copy_132 : decode cX0_copy 132 = .ok (.aload_n 0, 1) := by decide +kernel
theorem dX0_copy_133 : decode cX0_copy 133 = .ok (.aload_n 1, 1) := by decide +kernel
theorem dX0_copy_134 : decode cX0_copy 134 = .ok (.getfield 60, 3) := by decide +kernel
theorem dX0_copy_137 : decode cX0_copy 137 = .ok (.putfield 60, 3) := by decide +kernel
theorem dX0_copy_140 : decode cX0_copy 140 = .ok (.aload_n 0, 1) := by decide +kernel
theorem dX0_copy_141 : decode cX0_copy 141 = .ok (.aload_n 1, 1) := by decide +kernel
theorem dX0_copy_142 : decode cX0_copy 142 = .ok (.getfield 64, 3) := by decide +kernel
theorem dX0_copy_145 : decode cX0_copy 145 = .ok (.putfield 64, 3) := by decide +kernel
theorem dX0_copy_148 : decode cX0_copy 148 = .ok (.aload_n 0, 1) := by decide +kernel
theorem dX0_copy_149 : decode cX0_copy 149 = .ok (.aload_n 1, 1) := by decide +kernel
theorem dX0_copy_150 : decode cX0_copy 150 = .ok (.getfield 67, 3) := by decide +kernel
theorem dX0_copy_153 : decode cX0_copy 153 = .ok (.putfield 67, 3) := by decide +kernel
theorem dX0_copy_156 : decode cX0_copy 156 = .ok (.return_, 1) := by decide +kernel
set_option maxRecDepth 20000 in
theorem ggX0_copy_X3_copy : GoodIn wsX0_copy wsX3_copy := goodIn_r _ [20, 21, 22, 23, 24, 25, 26, 42, 43] (by decide +kernel) (by decide +kernel)
set_option maxRecDepth 20000 in
theorem gX0_copy_X3_copy : GoodIn wsX0_copy (wsV RX0 56 RX3 yX3_copy wsX3_copy) := goodIn_app (goodIn_of _ (by decide +kernel)) ggX0_copy_X3_copy
theorem kX0_copy_1 : Cond.fieldLink RX0 14 "BookedDetours$Day" "settings" "LBookedDetours$Row;" ∈ wsX0_copy := List.mem_of_getElem? (i := 1) (by decide +kernel)
theorem kX0_copy_2 : Cond.fieldLink RX0 20 "BookedDetours$Day" "xs" "LBookedDetours$Row;" ∈ wsX0_copy := List.mem_of_getElem? (i := 2) (by decide +kernel)
theorem kX0_copy_3 : Cond.fieldLink RX0 23 "BookedDetours$Day" "ys" "LBookedDetours$Row;" ∈ wsX0_copy := List.mem_of_getElem? (i := 3) (by decide +kernel)
theorem kX0_copy_4 : Cond.fieldLink RX0 26 "BookedDetours$Day" "froms" "LBookedDetours$Row;" ∈ wsX0_copy := List.mem_of_getElem? (i := 4) (by decide +kernel)
theorem kX0_copy_5 : Cond.fieldLink RX0 29 "BookedDetours$Day" "tos" "LBookedDetours$Row;" ∈ wsX0_copy := List.mem_of_getElem? (i := 5) (by decide +kernel)
theorem kX0_copy_6 : Cond.fieldLink RX0 32 "BookedDetours$Day" "waits" "LBookedDetours$Row;" ∈ wsX0_copy := List.mem_of_getElem? (i := 6) (by decide +kernel)
theorem kX0_copy_7 : Cond.fieldLink RX0 35 "BookedDetours$Day" "bys" "LBookedDetours$Row;" ∈ wsX0_copy := List.mem_of_getElem? (i := 7) (by decide +kernel)
theorem kX0_copy_8 : Cond.fieldLink RX0 38 "BookedDetours$Day" "straights" "LBookedDetours$Row;" ∈ wsX0_copy := List.mem_of_getElem? (i := 8) (by decide +kernel)
theorem kX0_copy_9 : Cond.fieldLink RX0 41 "BookedDetours$Day" "stands" "LBookedDetours$Row;" ∈ wsX0_copy := List.mem_of_getElem? (i := 9) (by decide +kernel)
theorem kX0_copy_10 : Cond.fieldLink RX0 44 "BookedDetours$Day" "picks" "LBookedDetours$Row;" ∈ wsX0_copy := List.mem_of_getElem? (i := 10) (by decide +kernel)
theorem kX0_copy_11 : Cond.fieldLink RX0 47 "BookedDetours$Day" "downs" "LBookedDetours$Row;" ∈ wsX0_copy := List.mem_of_getElem? (i := 11) (by decide +kernel)
theorem kX0_copy_12 : Cond.fieldLink RX0 50 "BookedDetours$Day" "route" "LBookedDetours$Row;" ∈ wsX0_copy := List.mem_of_getElem? (i := 12) (by decide +kernel)
theorem kX0_copy_13 : Cond.fieldLink RX0 60 "BookedDetours$Day" "now" "I" ∈ wsX0_copy := List.mem_of_getElem? (i := 13) (by decide +kernel)
theorem kX0_copy_14 : Cond.fieldLink RX0 64 "BookedDetours$Day" "busStop" "I" ∈ wsX0_copy := List.mem_of_getElem? (i := 14) (by decide +kernel)
theorem kX0_copy_15 : Cond.fieldLink RX0 67 "BookedDetours$Day" "busFree" "I" ∈ wsX0_copy := List.mem_of_getElem? (i := 15) (by decide +kernel)
theorem hX0_copy_X0 : ∀ w ∈ u_ws RX0 TX0 15, w ∈ wsX0_copy := fun _ h => List.mem_cons_of_mem _ (List.mem_append_left _ (List.mem_append_right _ h))
set_option maxHeartbeats 4000000 in
set_option maxRecDepth 100000 in
theorem c_X0_copy (g : yG) (A : Nat → Nat) (d : RV) (G : Nat → Nat → Int32) (B : Nat → Nat) (o : RV) (GB : Nat → Nat → Int32)  : yMv g yX0_copy wsX0_copy ({ frames := 2, cells := 0, slots := 0, locals := 43 } : Room) [.ref (A 0), .ref (B 0)] ([dayC A d, dayC B o] ++ (dayR g A d G ++ dayR g B o GB) : List va_W) (fun w => ∃ d' : RV, ∃ G' : Nat → Nat → Int32, d' = (f_X0_copy d o) ∧ w = ([dayC A d', dayC B o] ++ (dayR g A d' G' ++ dayR g B o GB) : List va_W)) 0 0 := by
  refine y_entryV (cc := cX0_copy) (maxL := 2) (by decide +kernel) rfl (Nat.le_of_ble_eq_true rfl) (fun Z C _ HR => ?_)
  have C : yC Z g cX0_copy 2 wsX0_copy RX0 := C
  have h := f_X0_copy.eq_1 d o
  show yJ Z _ 0 0 _ 0 [(0, .ref (A 0)), (1, .ref (B 0))] []
  refine y_aload_n C dX0_copy_0 0 rfl rfl ?_
  refine y_get (Cn := RX0) (T := TX0) (N := 15) (v := .ref (A 1)) C dX0_copy_1 hX0_copy_X0 0 (sh_38 g A d G B o GB) rfl 0 (Nat.le_of_ble_eq_true rfl) kX0_copy_1 rfl ?_
  refine y_aload_n C dX0_copy_4 1 rfl rfl ?_
  refine y_get (Cn := RX0) (T := TX0) (N := 15) (v := .ref (B 1)) C dX0_copy_5 hX0_copy_X0 1 (sh_39 g A d G B o GB) rfl 0 (Nat.le_of_ble_eq_true rfl) kX0_copy_1 rfl ?_
  refine y_callVv (As := [.ref (B 1)]) (rest := []) C dX0_copy_8 (c_X3_copy g (A 1) (A 2) 3 (d.1 0) (G 0) (B 1) (B 2) 3 (o.1 0) (GB 0) (by decide) (by decide)) rfl rfl rfl rfl ⟨Nat.le_of_ble_eq_true rfl, Nat.le_of_ble_eq_true rfl⟩ gX0_copy_X3_copy (nA := 1) (by decide +kernel) rfl (rowW_recv ⟨_, rfl⟩) (Nat.le_of_ble_eq_true rfl) ⟨Nat.le_of_ble_eq_true rfl, Nat.le_of_ble_eq_true rfl⟩ [2, 14] [0, 1, 3, 4, 5, 6, 7, 8, 9, 10, 11, 12, 13, 15, 16, 17, 18, 19, 20, 21, 22, 23, 24, 25] (nB := 26) rfl (by decide +kernel) (sh_40 g A d G B o GB) (fun w9 hw => ?_)
  obtain ⟨y1, G2, e3, rfl⟩ := hw
  obtain ⟨d4, ed4⟩ : ∃ z : RV, z = rvR d 0 y1 := ⟨_, rfl⟩
  obtain ⟨G5, eG5⟩ : ∃ z : Nat → Nat → Int32, z = gs G 0 G2 := ⟨_, rfl⟩
  have h := y_letF h (show d4 = rvR d 0 (rCopy 3 (o.1 0)) by rw [ed4, e3])
  refine ⟨([dayC A d4, dayC B o] ++ (dayR g A d4 G5 ++ dayR g B o GB) : List va_W), (sh_41 g A d G B o GB y1 G2 d4 G5 ed4 eG5), ?_⟩
  refine y_aload_n C dX0_copy_11 0 rfl rfl ?_
  refine y_get (Cn := RX0) (T := TX0) (N := 15) (v := .ref (A 3)) C dX0_copy_12 hX0_copy_X0 0 (sh_38 g A d4 G5 B o GB) rfl 1 (Nat.le_of_ble_eq_true rfl) kX0_copy_2 rfl ?_
  refine y_aload_n C dX0_copy_15 1 rfl rfl ?_
  refine y_get (Cn := RX0) (T := TX0) (N := 15) (v := .ref (B 3)) C dX0_copy_16 hX0_copy_X0 1 (sh_39 g A d4 G5 B o GB) rfl 1 (Nat.le_of_ble_eq_true rfl) kX0_copy_2 rfl ?_
  refine y_callVv (As := [.ref (B 3)]) (rest := []) C dX0_copy_19 (c_X3_copy g (A 3) (A 4) 12 (d4.1 1) (G5 1) (B 3) (B 4) 12 (o.1 1) (GB 1) (by decide) (by decide)) rfl rfl rfl rfl ⟨Nat.le_of_ble_eq_true rfl, Nat.le_of_ble_eq_true rfl⟩ gX0_copy_X3_copy (nA := 1) (by decide +kernel) rfl (rowW_recv ⟨_, rfl⟩) (Nat.le_of_ble_eq_true rfl) ⟨Nat.le_of_ble_eq_true rfl, Nat.le_of_ble_eq_true rfl⟩ [3, 15] [0, 1, 2, 4, 5, 6, 7, 8, 9, 10, 11, 12, 13, 14, 16, 17, 18, 19, 20, 21, 22, 23, 24, 25] (nB := 26) rfl (by decide +kernel) (sh_42 g A d4 G5 B o GB) (fun w9 hw => ?_)
  obtain ⟨y6, G7, e8, rfl⟩ := hw
  obtain ⟨d9, ed9⟩ : ∃ z : RV, z = rvR d4 1 y6 := ⟨_, rfl⟩
  obtain ⟨G10, eG10⟩ : ∃ z : Nat → Nat → Int32, z = gs G5 1 G7 := ⟨_, rfl⟩
  have h := y_letF h (show d9 = rvR d4 1 (rCopy 12 (o.1 1)) by rw [ed9, e8])
  refine ⟨([dayC A d9, dayC B o] ++ (dayR g A d9 G10 ++ dayR g B o GB) : List va_W), (sh_43 g A d4 G5 B o GB y6 G7 d9 G10 ed9 eG10), ?_⟩
  refine y_aload_n C dX0_copy_22 0 rfl rfl ?_
  refine y_get (Cn := RX0) (T := TX0) (N := 15) (v := .ref (A 5)) C dX0_copy_23 hX0_copy_X0 0 (sh_38 g A d9 G10 B o GB) rfl 2 (Nat.le_of_ble_eq_true rfl) kX0_copy_3 rfl ?_
  refine y_aload_n C dX0_copy_26 1 rfl rfl ?_
  refine y_get (Cn := RX0) (T := TX0) (N := 15) (v := .ref (B 5)) C dX0_copy_27 hX0_copy_X0 1 (sh_39 g A d9 G10 B o GB) rfl 2 (Nat.le_of_ble_eq_true rfl) kX0_copy_3 rfl ?_
  refine y_callVv (As := [.ref (B 5)]) (rest := []) C dX0_copy_30 (c_X3_copy g (A 5) (A 6) 12 (d9.1 2) (G10 2) (B 5) (B 6) 12 (o.1 2) (GB 2) (by decide) (by decide)) rfl rfl rfl rfl ⟨Nat.le_of_ble_eq_true rfl, Nat.le_of_ble_eq_true rfl⟩ gX0_copy_X3_copy (nA := 1) (by decide +kernel) rfl (rowW_recv ⟨_, rfl⟩) (Nat.le_of_ble_eq_true rfl) ⟨Nat.le_of_ble_eq_true rfl, Nat.le_of_ble_eq_true rfl⟩ [4, 16] [0, 1, 2, 3, 5, 6, 7, 8, 9, 10, 11, 12, 13, 14, 15, 17, 18, 19, 20, 21, 22, 23, 24, 25] (nB := 26) rfl (by decide +kernel) (sh_44 g A d9 G10 B o GB) (fun w9 hw => ?_)
  obtain ⟨y11, G12, e13, rfl⟩ := hw
  obtain ⟨d14, ed14⟩ : ∃ z : RV, z = rvR d9 2 y11 := ⟨_, rfl⟩
  obtain ⟨G15, eG15⟩ : ∃ z : Nat → Nat → Int32, z = gs G10 2 G12 := ⟨_, rfl⟩
  have h := y_letF h (show d14 = rvR d9 2 (rCopy 12 (o.1 2)) by rw [ed14, e13])
  refine ⟨([dayC A d14, dayC B o] ++ (dayR g A d14 G15 ++ dayR g B o GB) : List va_W), (sh_45 g A d9 G10 B o GB y11 G12 d14 G15 ed14 eG15), ?_⟩
  refine y_aload_n C dX0_copy_33 0 rfl rfl ?_
  refine y_get (Cn := RX0) (T := TX0) (N := 15) (v := .ref (A 7)) C dX0_copy_34 hX0_copy_X0 0 (sh_38 g A d14 G15 B o GB) rfl 3 (Nat.le_of_ble_eq_true rfl) kX0_copy_4 rfl ?_
  refine y_aload_n C dX0_copy_37 1 rfl rfl ?_
  refine y_get (Cn := RX0) (T := TX0) (N := 15) (v := .ref (B 7)) C dX0_copy_38 hX0_copy_X0 1 (sh_39 g A d14 G15 B o GB) rfl 3 (Nat.le_of_ble_eq_true rfl) kX0_copy_4 rfl ?_
  refine y_callVv (As := [.ref (B 7)]) (rest := []) C dX0_copy_41 (c_X3_copy g (A 7) (A 8) 17 (d14.1 3) (G15 3) (B 7) (B 8) 17 (o.1 3) (GB 3) (by decide) (by decide)) rfl rfl rfl rfl ⟨Nat.le_of_ble_eq_true rfl, Nat.le_of_ble_eq_true rfl⟩ gX0_copy_X3_copy (nA := 1) (by decide +kernel) rfl (rowW_recv ⟨_, rfl⟩) (Nat.le_of_ble_eq_true rfl) ⟨Nat.le_of_ble_eq_true rfl, Nat.le_of_ble_eq_true rfl⟩ [5, 17] [0, 1, 2, 3, 4, 6, 7, 8, 9, 10, 11, 12, 13, 14, 15, 16, 18, 19, 20, 21, 22, 23, 24, 25] (nB := 26) rfl (by decide +kernel) (sh_46 g A d14 G15 B o GB) (fun w9 hw => ?_)
  obtain ⟨y16, G17, e18, rfl⟩ := hw
  obtain ⟨d19, ed19⟩ : ∃ z : RV, z = rvR d14 3 y16 := ⟨_, rfl⟩
  obtain ⟨G20, eG20⟩ : ∃ z : Nat → Nat → Int32, z = gs G15 3 G17 := ⟨_, rfl⟩
  have h := y_letF h (show d19 = rvR d14 3 (rCopy 17 (o.1 3)) by rw [ed19, e18])
  refine ⟨([dayC A d19, dayC B o] ++ (dayR g A d19 G20 ++ dayR g B o GB) : List va_W), (sh_47 g A d14 G15 B o GB y16 G17 d19 G20 ed19 eG20), ?_⟩
  refine y_aload_n C dX0_copy_44 0 rfl rfl ?_
  refine y_get (Cn := RX0) (T := TX0) (N := 15) (v := .ref (A 9)) C dX0_copy_45 hX0_copy_X0 0 (sh_38 g A d19 G20 B o GB) rfl 4 (Nat.le_of_ble_eq_true rfl) kX0_copy_5 rfl ?_
  refine y_aload_n C dX0_copy_48 1 rfl rfl ?_
  refine y_get (Cn := RX0) (T := TX0) (N := 15) (v := .ref (B 9)) C dX0_copy_49 hX0_copy_X0 1 (sh_39 g A d19 G20 B o GB) rfl 4 (Nat.le_of_ble_eq_true rfl) kX0_copy_5 rfl ?_
  refine y_callVv (As := [.ref (B 9)]) (rest := []) C dX0_copy_52 (c_X3_copy g (A 9) (A 10) 17 (d19.1 4) (G20 4) (B 9) (B 10) 17 (o.1 4) (GB 4) (by decide) (by decide)) rfl rfl rfl rfl ⟨Nat.le_of_ble_eq_true rfl, Nat.le_of_ble_eq_true rfl⟩ gX0_copy_X3_copy (nA := 1) (by decide +kernel) rfl (rowW_recv ⟨_, rfl⟩) (Nat.le_of_ble_eq_true rfl) ⟨Nat.le_of_ble_eq_true rfl, Nat.le_of_ble_eq_true rfl⟩ [6, 18] [0, 1, 2, 3, 4, 5, 7, 8, 9, 10, 11, 12, 13, 14, 15, 16, 17, 19, 20, 21, 22, 23, 24, 25] (nB := 26) rfl (by decide +kernel) (sh_48 g A d19 G20 B o GB) (fun w9 hw => ?_)
  obtain ⟨y21, G22, e23, rfl⟩ := hw
  obtain ⟨d24, ed24⟩ : ∃ z : RV, z = rvR d19 4 y21 := ⟨_, rfl⟩
  obtain ⟨G25, eG25⟩ : ∃ z : Nat → Nat → Int32, z = gs G20 4 G22 := ⟨_, rfl⟩
  have h := y_letF h (show d24 = rvR d19 4 (rCopy 17 (o.1 4)) by rw [ed24, e23])
  refine ⟨([dayC A d24, dayC B o] ++ (dayR g A d24 G25 ++ dayR g B o GB) : List va_W), (sh_49 g A d19 G20 B o GB y21 G22 d24 G25 ed24 eG25), ?_⟩
  refine y_aload_n C dX0_copy_55 0 rfl rfl ?_
  refine y_get (Cn := RX0) (T := TX0) (N := 15) (v := .ref (A 11)) C dX0_copy_56 hX0_copy_X0 0 (sh_38 g A d24 G25 B o GB) rfl 5 (Nat.le_of_ble_eq_true rfl) kX0_copy_6 rfl ?_
  refine y_aload_n C dX0_copy_59 1 rfl rfl ?_
  refine y_get (Cn := RX0) (T := TX0) (N := 15) (v := .ref (B 11)) C dX0_copy_60 hX0_copy_X0 1 (sh_39 g A d24 G25 B o GB) rfl 5 (Nat.le_of_ble_eq_true rfl) kX0_copy_6 rfl ?_
  refine y_callVv (As := [.ref (B 11)]) (rest := []) C dX0_copy_63 (c_X3_copy g (A 11) (A 12) 17 (d24.1 5) (G25 5) (B 11) (B 12) 17 (o.1 5) (GB 5) (by decide) (by decide)) rfl rfl rfl rfl ⟨Nat.le_of_ble_eq_true rfl, Nat.le_of_ble_eq_true rfl⟩ gX0_copy_X3_copy (nA := 1) (by decide +kernel) rfl (rowW_recv ⟨_, rfl⟩) (Nat.le_of_ble_eq_true rfl) ⟨Nat.le_of_ble_eq_true rfl, Nat.le_of_ble_eq_true rfl⟩ [7, 19] [0, 1, 2, 3, 4, 5, 6, 8, 9, 10, 11, 12, 13, 14, 15, 16, 17, 18, 20, 21, 22, 23, 24, 25] (nB := 26) rfl (by decide +kernel) (sh_50 g A d24 G25 B o GB) (fun w9 hw => ?_)
  obtain ⟨y26, G27, e28, rfl⟩ := hw
  obtain ⟨d29, ed29⟩ : ∃ z : RV, z = rvR d24 5 y26 := ⟨_, rfl⟩
  obtain ⟨G30, eG30⟩ : ∃ z : Nat → Nat → Int32, z = gs G25 5 G27 := ⟨_, rfl⟩
  have h := y_letF h (show d29 = rvR d24 5 (rCopy 17 (o.1 5)) by rw [ed29, e28])
  refine ⟨([dayC A d29, dayC B o] ++ (dayR g A d29 G30 ++ dayR g B o GB) : List va_W), (sh_51 g A d24 G25 B o GB y26 G27 d29 G30 ed29 eG30), ?_⟩
  refine y_aload_n C dX0_copy_66 0 rfl rfl ?_
  refine y_get (Cn := RX0) (T := TX0) (N := 15) (v := .ref (A 13)) C dX0_copy_67 hX0_copy_X0 0 (sh_38 g A d29 G30 B o GB) rfl 6 (Nat.le_of_ble_eq_true rfl) kX0_copy_7 rfl ?_
  refine y_aload_n C dX0_copy_70 1 rfl rfl ?_
  refine y_get (Cn := RX0) (T := TX0) (N := 15) (v := .ref (B 13)) C dX0_copy_71 hX0_copy_X0 1 (sh_39 g A d29 G30 B o GB) rfl 6 (Nat.le_of_ble_eq_true rfl) kX0_copy_7 rfl ?_
  refine y_callVv (As := [.ref (B 13)]) (rest := []) C dX0_copy_74 (c_X3_copy g (A 13) (A 14) 17 (d29.1 6) (G30 6) (B 13) (B 14) 17 (o.1 6) (GB 6) (by decide) (by decide)) rfl rfl rfl rfl ⟨Nat.le_of_ble_eq_true rfl, Nat.le_of_ble_eq_true rfl⟩ gX0_copy_X3_copy (nA := 1) (by decide +kernel) rfl (rowW_recv ⟨_, rfl⟩) (Nat.le_of_ble_eq_true rfl) ⟨Nat.le_of_ble_eq_true rfl, Nat.le_of_ble_eq_true rfl⟩ [8, 20] [0, 1, 2, 3, 4, 5, 6, 7, 9, 10, 11, 12, 13, 14, 15, 16, 17, 18, 19, 21, 22, 23, 24, 25] (nB := 26) rfl (by decide +kernel) (sh_52 g A d29 G30 B o GB) (fun w9 hw => ?_)
  obtain ⟨y31, G32, e33, rfl⟩ := hw
  obtain ⟨d34, ed34⟩ : ∃ z : RV, z = rvR d29 6 y31 := ⟨_, rfl⟩
  obtain ⟨G35, eG35⟩ : ∃ z : Nat → Nat → Int32, z = gs G30 6 G32 := ⟨_, rfl⟩
  have h := y_letF h (show d34 = rvR d29 6 (rCopy 17 (o.1 6)) by rw [ed34, e33])
  refine ⟨([dayC A d34, dayC B o] ++ (dayR g A d34 G35 ++ dayR g B o GB) : List va_W), (sh_53 g A d29 G30 B o GB y31 G32 d34 G35 ed34 eG35), ?_⟩
  refine y_aload_n C dX0_copy_77 0 rfl rfl ?_
  refine y_get (Cn := RX0) (T := TX0) (N := 15) (v := .ref (A 15)) C dX0_copy_78 hX0_copy_X0 0 (sh_38 g A d34 G35 B o GB) rfl 7 (Nat.le_of_ble_eq_true rfl) kX0_copy_8 rfl ?_
  refine y_aload_n C dX0_copy_81 1 rfl rfl ?_
  refine y_get (Cn := RX0) (T := TX0) (N := 15) (v := .ref (B 15)) C dX0_copy_82 hX0_copy_X0 1 (sh_39 g A d34 G35 B o GB) rfl 7 (Nat.le_of_ble_eq_true rfl) kX0_copy_8 rfl ?_
  refine y_callVv (As := [.ref (B 15)]) (rest := []) C dX0_copy_85 (c_X3_copy g (A 15) (A 16) 17 (d34.1 7) (G35 7) (B 15) (B 16) 17 (o.1 7) (GB 7) (by decide) (by decide)) rfl rfl rfl rfl ⟨Nat.le_of_ble_eq_true rfl, Nat.le_of_ble_eq_true rfl⟩ gX0_copy_X3_copy (nA := 1) (by decide +kernel) rfl (rowW_recv ⟨_, rfl⟩) (Nat.le_of_ble_eq_true rfl) ⟨Nat.le_of_ble_eq_true rfl, Nat.le_of_ble_eq_true rfl⟩ [9, 21] [0, 1, 2, 3, 4, 5, 6, 7, 8, 10, 11, 12, 13, 14, 15, 16, 17, 18, 19, 20, 22, 23, 24, 25] (nB := 26) rfl (by decide +kernel) (sh_54 g A d34 G35 B o GB) (fun w9 hw => ?_)
  obtain ⟨y36, G37, e38, rfl⟩ := hw
  obtain ⟨d39, ed39⟩ : ∃ z : RV, z = rvR d34 7 y36 := ⟨_, rfl⟩
  obtain ⟨G40, eG40⟩ : ∃ z : Nat → Nat → Int32, z = gs G35 7 G37 := ⟨_, rfl⟩
  have h := y_letF h (show d39 = rvR d34 7 (rCopy 17 (o.1 7)) by rw [ed39, e38])
  refine ⟨([dayC A d39, dayC B o] ++ (dayR g A d39 G40 ++ dayR g B o GB) : List va_W), (sh_55 g A d34 G35 B o GB y36 G37 d39 G40 ed39 eG40), ?_⟩
  refine y_aload_n C dX0_copy_88 0 rfl rfl ?_
  refine y_get (Cn := RX0) (T := TX0) (N := 15) (v := .ref (A 17)) C dX0_copy_89 hX0_copy_X0 0 (sh_38 g A d39 G40 B o GB) rfl 8 (Nat.le_of_ble_eq_true rfl) kX0_copy_9 rfl ?_
  refine y_aload_n C dX0_copy_92 1 rfl rfl ?_
  refine y_get (Cn := RX0) (T := TX0) (N := 15) (v := .ref (B 17)) C dX0_copy_93 hX0_copy_X0 1 (sh_39 g A d39 G40 B o GB) rfl 8 (Nat.le_of_ble_eq_true rfl) kX0_copy_9 rfl ?_
  refine y_callVv (As := [.ref (B 17)]) (rest := []) C dX0_copy_96 (c_X3_copy g (A 17) (A 18) 17 (d39.1 8) (G40 8) (B 17) (B 18) 17 (o.1 8) (GB 8) (by decide) (by decide)) rfl rfl rfl rfl ⟨Nat.le_of_ble_eq_true rfl, Nat.le_of_ble_eq_true rfl⟩ gX0_copy_X3_copy (nA := 1) (by decide +kernel) rfl (rowW_recv ⟨_, rfl⟩) (Nat.le_of_ble_eq_true rfl) ⟨Nat.le_of_ble_eq_true rfl, Nat.le_of_ble_eq_true rfl⟩ [10, 22] [0, 1, 2, 3, 4, 5, 6, 7, 8, 9, 11, 12, 13, 14, 15, 16, 17, 18, 19, 20, 21, 23, 24, 25] (nB := 26) rfl (by decide +kernel) (sh_56 g A d39 G40 B o GB) (fun w9 hw => ?_)
  obtain ⟨y41, G42, e43, rfl⟩ := hw
  obtain ⟨d44, ed44⟩ : ∃ z : RV, z = rvR d39 8 y41 := ⟨_, rfl⟩
  obtain ⟨G45, eG45⟩ : ∃ z : Nat → Nat → Int32, z = gs G40 8 G42 := ⟨_, rfl⟩
  have h := y_letF h (show d44 = rvR d39 8 (rCopy 17 (o.1 8)) by rw [ed44, e43])
  refine ⟨([dayC A d44, dayC B o] ++ (dayR g A d44 G45 ++ dayR g B o GB) : List va_W), (sh_57 g A d39 G40 B o GB y41 G42 d44 G45 ed44 eG45), ?_⟩
  refine y_aload_n C dX0_copy_99 0 rfl rfl ?_
  refine y_get (Cn := RX0) (T := TX0) (N := 15) (v := .ref (A 19)) C dX0_copy_100 hX0_copy_X0 0 (sh_38 g A d44 G45 B o GB) rfl 9 (Nat.le_of_ble_eq_true rfl) kX0_copy_10 rfl ?_
  refine y_aload_n C dX0_copy_103 1 rfl rfl ?_
  refine y_get (Cn := RX0) (T := TX0) (N := 15) (v := .ref (B 19)) C dX0_copy_104 hX0_copy_X0 1 (sh_39 g A d44 G45 B o GB) rfl 9 (Nat.le_of_ble_eq_true rfl) kX0_copy_10 rfl ?_
  refine y_callVv (As := [.ref (B 19)]) (rest := []) C dX0_copy_107 (c_X3_copy g (A 19) (A 20) 17 (d44.1 9) (G45 9) (B 19) (B 20) 17 (o.1 9) (GB 9) (by decide) (by decide)) rfl rfl rfl rfl ⟨Nat.le_of_ble_eq_true rfl, Nat.le_of_ble_eq_true rfl⟩ gX0_copy_X3_copy (nA := 1) (by decide +kernel) rfl (rowW_recv ⟨_, rfl⟩) (Nat.le_of_ble_eq_true rfl) ⟨Nat.le_of_ble_eq_true rfl, Nat.le_of_ble_eq_true rfl⟩ [11, 23] [0, 1, 2, 3, 4, 5, 6, 7, 8, 9, 10, 12, 13, 14, 15, 16, 17, 18, 19, 20, 21, 22, 24, 25] (nB := 26) rfl (by decide +kernel) (sh_58 g A d44 G45 B o GB) (fun w9 hw => ?_)
  obtain ⟨y46, G47, e48, rfl⟩ := hw
  obtain ⟨d49, ed49⟩ : ∃ z : RV, z = rvR d44 9 y46 := ⟨_, rfl⟩
  obtain ⟨G50, eG50⟩ : ∃ z : Nat → Nat → Int32, z = gs G45 9 G47 := ⟨_, rfl⟩
  have h := y_letF h (show d49 = rvR d44 9 (rCopy 17 (o.1 9)) by rw [ed49, e48])
  refine ⟨([dayC A d49, dayC B o] ++ (dayR g A d49 G50 ++ dayR g B o GB) : List va_W), (sh_59 g A d44 G45 B o GB y46 G47 d49 G50 ed49 eG50), ?_⟩
  refine y_aload_n C dX0_copy_110 0 rfl rfl ?_
  refine y_get (Cn := RX0) (T := TX0) (N := 15) (v := .ref (A 21)) C dX0_copy_111 hX0_copy_X0 0 (sh_38 g A d49 G50 B o GB) rfl 10 (Nat.le_of_ble_eq_true rfl) kX0_copy_11 rfl ?_
  refine y_aload_n C dX0_copy_114 1 rfl rfl ?_
  refine y_get (Cn := RX0) (T := TX0) (N := 15) (v := .ref (B 21)) C dX0_copy_115 hX0_copy_X0 1 (sh_39 g A d49 G50 B o GB) rfl 10 (Nat.le_of_ble_eq_true rfl) kX0_copy_11 rfl ?_
  refine y_callVv (As := [.ref (B 21)]) (rest := []) C dX0_copy_118 (c_X3_copy g (A 21) (A 22) 17 (d49.1 10) (G50 10) (B 21) (B 22) 17 (o.1 10) (GB 10) (by decide) (by decide)) rfl rfl rfl rfl ⟨Nat.le_of_ble_eq_true rfl, Nat.le_of_ble_eq_true rfl⟩ gX0_copy_X3_copy (nA := 1) (by decide +kernel) rfl (rowW_recv ⟨_, rfl⟩) (Nat.le_of_ble_eq_true rfl) ⟨Nat.le_of_ble_eq_true rfl, Nat.le_of_ble_eq_true rfl⟩ [12, 24] [0, 1, 2, 3, 4, 5, 6, 7, 8, 9, 10, 11, 13, 14, 15, 16, 17, 18, 19, 20, 21, 22, 23, 25] (nB := 26) rfl (by decide +kernel) (sh_60 g A d49 G50 B o GB) (fun w9 hw => ?_)
  obtain ⟨y51, G52, e53, rfl⟩ := hw
  obtain ⟨d54, ed54⟩ : ∃ z : RV, z = rvR d49 10 y51 := ⟨_, rfl⟩
  obtain ⟨G55, eG55⟩ : ∃ z : Nat → Nat → Int32, z = gs G50 10 G52 := ⟨_, rfl⟩
  have h := y_letF h (show d54 = rvR d49 10 (rCopy 17 (o.1 10)) by rw [ed54, e53])
  refine ⟨([dayC A d54, dayC B o] ++ (dayR g A d54 G55 ++ dayR g B o GB) : List va_W), (sh_61 g A d49 G50 B o GB y51 G52 d54 G55 ed54 eG55), ?_⟩
  refine y_aload_n C dX0_copy_121 0 rfl rfl ?_
  refine y_get (Cn := RX0) (T := TX0) (N := 15) (v := .ref (A 23)) C dX0_copy_122 hX0_copy_X0 0 (sh_38 g A d54 G55 B o GB) rfl 11 (Nat.le_of_ble_eq_true rfl) kX0_copy_12 rfl ?_
  refine y_aload_n C dX0_copy_125 1 rfl rfl ?_
  refine y_get (Cn := RX0) (T := TX0) (N := 15) (v := .ref (B 23)) C dX0_copy_126 hX0_copy_X0 1 (sh_39 g A d54 G55 B o GB) rfl 11 (Nat.le_of_ble_eq_true rfl) kX0_copy_12 rfl ?_
  refine y_callVv (As := [.ref (B 23)]) (rest := []) C dX0_copy_129 (c_X3_copy g (A 23) (A 24) 34 (d54.1 11) (G55 11) (B 23) (B 24) 34 (o.1 11) (GB 11) (by decide) (by decide)) rfl rfl rfl rfl ⟨Nat.le_of_ble_eq_true rfl, Nat.le_of_ble_eq_true rfl⟩ gX0_copy_X3_copy (nA := 1) (by decide +kernel) rfl (rowW_recv ⟨_, rfl⟩) (Nat.le_of_ble_eq_true rfl) ⟨Nat.le_of_ble_eq_true rfl, Nat.le_of_ble_eq_true rfl⟩ [13, 25] [0, 1, 2, 3, 4, 5, 6, 7, 8, 9, 10, 11, 12, 14, 15, 16, 17, 18, 19, 20, 21, 22, 23, 24] (nB := 26) rfl (by decide +kernel) (sh_62 g A d54 G55 B o GB) (fun w9 hw => ?_)
  obtain ⟨y56, G57, e58, rfl⟩ := hw
  obtain ⟨d59, ed59⟩ : ∃ z : RV, z = rvR d54 11 y56 := ⟨_, rfl⟩
  obtain ⟨G60, eG60⟩ : ∃ z : Nat → Nat → Int32, z = gs G55 11 G57 := ⟨_, rfl⟩
  have h := y_letF h (show d59 = rvR d54 11 (rCopy 34 (o.1 11)) by rw [ed59, e58])
  refine ⟨([dayC A d59, dayC B o] ++ (dayR g A d59 G60 ++ dayR g B o GB) : List va_W), (sh_63 g A d54 G55 B o GB y56 G57 d59 G60 ed59 eG60), ?_⟩
  refine y_aload_n C dX0_copy_132 0 rfl rfl ?_
  refine y_aload_n C dX0_copy_133 1 rfl rfl ?_
  refine y_get (Cn := RX0) (T := TX0) (N := 15) (v := .int (o.2 0)) C dX0_copy_134 hX0_copy_X0 1 (sh_39 g A d59 G60 B o GB) rfl 12 (Nat.le_of_ble_eq_true rfl) kX0_copy_13 rfl ?_
  obtain ⟨d61, ed61⟩ : ∃ z : RV, z = rvI d59 0 (o.2 0) := ⟨_, rfl⟩
  have h := y_letF h ed61
  refine y_put (Cn := RX0) (T := TX0) (N := 15) (v := .int (o.2 0)) (ty0 := tyX0) (L1 := ([dayC A d61, dayC B o] ++ (dayR g A d61 G60 ++ dayR g B o GB) : List va_W)) C dX0_copy_137 hX0_copy_X0 0 (sh_38 g A d59 G60 B o GB) rfl 12 (Nat.le_of_ble_eq_true rfl) kX0_copy_13 tyX0_ok nmX0 rfl rfl rfl (Nat.le_of_ble_eq_true rfl) (sh_64 g A d59 G60 B o GB (o.2 0) d61 ed61) ?_
  refine y_aload_n C dX0_copy_140 0 rfl rfl ?_
  refine y_aload_n C dX0_copy_141 1 rfl rfl ?_
  refine y_get (Cn := RX0) (T := TX0) (N := 15) (v := .int (o.2 1)) C dX0_copy_142 hX0_copy_X0 1 (sh_39 g A d61 G60 B o GB) rfl 13 (Nat.le_of_ble_eq_true rfl) kX0_copy_14 rfl ?_
  obtain ⟨d62, ed62⟩ : ∃ z : RV, z = rvI d61 1 (o.2 1) := ⟨_, rfl⟩
  have h := y_letF h ed62
  refine y_put (Cn := RX0) (T := TX0) (N := 15) (v := .int (o.2 1)) (ty0 := tyX0) (L1 := ([dayC A d62, dayC B o] ++ (dayR g A d62 G60 ++ dayR g B o GB) : List va_W)) C dX0_copy_145 hX0_copy_X0 0 (sh_38 g A d61 G60 B o GB) rfl 13 (Nat.le_of_ble_eq_true rfl) kX0_copy_14 tyX0_ok nmX0 rfl rfl rfl (Nat.le_of_ble_eq_true rfl) (sh_65 g A d61 G60 B o GB (o.2 1) d62 ed62) ?_
  refine y_aload_n C dX0_copy_148 0 rfl rfl ?_
  refine y_aload_n C dX0_copy_149 1 rfl rfl ?_
  refine y_get (Cn := RX0) (T := TX0) (N := 15) (v := .int (o.2 2)) C dX0_copy_150 hX0_copy_X0 1 (sh_39 g A d62 G60 B o GB) rfl 14 (Nat.le_of_ble_eq_true rfl) kX0_copy_15 rfl ?_
  obtain ⟨d63, ed63⟩ : ∃ z : RV, z = rvI d62 2 (o.2 2) := ⟨_, rfl⟩
  have h := y_letF h ed63
  refine y_put (Cn := RX0) (T := TX0) (N := 15) (v := .int (o.2 2)) (ty0 := tyX0) (L1 := ([dayC A d63, dayC B o] ++ (dayR g A d63 G60 ++ dayR g B o GB) : List va_W)) C dX0_copy_153 hX0_copy_X0 0 (sh_38 g A d62 G60 B o GB) rfl 14 (Nat.le_of_ble_eq_true rfl) kX0_copy_15 tyX0_ok nmX0 rfl rfl rfl (Nat.le_of_ble_eq_true rfl) (sh_66 g A d62 G60 B o GB (o.2 2) d63 ed63) ?_
  exact HR 156 dX0_copy_156 _ _ _ _ (Nat.le_of_ble_eq_true rfl) (Nat.le_of_ble_eq_true rfl) ⟨d63, G60, by rw [h], rfl⟩
