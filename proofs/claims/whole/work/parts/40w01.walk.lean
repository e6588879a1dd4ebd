theorem dX2_findFault_0 : decode cX2_findFault 0 = .ok (.aload_n 0, 1) := by decide +kernel
theorem dX2_findFault_1 : decode cX2_findFault 1 = .ok (.getfield 20, 3) := by decide +kernel
theorem dX2_findFault_4 : decode cX2_findFault 4 = .ok (.invokevirtual 26, 3) := by decide +kernel
theorem dX2_findFault_7 : decode cX2_findFault 7 = .ok (.iconst 0, 1) := by decide +kernel
theorem dX2_findFault_8 : decode cX2_findFault 8 = .ok (.istore_n 1, 1) := by decide +kernel
theorem dX2_findFault_9 : decode cX2_findFault 9 = .ok (.bipush (-6), 2) := by decide +kernel
theorem dX2_findFault_11 : decode cX2_findFault 11 = .ok (.istore_n 2, 1) := by decide +kernel
theorem dX2_findFault_12 : decode cX2_findFault 12 = .ok (.iconst 0, 1) := by decide +kernel
theorem dX2_findFault_13 : decode cX2_findFault 13 = .ok (.istore_n 3, 1) := by decide +kernel
theorem dX2_findFault_14 : decode cX2_findFault 14 = .ok (.iload_n 3, 1) := by decide +kernel
theorem dX2_findFault_15 : decode cX2_findFault 15 = .ok (.aload_n 0, 1) := by decide +kernel
theorem dX2_findFault_16 : decode cX2_findFault 16 = .ok (.getfield 14, 3) := by decide +kernel
theorem dX2_findFault_19 : decode cX2_findFault 19 = .ok (.invokevirtual 29, 3) := by decide +kernel
theorem dX2_findFault_22 : decode cX2_findFault 22 = .ok (.if_icmp .ge 98, 3) := by decide +kernel
theorem dX2_findFault_25 : decode cX2_findFault 25 = .ok (.aload_n 0, 1) := by decide +kernel
theorem dX2_findFault_26 : decode cX2_findFault 26 = .ok (.getfield 14, 3) := by decide +kernel
theorem dX2_findFault_29 : decode cX2_findFault 29 = .ok (.iload_n 3, 1) := by decide +kernel
theorem dX2_findFault_30 : decode cX2_findFault 30 = .ok (.invokevirtual 33, 3) := by decide +kernel
theorem dX2_findFault_33 : decode cX2_findFault 33 = .ok (.istore 4, 2) := by decide +kernel
theorem dX2_findFault_35 : decode cX2_findFault 35 = .ok (.iload 4, 2) := by decide +kernel
theorem dX2_findFault_37 : decode cX2_findFault 37 = .ok (.bipush 48, 2) := by decide +kernel
theorem dX2_findFault_39 : decode cX2_findFault 39 = .ok (.if_icmp .lt 34, 3) := by decide +kernel
theorem dX2_findFault_42 : decode cX2_findFault 42 = .ok (.iload 4, 2) := by decide +kernel
theorem dX2_findFault_44 : decode cX2_findFault 44 = .ok (.bipush 57, 2) := by decide +kernel
theorem dX2_findFault_46 : decode cX2_findFault 46 = .ok (.if_icmp .gt 27, 3) := by decide +kernel
theorem dX2_findFault_49 : decode cX2_findFault 49 = .ok (.iload_n 2, 1) := by decide +kernel
theorem dX2_findFault_50 : decode cX2_findFault 50 = .ok (.iload 4, 2) := by decide +kernel
theorem dX2_findFault_52 : decode cX2_findFault 52 = .ok (.bipush 48, 2) := by decide +kernel
theorem dX2_findFault_54 : decode cX2_findFault 54 = .ok (.isub, 1) := by decide +kernel
theorem dX2_findFault_55 : decode cX2_findFault 55 = .ok (.invokestatic 37, 3) := by decide +kernel
theorem dX2_findFault_58 : decode cX2_findFault 58 = .ok (.istore_n 2, 1) := by decide +kernel
theorem dX2_findFault_59 : decode cX2_findFault 59 = .ok (.iload_n 2, 1) := by decide +kernel
theorem dX2_findFault_60 : decode cX2_findFault 60 = .ok (.ifCond .lt 11, 3) := by decide +kernel
theorem dX2_findFault_63 : decode cX2_findFault 63 = .ok (.iload_n 2, 1) := by decide +kernel
theorem dX2_findFault_64 : decode cX2_findFault 64 = .ok (.iload_n 1, 1) := by decide +kernel
theorem dX2_findFault_65 : decode cX2_findFault 65 = .ok (.invokestatic 41, 3) := by decide +kernel
theorem dX2_findFault_68 : decode cX2_findFault 68 = .ok (.if_icmp .le 46, 3) := by decide +kernel
theorem dX2_findFault_71 : decode cX2_findFault 71 = .ok (.iload_n 3, 1) := by decide +kernel
theorem dX2_findFault_72 : decode cX2_findFault 72 = .ok (.ireturn, 1) := by decide +kernel
theorem dX2_findFault_73 : decode cX2_findFault 73 = .ok (.iload_n 2, 1) := by decide +kernel
theorem dX2_findFault_74 : decode cX2_findFault 74 = .ok (.bipush (-6), 2) := by decide +kernel
theorem dX2_findFault_76 : decode cX2_findFault 76 = .ok (.if_icmp .eq 12, 3) := by decide +kernel
theorem dX2_findFault_79 : decode cX2_findFault 79 = .ok (.iload 4, 2) := by decide +kernel
theorem dX2_findFault_81 : decode cX2_findFault 81 = .ok (.iload_n 1, 1) := by decide +kernel
theorem dX2_findFault_82 : decode cX2_findFault 82 = .ok (.invokestatic 44, 3) := by decide +kernel
theorem dX2_findFault_85 : decode cX2_findFault 85 = .ok (.if_icmp .eq 5, 3) := by decide +kernel
theorem dX2_findFault_88 : decode cX2_findFault 88 = .ok (.iload_n 3, 1) := by decide +kernel
theorem dX2_findFault_89 : decode cX2_findFault 89 = .ok (.ireturn, 1) := by decide +kernel
theorem dX2_findFault_90 : decode cX2_findFault 90 = .ok (.aload_n 0, 1) := by decide +kernel
theorem dX2_findFault_91 : decode cX2_findFault 91 = .ok (.getfield 20, 3) := by decide +kernel
theorem dX2_findFault_94 : decode cX2_findFault 94 = .ok (.iload_n 2, 1) := by decide +kernel
theorem dX2_findFault_95 : decode cX2_findFault 95 = .ok (.invokevirtual 23, 3) := by decide +kernel
theorem dX2_findFault_98 : decode cX2_findFault 98 = .ok (.bipush (-6), 2) := by decide +kernel
theorem dX2_findFault_100 : decode cX2_findFault 100 = .ok (.istore_n 2, 1) := by decide +kernel
theorem dX2_findFault_101 : decode cX2_findFault 101 = .ok (.iload_n 1, 1) := by decide +kernel
theorem dX2_findFault_102 : decode cX2_findFault 102 = .ok (.iconst 3, 1) := by decide +kernel
theorem dX2_findFault_103 : decode cX2_findFault 103 = .ok (.if_icmp .ne 7, 3) := by decide +kernel
theorem dX2_findFault_106 : decode cX2_findFault 106 = .ok (.iconst 0, 1) := by decide +kernel
theorem dX2_findFault_107 : decode cX2_findFault 107 = .ok (.goto 6, 3) := by decide +kernel
theorem dX2_findFault_110 : decode cX2_findFault 110 = .ok (.iload_n 1, 1) := by decide +kernel
theorem dX2_findFault_111 : decode cX2_findFault 111 = .ok (.iconst 1, 1) := by decide +kernel
theorem dX2_findFault_112 : decode cX2_findFault 112 = .ok (.iadd, 1) := by decide +kernel
theorem dX2_findFault_113 : decode cX2_findFault 113 = .ok (.istore_n 1, 1) := by decide +kernel
theorem dX2_findFault_114 : decode cX2_findFault 114 = .ok (.iinc 3 1, 3) := by decide +kernel
theorem dX2_findFault_117 : decode cX2_findFault 117 = .ok (.goto (-103), 3) := by decide +kernel
theorem dX2_findFault_120 : decode cX2_findFault 120 = .ok (.iload_n 2, 1) := by decide +kernel
theorem dX2_findFault_121 : decode cX2_findFault 121 = .ok (.bipush (-6), 2) := by decide +kernel
theorem dX2_findFault_123 : decode cX2_findFault 123 = .ok (.if_icmp .eq 8, 3) := by decide +kernel
theorem dX2_findFault_126 : decode cX2_findFault 126 = .ok (.iload_n 1, 1) := by decide +kernel
theorem dX2_findFault_127 : decode cX2_findFault 127 = .ok (.iconst 3, 1) := by decide +kernel
theorem dX2_findFault_128 : decode cX2_findFault 128 = .ok (.if_icmp .eq 11, 3) := by decide +kernel
theorem dX2_findFault_131 : decode cX2_findFault 131 = .ok (.aload_n 0, 1) := by decide +kernel
theorem dX2_findFault_132 : decode cX2_findFault 132 = .ok (.getfield 14, 3) := by decide +kernel
theorem dX2_findFault_135 : decode cX2_findFault 135 = .ok (.invokevirtual 29, 3) := by decide +kernel
theorem dX2_findFault_138 : decode cX2_findFault 138 = .ok (.ireturn, 1) := by decide +kernel
theorem dX2_findFault_139 : decode cX2_findFault 139 = .ok (.aload_n 0, 1) := by decide +kernel
theorem dX2_findFault_140 : decode cX2_findFault 140 = .ok (.getfield 20, 3) := by decide +kernel
theorem dX2_findFault_143 : decode cX2_findFault 143 = .ok (.iload_n 2, 1) := by decide +kernel
theorem dX2_findFault_144 : decode cX2_findFault 144 = .ok (.invokevirtual 23, 3) := by decide +kernel
theorem dX2_findFault_147 : decode cX2_findFault 147 = .ok (.bipush (-6), 2) := by decide +kernel
theorem dX2_findFault_149 : decode cX2_findFault 149 = .ok (.ireturn, 1) := by decide +kernel
set_option maxRecDepth 20000 in
theorem ggX2_findFault_X3_length : GoodIn wsX2_findFault wsX3_length := goodIn_r _ [12, 8, 38, 39] (by decide +kernel) (by decide +kernel)
set_option maxRecDepth 20000 in
theorem gX2_findFault_X3_length : GoodIn wsX2_findFault (wsV RX2 29 RX3 yX3_length wsX3_length) := goodIn_app (goodIn_of _ (by decide +kernel)) ggX2_findFault_X3_length
set_option maxRecDepth 20000 in
theorem ggX2_findFault_X3_add : GoodIn wsX2_findFault wsX3_add := goodIn_r _ [31, 8, 32, 33, 34, 6, 35, 17, 38, 39] (by decide +kernel) (by decide +kernel)
set_option maxRecDepth 20000 in
theorem gX2_findFault_X3_add : GoodIn wsX2_findFault (wsV RX2 23 RX3 yX3_add wsX3_add) := goodIn_app (goodIn_of _ (by decide +kernel)) ggX2_findFault_X3_add
set_option maxRecDepth 20000 in
theorem ggX2_findFault_X3_at : GoodIn wsX2_findFault wsX3_at := goodIn_r _ [16, 8, 17, 38, 39] (by decide +kernel) (by decide +kernel)
set_option maxRecDepth 20000 in
theorem gX2_findFault_X3_at : GoodIn wsX2_findFault (wsV RX2 33 RX3 yX3_at wsX3_at) := goodIn_app (goodIn_of _ (by decide +kernel)) ggX2_findFault_X3_at
set_option maxRecDepth 20000 in
theorem ggX2_findFault_X2_endOf : GoodIn wsX2_findFault wsX2_endOf := goodIn_r _ [27] (by decide +kernel) (by decide +kernel)
set_option maxRecDepth 20000 in
theorem gX2_findFault_X2_endOf : GoodIn wsX2_findFault (va_wsS RX2 44 yX2_endOf wsX2_endOf) := goodIn_app (goodIn_of _ (by decide +kernel)) ggX2_findFault_X2_endOf
set_option maxRecDepth 20000 in
theorem ggX2_findFault_X2_withDigit : GoodIn wsX2_findFault wsX2_withDigit := goodIn_r _ [21] (by decide +kernel) (by decide +kernel)
set_option maxRecDepth 20000 in
theorem gX2_findFault_X2_withDigit : GoodIn wsX2_findFault (va_wsS RX2 37 yX2_withDigit wsX2_withDigit) := goodIn_app (goodIn_of _ (by decide +kernel)) ggX2_findFault_X2_withDigit
set_option maxRecDepth 20000 in
theorem ggX2_findFault_X2_mostIn : GoodIn wsX2_findFault wsX2_mostIn := goodIn_r _ [24] (by decide +kernel) (by decide +kernel)
set_option maxRecDepth 20000 in
theorem gX2_findFault_X2_mostIn : GoodIn wsX2_findFault (va_wsS RX2 41 yX2_mostIn wsX2_mostIn) := goodIn_app (goodIn_of _ (by decide +kernel)) ggX2_findFault_X2_mostIn
set_option maxRecDepth 20000 in
theorem ggX2_findFault_X3_clear : GoodIn wsX2_findFault wsX3_clear := goodIn_r _ [7, 8, 38, 39] (by decide +kernel) (by decide +kernel)
set_option maxRecDepth 20000 in
theorem gX2_findFault_X3_clear : GoodIn wsX2_findFault (wsV RX2 26 RX3 yX3_clear wsX3_clear) := goodIn_app (goodIn_of _ (by decide +kernel)) ggX2_findFault_X3_clear
theorem kX2_findFault_2 : Cond.fieldLink RX2 14 "BookedDetours$Pad" "signs" "LBookedDetours$Row;" ∈ wsX2_findFault := List.mem_of_getElem? (i := 2) (by decide +kernel)
theorem kX2_findFault_1 : Cond.fieldLink RX2 20 "BookedDetours$Pad" "numbers" "LBookedDetours$Row;" ∈ wsX2_findFault := List.mem_of_getElem? (i := 1) (by decide +kernel)
theorem hX2_findFault_X2 : ∀ w ∈ u_ws RX2 TX2 2, w ∈ wsX2_findFault := fun _ h => List.mem_cons_of_mem _ (List.mem_append_left _ (List.mem_append_right _ h))
set_option maxHeartbeats 4000000 in
set_option maxRecDepth 100000 in
theorem w_X2_findFault_14 {Z : yZ} (g : yG) (P : Nat → Nat) (C : yC Z g cX2_findFault 5 wsX2_findFault RX2) {post : Int32 → List va_W → Prop} (HR : yRi Z ({ frames := 2, cells := 0, slots := 0, locals := 44 } : Room) cX2_findFault .int post 0 0) {X14 : RV → Int32 → Int32 → Int32 → Prop} (hX14 : ∀ (p : RV) (x1 : Int32) (x2 : Int32) (x3 : Int32) (GP : Nat → Nat → Int32), X14 p x1 x2 x3 → yJ Z ({ frames := 2, cells := 0, slots := 0, locals := 44 } : Room) 0 0 ([padC P p] ++ padR g P p GP : List va_W) 14 [(0, .ref (P 0)), (1, .int x1), (2, .int x2), (3, .int x3)] []) {K : Int32 → RV → Prop} (hK : ∀ (r0 : Int32) (p : RV) (GP : Nat → Nat → Int32), K r0 p → post r0 ([padC P p] ++ padR g P p GP : List va_W)) (p : RV) (x1 : Int32) (x2 : Int32) (x3 : Int32) (GP : Nat → Nat → Int32) (h : wp_X2_findFault_14  X14 K p x1 x2 x3) : yJ Z ({ frames := 2, cells := 0, slots := 0, locals := 44 } : Room) 0 0 ([padC P p] ++ padR g P p GP : List va_W) 14 [(0, .ref (P 0)), (1, .int x1), (2, .int x2), (3, .int x3)] [] := by
  unfold wp_X2_findFault_14 at h
  refine y_iload_n C dX2_findFault_14 3 rfl rfl ?_
  refine y_aload_n C dX2_findFault_15 0 rfl rfl ?_
  refine y_get (Cn := RX2) (T := TX2) (N := 2) (v := .ref (P 1)) C dX2_findFault_16 hX2_findFault_X2 0 (sh_134 g P p GP) rfl 0 (Nat.le_of_ble_eq_true rfl) kX2_findFault_2 rfl ?_
  refine y_callV (As := []) (rest := [.int x3]) C dX2_findFault_19 (c_X3_length g (P 1) (P 2) 60 (p.1 0) (GP 0) (by decide)) rfl rfl rfl rfl ⟨Nat.le_of_ble_eq_true rfl, Nat.le_of_ble_eq_true rfl⟩ gX2_findFault_X3_length (nA := 0) (by decide +kernel) rfl (rowW_recv ⟨_, rfl⟩) (Nat.le_of_ble_eq_true rfl) ⟨Nat.le_of_ble_eq_true rfl, Nat.le_of_ble_eq_true rfl⟩ [1] [0, 2] (nB := 3) rfl (by decide +kernel) (sh_135 g P p GP) (fun r1 w9 hw => ?_)
  obtain ⟨er1, rfl⟩ := hw
  have h := y_letP h er1
  refine ⟨([padC P p] ++ padR g P p GP : List va_W), ⟨(sh_135 g P p GP), rfl, rfl⟩, ?_⟩
  refine y_icmp_ge (tgt := 120) C dX2_findFault_22 rfl h (fun c22 h => ?_) (fun c22 h => ?_)
  · refine y_iload_n C dX2_findFault_120 2 rfl rfl ?_
    refine y_bipush (v := -6) C dX2_findFault_121 (by decide) ?_
    refine y_icmp_eq (tgt := 131) C dX2_findFault_123 rfl h (fun c123 h => ?_) (fun c123 h => ?_)
    · refine y_aload_n C dX2_findFault_131 0 rfl rfl ?_
      refine y_get (Cn := RX2) (T := TX2) (N := 2) (v := .ref (P 1)) C dX2_findFault_132 hX2_findFault_X2 0 (sh_134 g P p GP) rfl 0 (Nat.le_of_ble_eq_true rfl) kX2_findFault_2 rfl ?_
      refine y_callV (As := []) (rest := []) C dX2_findFault_135 (c_X3_length g (P 1) (P 2) 60 (p.1 0) (GP 0) (by decide)) rfl rfl rfl rfl ⟨Nat.le_of_ble_eq_true rfl, Nat.le_of_ble_eq_true rfl⟩ gX2_findFault_X3_length (nA := 0) (by decide +kernel) rfl (rowW_recv ⟨_, rfl⟩) (Nat.le_of_ble_eq_true rfl) ⟨Nat.le_of_ble_eq_true rfl, Nat.le_of_ble_eq_true rfl⟩ [1] [0, 2] (nB := 3) rfl (by decide +kernel) (sh_135 g P p GP) (fun r2 w9 hw => ?_)
      obtain ⟨er2, rfl⟩ := hw
      have h := y_letP h er2
      refine ⟨([padC P p] ++ padR g P p GP : List va_W), ⟨(sh_135 g P p GP), rfl, rfl⟩, ?_⟩
      exact HR 138 dX2_findFault_138 r2 _ _ _ _ (rfl) (Nat.le_of_ble_eq_true rfl) (Nat.le_of_ble_eq_true rfl) (hK _ _ _ h)
    · refine y_iload_n C dX2_findFault_126 1 rfl rfl ?_
      refine y_iconst (v := 3) C dX2_findFault_127 (by decide) ?_
      refine y_icmp_eq (tgt := 139) C dX2_findFault_128 rfl h (fun c128 h => ?_) (fun c128 h => ?_)
      · refine y_aload_n C dX2_findFault_139 0 rfl rfl ?_
        refine y_get (Cn := RX2) (T := TX2) (N := 2) (v := .ref (P 3)) C dX2_findFault_140 hX2_findFault_X2 0 (sh_134 g P p GP) rfl 1 (Nat.le_of_ble_eq_true rfl) kX2_findFault_1 rfl ?_
        refine y_iload_n C dX2_findFault_143 2 rfl rfl ?_
        refine y_callVv (As := [.int x2]) (rest := []) C dX2_findFault_144 (c_X3_add g (P 3) (P 4) 31 (p.1 1) (GP 1) x2 (by decide)) rfl rfl rfl rfl ⟨Nat.le_of_ble_eq_true rfl, Nat.le_of_ble_eq_true rfl⟩ gX2_findFault_X3_add (nA := 1) (by decide +kernel) rfl (rowW_recv ⟨_, rfl⟩) (Nat.le_of_ble_eq_true rfl) ⟨Nat.le_of_ble_eq_true rfl, Nat.le_of_ble_eq_true rfl⟩ [2] [0, 1] (nB := 3) rfl (by decide +kernel) (sh_137 g P p GP) (fun w9 hw => ?_)
        obtain ⟨y3, G4, e5, rfl⟩ := hw
        obtain ⟨p6, ep6⟩ : ∃ z : RV, z = rvR p 1 y3 := ⟨_, rfl⟩
        obtain ⟨G7, eG7⟩ : ∃ z : Nat → Nat → Int32, z = gs GP 1 G4 := ⟨_, rfl⟩
        have h := y_letP h (show p6 = rvR p 1 (rAdd 31 (p.1 1) x2) by rw [ep6, e5])
        refine ⟨([padC P p6] ++ padR g P p6 G7 : List va_W), (sh_138 g P p GP y3 G4 p6 G7 ep6 eG7), ?_⟩
        refine y_bipush (v := -6) C dX2_findFault_147 (by decide) ?_
        exact HR 149 dX2_findFault_149 (-6 : Int32) _ _ _ _ (rfl) (Nat.le_of_ble_eq_true rfl) (Nat.le_of_ble_eq_true rfl) (hK _ _ _ h)
      · refine y_aload_n C dX2_findFault_131 0 rfl rfl ?_
        refine y_get (Cn := RX2) (T := TX2) (N := 2) (v := .ref (P 1)) C dX2_findFault_132 hX2_findFault_X2 0 (sh_134 g P p GP) rfl 0 (Nat.le_of_ble_eq_true rfl) kX2_findFault_2 rfl ?_
        refine y_callV (As := []) (rest := []) C dX2_findFault_135 (c_X3_length g (P 1) (P 2) 60 (p.1 0) (GP 0) (by decide)) rfl rfl rfl rfl ⟨Nat.le_of_ble_eq_true rfl, Nat.le_of_ble_eq_true rfl⟩ gX2_findFault_X3_length (nA := 0) (by decide +kernel) rfl (rowW_recv ⟨_, rfl⟩) (Nat.le_of_ble_eq_true rfl) ⟨Nat.le_of_ble_eq_true rfl, Nat.le_of_ble_eq_true rfl⟩ [1] [0, 2] (nB := 3) rfl (by decide +kernel) (sh_135 g P p GP) (fun r8 w9 hw => ?_)
        obtain ⟨er8, rfl⟩ := hw
        have h := y_letP h er8
        refine ⟨([padC P p] ++ padR g P p GP : List va_W), ⟨(sh_135 g P p GP), rfl, rfl⟩, ?_⟩
        exact HR 138 dX2_findFault_138 r8 _ _ _ _ (rfl) (Nat.le_of_ble_eq_true rfl) (Nat.le_of_ble_eq_true rfl) (hK _ _ _ h)
  · refine y_aload_n C dX2_findFault_25 0 rfl rfl ?_
    refine y_get (Cn := RX2) (T := TX2) (N := 2) (v := .ref (P 1)) C dX2_findFault_26 hX2_findFault_X2 0 (sh_134 g P p GP) rfl 0 (Nat.le_of_ble_eq_true rfl) kX2_findFault_2 rfl ?_
    refine y_iload_n C dX2_findFault_29 3 rfl rfl ?_
    refine y_callV (As := [.int x3]) (rest := []) C dX2_findFault_30 (c_X3_at g (P 1) (P 2) 60 (p.1 0) (GP 0) x3 (by decide)) rfl rfl rfl rfl ⟨Nat.le_of_ble_eq_true rfl, Nat.le_of_ble_eq_true rfl⟩ gX2_findFault_X3_at (nA := 1) (by decide +kernel) rfl (rowW_recv ⟨_, rfl⟩) (Nat.le_of_ble_eq_true rfl) ⟨Nat.le_of_ble_eq_true rfl, Nat.le_of_ble_eq_true rfl⟩ [1] [0, 2] (nB := 3) rfl (by decide +kernel) (sh_135 g P p GP) (fun r9 w9 hw => ?_)
    obtain ⟨er9, rfl⟩ := hw
    have h := y_letP h er9
    refine ⟨([padC P p] ++ padR g P p GP : List va_W), ⟨(sh_135 g P p GP), rfl, rfl⟩, ?_⟩
    refine y_istore (lv' := [(4, .int r9), (0, .ref (P 0)), (1, .int x1), (2, .int x2), (3, .int x3)]) C dX2_findFault_33 (Nat.le_of_ble_eq_true rfl) rfl ?_
    refine y_iload C dX2_findFault_35 0 rfl ?_
    refine y_bipush (v := 48) C dX2_findFault_37 (by decide) ?_
    refine y_icmp_lt (tgt := 73) C dX2_findFault_39 rfl h (fun c39 h => ?_) (fun c39 h => ?_)
    · refine y_iload_n C dX2_findFault_73 3 rfl rfl ?_
      refine y_bipush (v := -6) C dX2_findFault_74 (by decide) ?_
      refine y_icmp_eq (tgt := 88) C dX2_findFault_76 rfl h (fun c76 h => ?_) (fun c76 h => ?_)
      · refine y_iload_n C dX2_findFault_88 4 rfl rfl ?_
        exact HR 89 dX2_findFault_89 x3 _ _ _ _ (rfl) (Nat.le_of_ble_eq_true rfl) (Nat.le_of_ble_eq_true rfl) (hK _ _ _ h)
      · refine y_iload C dX2_findFault_79 0 rfl ?_
        refine y_iload_n C dX2_findFault_81 2 rfl rfl ?_
        refine y_callS (As := [.int x1]) (rest := [.int r9]) C dX2_findFault_82 (c_X2_endOf g x1) rfl rfl rfl rfl ⟨Nat.le_of_ble_eq_true rfl, Nat.le_of_ble_eq_true rfl⟩ gX2_findFault_X2_endOf (nA := 1) (by decide +kernel) rfl (Nat.le_of_ble_eq_true rfl) ⟨Nat.le_of_ble_eq_true rfl, Nat.le_of_ble_eq_true rfl⟩ [] [0, 1, 2] (nB := 3) rfl (by decide +kernel) (sh_139 g P p GP) (fun r10 w9 hw => ?_)
        obtain ⟨er10, rfl⟩ := hw
        have h := y_letP h er10
        refine ⟨([padC P p] ++ padR g P p GP : List va_W), ⟨(sh_139 g P p GP), rfl, rfl⟩, ?_⟩
        refine y_icmp_eq (tgt := 90) C dX2_findFault_85 rfl h (fun c85 h => ?_) (fun c85 h => ?_)
        · refine y_aload_n C dX2_findFault_90 1 rfl rfl ?_
          refine y_get (Cn := RX2) (T := TX2) (N := 2) (v := .ref (P 3)) C dX2_findFault_91 hX2_findFault_X2 0 (sh_134 g P p GP) rfl 1 (Nat.le_of_ble_eq_true rfl) kX2_findFault_1 rfl ?_
          refine y_iload_n C dX2_findFault_94 3 rfl rfl ?_
          refine y_callVv (As := [.int x2]) (rest := []) C dX2_findFault_95 (c_X3_add g (P 3) (P 4) 31 (p.1 1) (GP 1) x2 (by decide)) rfl rfl rfl rfl ⟨Nat.le_of_ble_eq_true rfl, Nat.le_of_ble_eq_true rfl⟩ gX2_findFault_X3_add (nA := 1) (by decide +kernel) rfl (rowW_recv ⟨_, rfl⟩) (Nat.le_of_ble_eq_true rfl) ⟨Nat.le_of_ble_eq_true rfl, Nat.le_of_ble_eq_true rfl⟩ [2] [0, 1] (nB := 3) rfl (by decide +kernel) (sh_137 g P p GP) (fun w9 hw => ?_)
          obtain ⟨y11, G12, e13, rfl⟩ := hw
          obtain ⟨p14, ep14⟩ : ∃ z : RV, z = rvR p 1 y11 := ⟨_, rfl⟩
          obtain ⟨G15, eG15⟩ : ∃ z : Nat → Nat → Int32, z = gs GP 1 G12 := ⟨_, rfl⟩
          have h := y_letP h (show p14 = rvR p 1 (rAdd 31 (p.1 1) x2) by rw [ep14, e13])
          refine ⟨([padC P p14] ++ padR g P p14 G15 : List va_W), (sh_138 g P p GP y11 G12 p14 G15 ep14 eG15), ?_⟩
          refine y_bipush (v := -6) C dX2_findFault_98 (by decide) ?_
          refine y_istore_n (lv' := [(2, .int (-6 : Int32)), (4, .int r9), (0, .ref (P 0)), (1, .int x1), (3, .int x3)]) C dX2_findFault_100 rfl (Nat.le_of_ble_eq_true rfl) rfl ?_
          refine y_iload_n C dX2_findFault_101 3 rfl rfl ?_
          refine y_iconst (v := 3) C dX2_findFault_102 (by decide) ?_
          refine y_icmp_ne (tgt := 110) C dX2_findFault_103 rfl h (fun c103 h => ?_) (fun c103 h => ?_)
          · refine y_iload_n C dX2_findFault_110 3 rfl rfl ?_
            refine y_iconst (v := 1) C dX2_findFault_111 (by decide) ?_
            refine y_iadd C dX2_findFault_112 ?_
            refine y_istore_n (lv' := [(1, .int (x1 + (1 : Int32))), (2, .int (-6 : Int32)), (4, .int r9), (0, .ref (P 0)), (3, .int x3)]) C dX2_findFault_113 rfl (Nat.le_of_ble_eq_true rfl) rfl ?_
            refine y_iinc (v := (x3 + (1 : Int32))) (lv' := [(3, .int (x3 + (1 : Int32))), (1, .int (x1 + (1 : Int32))), (2, .int (-6 : Int32)), (4, .int r9), (0, .ref (P 0))]) C dX2_findFault_114 4 rfl rfl (Nat.le_of_ble_eq_true rfl) rfl ?_
            refine y_goto (tgt := 14) C dX2_findFault_117 rfl ?_
            refine y_sub (lv' := [(0, .ref (P 0)), (1, .int (x1 + (1 : Int32))), (2, .int (-6 : Int32)), (3, .int (x3 + (1 : Int32)))]) [4, 1, 2, 0] rfl ?_
            exact hX14 _ _ _ _ _ h
          · refine y_iconst (v := 0) C dX2_findFault_106 (by decide) ?_
            refine y_goto (tgt := 113) C dX2_findFault_107 rfl ?_
            refine y_istore_n (lv' := [(1, .int (0 : Int32)), (2, .int (-6 : Int32)), (4, .int r9), (0, .ref (P 0)), (3, .int x3)]) C dX2_findFault_113 rfl (Nat.le_of_ble_eq_true rfl) rfl ?_
            refine y_iinc (v := (x3 + (1 : Int32))) (lv' := [(3, .int (x3 + (1 : Int32))), (1, .int (0 : Int32)), (2, .int (-6 : Int32)), (4, .int r9), (0, .ref (P 0))]) C dX2_findFault_114 4 rfl rfl (Nat.le_of_ble_eq_true rfl) rfl ?_
            refine y_goto (tgt := 14) C dX2_findFault_117 rfl ?_
            refine y_sub (lv' := [(0, .ref (P 0)), (1, .int (0 : Int32)), (2, .int (-6 : Int32)), (3, .int (x3 + (1 : Int32)))]) [4, 1, 2, 0] rfl ?_
            exact hX14 _ _ _ _ _ h
        · refine y_iload_n C dX2_findFault_88 4 rfl rfl ?_
          exact HR 89 dX2_findFault_89 x3 _ _ _ _ (rfl) (Nat.le_of_ble_eq_true rfl) (Nat.le_of_ble_eq_true rfl) (hK _ _ _ h)
    · refine y_iload C dX2_findFault_42 0 rfl ?_
      refine y_bipush (v := 57) C dX2_findFault_44 (by decide) ?_
      refine y_icmp_gt (tgt := 73) C dX2_findFault_46 rfl h (fun c46 h => ?_) (fun c46 h => ?_)
      · refine y_iload_n C dX2_findFault_73 3 rfl rfl ?_
        refine y_bipush (v := -6) C dX2_findFault_74 (by decide) ?_
        refine y_icmp_eq (tgt := 88) C dX2_findFault_76 rfl h (fun c76 h => ?_) (fun c76 h => ?_)
        · refine y_iload_n C dX2_findFault_88 4 rfl rfl ?_
          exact HR 89 dX2_findFault_89 x3 _ _ _ _ (rfl) (Nat.le_of_ble_eq_true rfl) (Nat.le_of_ble_eq_true rfl) (hK _ _ _ h)
        · refine y_iload C dX2_findFault_79 0 rfl ?_
          refine y_iload_n C dX2_findFault_81 2 rfl rfl ?_
          refine y_callS (As := [.int x1]) (rest := [.int r9]) C dX2_findFault_82 (c_X2_endOf g x1) rfl rfl rfl rfl ⟨Nat.le_of_ble_eq_true rfl, Nat.le_of_ble_eq_true rfl⟩ gX2_findFault_X2_endOf (nA := 1) (by decide +kernel) rfl (Nat.le_of_ble_eq_true rfl) ⟨Nat.le_of_ble_eq_true rfl, Nat.le_of_ble_eq_true rfl⟩ [] [0, 1, 2] (nB := 3) rfl (by decide +kernel) (sh_139 g P p GP) (fun r16 w9 hw => ?_)
          obtain ⟨er16, rfl⟩ := hw
          have h := y_letP h er16
          refine ⟨([padC P p] ++ padR g P p GP : List va_W), ⟨(sh_139 g P p GP), rfl, rfl⟩, ?_⟩
          refine y_icmp_eq (tgt := 90) C dX2_findFault_85 rfl h (fun c85 h => ?_) (fun c85 h => ?_)
          · refine y_aload_n C dX2_findFault_90 1 rfl rfl ?_
            refine y_get (Cn := RX2) (T := TX2) (N := 2) (v := .ref (P 3)) C dX2_findFault_91 hX2_findFault_X2 0 (sh_134 g P p GP) rfl 1 (Nat.le_of_ble_eq_true rfl) kX2_findFault_1 rfl ?_
            refine y_iload_n C dX2_findFault_94 3 rfl rfl ?_
            refine y_callVv (As := [.int x2]) (rest := []) C dX2_findFault_95 (c_X3_add g (P 3) (P 4) 31 (p.1 1) (GP 1) x2 (by decide)) rfl rfl rfl rfl ⟨Nat.le_of_ble_eq_true rfl, Nat.le_of_ble_eq_true rfl⟩ gX2_findFault_X3_add (nA := 1) (by decide +kernel) rfl (rowW_recv ⟨_, rfl⟩) (Nat.le_of_ble_eq_true rfl) ⟨Nat.le_of_ble_eq_true rfl, Nat.le_of_ble_eq_true rfl⟩ [2] [0, 1] (nB := 3) rfl (by decide +kernel) (sh_137 g P p GP) (fun w9 hw => ?_)
            obtain ⟨y17, G18, e19, rfl⟩ := hw
            obtain ⟨p20, ep20⟩ : ∃ z : RV, z = rvR p 1 y17 := ⟨_, rfl⟩
            obtain ⟨G21, eG21⟩ : ∃ z : Nat → Nat → Int32, z = gs GP 1 G18 := ⟨_, rfl⟩
            have h := y_letP h (show p20 = rvR p 1 (rAdd 31 (p.1 1) x2) by rw [ep20, e19])
            refine ⟨([padC P p20] ++ padR g P p20 G21 : List va_W), (sh_138 g P p GP y17 G18 p20 G21 ep20 eG21), ?_⟩
            refine y_bipush (v := -6) C dX2_findFault_98 (by decide) ?_
            refine y_istore_n (lv' := [(2, .int (-6 : Int32)), (4, .int r9), (0, .ref (P 0)), (1, .int x1), (3, .int x3)]) C dX2_findFault_100 rfl (Nat.le_of_ble_eq_true rfl) rfl ?_
            refine y_iload_n C dX2_findFault_101 3 rfl rfl ?_
            refine y_iconst (v := 3) C dX2_findFault_102 (by decide) ?_
            refine y_icmp_ne (tgt := 110) C dX2_findFault_103 rfl h (fun c103 h => ?_) (fun c103 h => ?_)
            · refine y_iload_n C dX2_findFault_110 3 rfl rfl ?_
              refine y_iconst (v := 1) C dX2_findFault_111 (by decide) ?_
              refine y_iadd C dX2_findFault_112 ?_
              refine y_istore_n (lv' := [(1, .int (x1 + (1 : Int32))), (2, .int (-6 : Int32)), (4, .int r9), (0, .ref (P 0)), (3, .int x3)]) C dX2_findFault_113 rfl (Nat.le_of_ble_eq_true rfl) rfl ?_
              refine y_iinc (v := (x3 + (1 : Int32))) (lv' := [(3, .int (x3 + (1 : Int32))), (1, .int (x1 + (1 : Int32))), (2, .int (-6 : Int32)), (4, .int r9), (0, .ref (P 0))]) C dX2_findFault_114 4 rfl rfl (Nat.le_of_ble_eq_true rfl) rfl ?_
              refine y_goto (tgt := 14) C dX2_findFault_117 rfl ?_
              refine y_sub (lv' := [(0, .ref (P 0)), (1, .int (x1 + (1 : Int32))), (2, .int (-6 : Int32)), (3, .int (x3 + (1 : Int32)))]) [4, 1, 2, 0] rfl ?_
              exact hX14 _ _ _ _ _ h
            · refine y_iconst (v := 0) C dX2_findFault_106 (by decide) ?_
              refine y_goto (tgt := 113) C dX2_findFault_107 rfl ?_
              refine y_istore_n (lv' := [(1, .int (0 : Int32)), (2, .int (-6 : Int32)), (4, .int r9), (0, .ref (P 0)), (3, .int x3)]) C dX2_findFault_113 rfl (Nat.le_of_ble_eq_true rfl) rfl ?_
              refine y_iinc (v := (x3 + (1 : Int32))) (lv' := [(3, .int (x3 + (1 : Int32))), (1, .int (0 : Int32)), (2, .int (-6 : Int32)), (4, .int r9), (0, .ref (P 0))]) C dX2_findFault_114 4 rfl rfl (Nat.le_of_ble_eq_true rfl) rfl ?_
              refine y_goto (tgt := 14) C dX2_findFault_117 rfl ?_
              refine y_sub (lv' := [(0, .ref (P 0)), (1, .int (0 : Int32)), (2, .int (-6 : Int32)), (3, .int (x3 + (1 : Int32)))]) [4, 1, 2, 0] rfl ?_
              exact hX14 _ _ _ _ _ h
          · refine y_iload_n C dX2_findFault_88 4 rfl rfl ?_
            exact HR 89 dX2_findFault_89 x3 _ _ _ _ (rfl) (Nat.le_of_ble_eq_true rfl) (Nat.le_of_ble_eq_true rfl) (hK _ _ _ h)
      · refine y_iload_n C dX2_findFault_49 3 rfl rfl ?_
        refine y_iload C dX2_findFault_50 0 rfl ?_
        refine y_bipush (v := 48) C dX2_findFault_52 (by decide) ?_
        refine y_isub C dX2_findFault_54 ?_
        refine y_callS (As := [.int x2, .int (r9 - (48 : Int32))]) (rest := []) C dX2_findFault_55 (c_X2_withDigit g x2 (r9 - (48 : Int32))) rfl rfl rfl rfl ⟨Nat.le_of_ble_eq_true rfl, Nat.le_of_ble_eq_true rfl⟩ gX2_findFault_X2_withDigit (nA := 2) (by decide +kernel) rfl (Nat.le_of_ble_eq_true rfl) ⟨Nat.le_of_ble_eq_true rfl, Nat.le_of_ble_eq_true rfl⟩ [] [0, 1, 2] (nB := 3) rfl (by decide +kernel) (sh_139 g P p GP) (fun r22 w9 hw => ?_)
        obtain ⟨er22, rfl⟩ := hw
        have h := y_letP h er22
        refine ⟨([padC P p] ++ padR g P p GP : List va_W), ⟨(sh_139 g P p GP), rfl, rfl⟩, ?_⟩
        refine y_istore_n (lv' := [(2, .int r22), (4, .int r9), (0, .ref (P 0)), (1, .int x1), (3, .int x3)]) C dX2_findFault_58 rfl (Nat.le_of_ble_eq_true rfl) rfl ?_
        refine y_iload_n C dX2_findFault_59 0 rfl rfl ?_
        refine y_if_lt (tgt := 71) C dX2_findFault_60 rfl h (fun c60 h => ?_) (fun c60 h => ?_)
        · refine y_iload_n C dX2_findFault_71 4 rfl rfl ?_
          exact HR 72 dX2_findFault_72 x3 _ _ _ _ (rfl) (Nat.le_of_ble_eq_true rfl) (Nat.le_of_ble_eq_true rfl) (hK _ _ _ h)
        · refine y_iload_n C dX2_findFault_63 0 rfl rfl ?_
          refine y_iload_n C dX2_findFault_64 3 rfl rfl ?_
          refine y_callS (As := [.int x1]) (rest := [.int r22]) C dX2_findFault_65 (c_X2_mostIn g x1) rfl rfl rfl rfl ⟨Nat.le_of_ble_eq_true rfl, Nat.le_of_ble_eq_true rfl⟩ gX2_findFault_X2_mostIn (nA := 1) (by decide +kernel) rfl (Nat.le_of_ble_eq_true rfl) ⟨Nat.le_of_ble_eq_true rfl, Nat.le_of_ble_eq_true rfl⟩ [] [0, 1, 2] (nB := 3) rfl (by decide +kernel) (sh_139 g P p GP) (fun r23 w9 hw => ?_)
          obtain ⟨er23, rfl⟩ := hw
          have h := y_letP h er23
          refine ⟨([padC P p] ++ padR g P p GP : List va_W), ⟨(sh_139 g P p GP), rfl, rfl⟩, ?_⟩
          refine y_icmp_le (tgt := 114) C dX2_findFault_68 rfl h (fun c68 h => ?_) (fun c68 h => ?_)
          · refine y_iinc (v := (x3 + (1 : Int32))) (lv' := [(3, .int (x3 + (1 : Int32))), (2, .int r22), (4, .int r9), (0, .ref (P 0)), (1, .int x1)]) C dX2_findFault_114 4 rfl rfl (Nat.le_of_ble_eq_true rfl) rfl ?_
            refine y_goto (tgt := 14) C dX2_findFault_117 rfl ?_
            refine y_sub (lv' := [(0, .ref (P 0)), (1, .int x1), (2, .int r22), (3, .int (x3 + (1 : Int32)))]) [3, 4, 1, 0] rfl ?_
            exact hX14 _ _ _ _ _ h
          · refine y_iload_n C dX2_findFault_71 4 rfl rfl ?_
            exact HR 72 dX2_findFault_72 x3 _ _ _ _ (rfl) (Nat.le_of_ble_eq_true rfl) (Nat.le_of_ble_eq_true rfl) (hK _ _ _ h)
set_option maxHeartbeats 4000000 in
set_option maxRecDepth 100000 in
theorem l_X2_findFault {Z : yZ} (g : yG) (P : Nat → Nat) (C : yC Z g cX2_findFault 5 wsX2_findFault RX2) {post : Int32 → List va_W → Prop} (HR : yRi Z ({ frames := 2, cells := 0, slots := 0, locals := 44 } : Room) cX2_findFault .int post 0 0) {K : Int32 → RV → Prop} (hK : ∀ (r0 : Int32) (p : RV) (GP : Nat → Nat → Int32), K r0 p → post r0 ([padC P p] ++ padR g P p GP : List va_W)) {I14 : Nat → RV → Int32 → Int32 → Int32 → Prop} (o14 : ∀ (w0 : Nat) (p : RV) (x1 : Int32) (x2 : Int32) (x3 : Int32), I14 w0 p x1 x2 x3 → wp_X2_findFault_14  (fun (p9 : RV) (x19 : Int32) (x29 : Int32) (x39 : Int32) => ∃ w9, w9 < w0 ∧ I14 w9 p9 x19 x29 x39) K p x1 x2 x3) : ∀ w0 : Nat, (∀ (p : RV) (x1 : Int32) (x2 : Int32) (x3 : Int32) (GP : Nat → Nat → Int32), I14 w0 p x1 x2 x3 → yJ Z ({ frames := 2, cells := 0, slots := 0, locals := 44 } : Room) 0 0 ([padC P p] ++ padR g P p GP : List va_W) 14 [(0, .ref (P 0)), (1, .int x1), (2, .int x2), (3, .int x3)] []) := by
  intro w0
  induction w0 using Nat.strongRecOn with
  | _ w0 ih =>
    exact fun p x1 x2 x3 GP hi => w_X2_findFault_14 g P C HR (fun p x1 x2 x3 GP hq => by obtain ⟨w9, hlt, hi⟩ := hq; exact (ih w9 hlt) p x1 x2 x3 GP hi) hK p x1 x2 x3 GP (o14 w0 p x1 x2 x3 hi)
set_option maxHeartbeats 4000000 in
set_option maxRecDepth 100000 in
theorem t_X2_findFault (g : yG) (P : Nat → Nat) (p : RV) (GP : Nat → Nat → Int32)  {post : Int32 → List va_W → Prop} {K : Int32 → RV → Prop} (hK : ∀ (r0 : Int32) (p : RV) (GP : Nat → Nat → Int32), K r0 p → post r0 ([padC P p] ++ padR g P p GP : List va_W)) (hPO : PO_X2_findFault  K p ) : yM g yX2_findFault wsX2_findFault ({ frames := 2, cells := 0, slots := 0, locals := 44 } : Room) [.ref (P 0)] ([padC P p] ++ padR g P p GP : List va_W) post 0 0 := by
  refine y_entryI (cc := cX2_findFault) (maxL := 5) (by decide +kernel) rfl (Nat.le_of_ble_eq_true rfl) (fun Z C HR => ?_)
  have C : yC Z g cX2_findFault 5 wsX2_findFault RX2 := C
  obtain ⟨I14, o14, h⟩ := hPO
  have hX14 : ∀ (p : RV) (x1 : Int32) (x2 : Int32) (x3 : Int32) (GP : Nat → Nat → Int32), (fun (p9 : RV) (x19 : Int32) (x29 : Int32) (x39 : Int32) => ∃ w9, I14 w9 p9 x19 x29 x39) p x1 x2 x3 → yJ Z ({ frames := 2, cells := 0, slots := 0, locals := 44 } : Room) 0 0 ([padC P p] ++ padR g P p GP : List va_W) 14 [(0, .ref (P 0)), (1, .int x1), (2, .int x2), (3, .int x3)] [] := by
    intro p x1 x2 x3 GP hq
    obtain ⟨w9, hi⟩ := hq
    exact (l_X2_findFault g P C HR hK o14 w9) p x1 x2 x3 GP hi
  unfold wp_X2_findFault_0 at h
  show yJ Z _ 0 0 _ 0 [(0, .ref (P 0))] []
  refine y_aload_n C dX2_findFault_0 0 rfl rfl ?_
  refine y_get (Cn := RX2) (T := TX2) (N := 2) (v := .ref (P 3)) C dX2_findFault_1 hX2_findFault_X2 0 (sh_134 g P p GP) rfl 1 (Nat.le_of_ble_eq_true rfl) kX2_findFault_1 rfl ?_
  refine y_callVv (As := []) (rest := []) C dX2_findFault_4 (c_X3_clear g (P 3) (P 4) 31 (p.1 1) (GP 1) (by decide)) rfl rfl rfl rfl ⟨Nat.le_of_ble_eq_true rfl, Nat.le_of_ble_eq_true rfl⟩ gX2_findFault_X3_clear (nA := 0) (by decide +kernel) rfl (rowW_recv ⟨_, rfl⟩) (Nat.le_of_ble_eq_true rfl) ⟨Nat.le_of_ble_eq_true rfl, Nat.le_of_ble_eq_true rfl⟩ [2] [0, 1] (nB := 3) rfl (by decide +kernel) (sh_137 g P p GP) (fun w9 hw => ?_)
  obtain ⟨y1, G2, e3, rfl⟩ := hw
  obtain ⟨p4, ep4⟩ : ∃ z : RV, z = rvR p 1 y1 := ⟨_, rfl⟩
  obtain ⟨G5, eG5⟩ : ∃ z : Nat → Nat → Int32, z = gs GP 1 G2 := ⟨_, rfl⟩
  have h := y_letP h (show p4 = rvR p 1 ([]) by rw [ep4, e3])
  refine ⟨([padC P p4] ++ padR g P p4 G5 : List va_W), (sh_138 g P p GP y1 G2 p4 G5 ep4 eG5), ?_⟩
  refine y_iconst (v := 0) C dX2_findFault_7 (by decide) ?_
  refine y_istore_n (lv' := [(1, .int (0 : Int32)), (0, .ref (P 0))]) C dX2_findFault_8 rfl (Nat.le_of_ble_eq_true rfl) rfl ?_
  refine y_bipush (v := -6) C dX2_findFault_9 (by decide) ?_
  refine y_istore_n (lv' := [(2, .int (-6 : Int32)), (1, .int (0 : Int32)), (0, .ref (P 0))]) C dX2_findFault_11 rfl (Nat.le_of_ble_eq_true rfl) rfl ?_
  refine y_iconst (v := 0) C dX2_findFault_12 (by decide) ?_
  refine y_istore_n (lv' := [(3, .int (0 : Int32)), (2, .int (-6 : Int32)), (1, .int (0 : Int32)), (0, .ref (P 0))]) C dX2_findFault_13 rfl (Nat.le_of_ble_eq_true rfl) rfl ?_
  refine y_sub (lv' := [(0, .ref (P 0)), (1, .int (0 : Int32)), (2, .int (-6 : Int32)), (3, .int (0 : Int32))]) [3, 2, 1, 0] rfl ?_
  exact hX14 _ _ _ _ _ h
