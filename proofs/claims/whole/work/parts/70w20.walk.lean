theorem dX7_number_0 : decode cX7_number 0 = .ok (.aload_n 0, 1) := by decide +kernel
theorem dX7_number_1 : decode cX7_number 1 = .ok (.aload_n 0, 1) := by decide +kernel
theorem dX7_number_2 : decode cX7_number 2 = .ok (.getfield 178, 3) := by decide +kernel
theorem dX7_number_5 : decode cX7_number 5 = .ok (.ifCond .eq 21, 3) := by decide +kernel
theorem dX7_number_8 : decode cX7_number 8 = .ok (.aload_n 0, 1) := by decide +kernel
theorem dX7_number_9 : decode cX7_number 9 = .ok (.invokevirtual 181, 3) := by decide +kernel
theorem dX7_number_12 : decode cX7_number 12 = .ok (.bipush 48, 2) := by decide +kernel
theorem dX7_number_14 : decode cX7_number 14 = .ok (.bipush 57, 2) := by decide +kernel
theorem dX7_number_16 : decode cX7_number 16 = .ok (.invokestatic 48, 3) := by decide +kernel
theorem dX7_number_19 : decode cX7_number 19 = .ok (.ifCond .eq 7, 3) := by decide +kernel
theorem dX7_number_22 : decode cX7_number 22 = .ok (.iconst 1, 1) := by decide +kernel
theorem dX7_number_23 : decode cX7_number 23 = .ok (.goto 4, 3) := by decide +kernel
theorem dX7_number_26 : decode cX7_number 26 = .ok (.iconst 0, 1) := by decide +kernel
theorem dX7_number_27 : decode cX7_number 27 = .ok (.putfield 178, 3) := by decide +kernel
theorem dX7_number_30 : decode cX7_number 30 = .ok (.aload_n 0, 1) := by decide +kernel
theorem dX7_number_31 : decode cX7_number 31 = .ok (.invokevirtual 181, 3) := by decide +kernel
theorem dX7_number_34 : decode cX7_number 34 = .ok (.bipush 48, 2) := by decide +kernel
theorem dX7_number_36 : decode cX7_number 36 = .ok (.isub, 1) := by decide +kernel
theorem dX7_number_37 : decode cX7_number 37 = .ok (.istore_n 2, 1) := by decide +kernel
theorem dX7_number_38 : decode cX7_number 38 = .ok (.aload_n 0, 1) := by decide +kernel
theorem dX7_number_39 : decode cX7_number 39 = .ok (.dup, 1) := by decide +kernel
theorem dX7_number_40 : decode cX7_number 40 = .ok (.getfield 175, 3) := by decide +kernel
theorem dX7_number_43 : decode cX7_number 43 = .ok (.aload_n 0, 1) := by decide +kernel
theorem dX7_number_44 : decode cX7_number 44 = .ok (.getfield 178, 3) := by decide +kernel
theorem dX7_number_47 : decode cX7_number 47 = .ok (.ifCond .eq 7, 3) := by decide +kernel
theorem dX7_number_50 : decode cX7_number 50 = .ok (.iconst 1, 1) := by decide +kernel
theorem dX7_number_51 : decode cX7_number 51 = .ok (.goto 4, 3) := by decide +kernel
theorem dX7_number_54 : decode cX7_number 54 = .ok (.iconst 0, 1) := by decide +kernel
theorem dX7_number_55 : decode cX7_number 55 = .ok (.iadd, 1) := by decide +kernel
theorem dX7_number_56 : decode cX7_number 56 = .ok (.putfield 175, 3) := by decide +kernel
theorem dX7_number_59 : decode cX7_number 59 = .ok (.aload_n 0, 1) := by decide +kernel
theorem dX7_number_60 : decode cX7_number 60 = .ok (.getfield 178, 3) := by decide +kernel
theorem dX7_number_63 : decode cX7_number 63 = .ok (.ifCond .eq 63, 3) := by decide +kernel
theorem dX7_number_66 : decode cX7_number 66 = .ok (.iload_n 2, 1) := by decide +kernel
theorem dX7_number_67 : decode cX7_number 67 = .ok (.ifCond .le 59, 3) := by decide +kernel
theorem dX7_number_70 : decode cX7_number 70 = .ok (.aload_n 0, 1) := by decide +kernel
theorem dX7_number_71 : decode cX7_number 71 = .ok (.invokevirtual 181, 3) := by decide +kernel
theorem dX7_number_74 : decode cX7_number 74 = .ok (.bipush 48, 2) := by decide +kernel
theorem dX7_number_76 : decode cX7_number 76 = .ok (.bipush 57, 2) := by decide +kernel
theorem dX7_number_78 : decode cX7_number 78 = .ok (.invokestatic 48, 3) := by decide +kernel
theorem dX7_number_81 : decode cX7_number 81 = .ok (.ifCond .eq 45, 3) := by decide +kernel
theorem dX7_number_84 : decode cX7_number 84 = .ok (.bipush 10, 2) := by decide +kernel
theorem dX7_number_86 : decode cX7_number 86 = .ok (.iload_n 2, 1) := by decide +kernel
theorem dX7_number_87 : decode cX7_number 87 = .ok (.imul, 1) := by decide +kernel
theorem dX7_number_88 : decode cX7_number 88 = .ok (.aload_n 0, 1) := by decide +kernel
theorem dX7_number_89 : decode cX7_number 89 = .ok (.invokevirtual 181, 3) := by decide +kernel
theorem dX7_number_92 : decode cX7_number 92 = .ok (.iadd, 1) := by decide +kernel
theorem dX7_number_93 : decode cX7_number 93 = .ok (.bipush 48, 2) := by decide +kernel
theorem dX7_number_95 : decode cX7_number 95 = .ok (.isub, 1) := by decide +kernel
theorem dX7_number_96 : decode cX7_number 96 = .ok (.iload_n 1, 1) := by decide +kernel
theorem dX7_number_97 : decode cX7_number 97 = .ok (.if_icmp .gt 29, 3) := by decide +kernel
theorem dX7_number_100 : decode cX7_number 100 = .ok (.bipush 10, 2) := by decide +kernel
theorem dX7_number_102 : decode cX7_number 102 = .ok (.iload_n 2, 1) := by decide +kernel
theorem dX7_number_103 : decode cX7_number 103 = .ok (.imul, 1) := by decide +kernel
theorem dX7_number_104 : decode cX7_number 104 = .ok (.aload_n 0, 1) := by decide +kernel
theorem dX7_number_105 : decode cX7_number 105 = .ok (.invokevirtual 181, 3) := by decide +kernel
theorem dX7_number_108 : decode cX7_number 108 = .ok (.iadd, 1) := by decide +kernel
theorem dX7_number_109 : decode cX7_number 109 = .ok (.bipush 48, 2) := by decide +kernel
theorem dX7_number_111 : decode cX7_number 111 = .ok (.isub, 1) := by decide +kernel
theorem dX7_number_112 : decode cX7_number 112 = .ok (.istore_n 2, 1) := by decide +kernel
theorem dX7_number_113 : decode cX7_number 113 = .ok (.aload_n 0, 1) := by decide +kernel
theorem dX7_number_114 : decode cX7_number 114 = .ok (.dup, 1) := by decide +kernel
theorem dX7_number_115 : decode cX7_number 115 = .ok (.getfield 175, 3) := by decide +kernel
theorem dX7_number_118 : decode cX7_number 118 = .ok (.iconst 1, 1) := by decide +kernel
theorem dX7_number_119 : decode cX7_number 119 = .ok (.iadd, 1) := by decide +kernel
theorem dX7_number_120 : decode cX7_number 120 = .ok (.putfield 175, 3) := by decide +kernel
theorem dX7_number_123 : decode cX7_number 123 = .ok (.goto (-64), 3) := by decide +kernel
theorem dX7_number_126 : decode cX7_number 126 = .ok (.iload_n 2, 1) := by decide +kernel
theorem dX7_number_127 : decode cX7_number 127 = .ok (.ireturn, 1) := by decide +kernel
set_option maxRecDepth 20000 in
theorem ggX7_number_X7_sign : GoodIn wsX7_number wsX7_sign := goodIn_r _ [7, 2, 8, 9, 13, 14, 15, 16, 17, 18, 19, 20, 21, 22, 23, 24, 25, 26, 27, 28, 29, 30, 31, 32, 33, 34, 35, 36, 37, 38] (by decide +kernel) (by decide +kernel)
set_option maxRecDepth 20000 in
theorem gX7_number_X7_sign : GoodIn wsX7_number (wsV RX7 181 RX7 yX7_sign wsX7_sign) := goodIn_app (goodIn_of _ (by decide +kernel)) ggX7_number_X7_sign
set_option maxRecDepth 20000 in
theorem ggX7_number_X7_in : GoodIn wsX7_number wsX7_in := goodIn_r _ [12] (by decide +kernel) (by decide +kernel)
set_option maxRecDepth 20000 in
theorem gX7_number_X7_in : GoodIn wsX7_number (va_wsS RX7 48 yX7_in wsX7_in) := goodIn_app (goodIn_of _ (by decide +kernel)) ggX7_number_X7_in
theorem kX7_number_2 : Cond.fieldLink RX7 175 "BookedDetoursModel" "at" "I" ∈ wsX7_number := List.mem_of_getElem? (i := 2) (by decide +kernel)
theorem kX7_number_1 : Cond.fieldLink RX7 178 "BookedDetoursModel" "isWell" "Z" ∈ wsX7_number := List.mem_of_getElem? (i := 1) (by decide +kernel)
theorem hX7_number_X7 : ∀ w ∈ u_ws RX7 TX7 26, w ∈ wsX7_number := fun _ h => List.mem_cons_of_mem _ (List.mem_append_right _ h)
set_option maxHeartbeats 4000000 in
set_option maxRecDepth 100000 in
theorem w_X7_number_126 {Z : yZ} (g : yG) (M : Nat → Nat) (mo : Int32) (C : yC Z g cX7_number 3 wsX7_number RX7) {post : Int32 → List va_W → Prop} (HR : yRi Z ({ frames := 1, cells := 0, slots := 0, locals := 22 } : Room) cX7_number .int post 0 0) {X59 : MV → Int32 → Prop} (hX59 : ∀ (m : MV) (x2 : Int32), X59 m x2 → yJ Z ({ frames := 1, cells := 0, slots := 0, locals := 22 } : Room) 0 0 ([modW g M m] : List va_W) 59 [(0, .ref (M 0)), (1, .int mo), (2, .int x2)] []) {K : Int32 → MV → Prop} (hK : ∀ (r0 : Int32) (m : MV), K r0 m → post r0 ([modW g M m] : List va_W)) (m : MV) (x2 : Int32) (h : wp_X7_number_126 mo X59 K m x2) : yJ Z ({ frames := 1, cells := 0, slots := 0, locals := 22 } : Room) 0 0 ([modW g M m] : List va_W) 126 [(2, .int x2)] [] := by
  unfold wp_X7_number_126 at h
  refine y_iload_n C dX7_number_126 0 rfl rfl ?_
  exact HR 127 dX7_number_127 x2 _ _ _ _ (rfl) (Nat.le_of_ble_eq_true rfl) (Nat.le_of_ble_eq_true rfl) (hK _ _  h)
set_option maxHeartbeats 4000000 in
set_option maxRecDepth 100000 in
theorem w_X7_number_30 {Z : yZ} (g : yG) (M : Nat → Nat) (mo : Int32) (C : yC Z g cX7_number 3 wsX7_number RX7) {post : Int32 → List va_W → Prop} (HR : yRi Z ({ frames := 1, cells := 0, slots := 0, locals := 22 } : Room) cX7_number .int post 0 0) {X59 : MV → Int32 → Prop} (hX59 : ∀ (m : MV) (x2 : Int32), X59 m x2 → yJ Z ({ frames := 1, cells := 0, slots := 0, locals := 22 } : Room) 0 0 ([modW g M m] : List va_W) 59 [(0, .ref (M 0)), (1, .int mo), (2, .int x2)] []) {K : Int32 → MV → Prop} (hK : ∀ (r0 : Int32) (m : MV), K r0 m → post r0 ([modW g M m] : List va_W)) (m : MV) (h : wp_X7_number_30 mo X59 K m) : yJ Z ({ frames := 1, cells := 0, slots := 0, locals := 22 } : Room) 0 0 ([modW g M m] : List va_W) 30 [(0, .ref (M 0)), (1, .int mo)] [] := by
  unfold wp_X7_number_30 at h
  refine y_aload_n C dX7_number_30 0 rfl rfl ?_
  refine y_callV (As := []) (rest := []) C dX7_number_31 (u_X7_sign g M m h) rfl rfl rfl rfl ⟨Nat.le_of_ble_eq_true rfl, Nat.le_of_ble_eq_true rfl⟩ gX7_number_X7_sign (nA := 0) (by decide +kernel) rfl (sh_5010 g M m) (Nat.le_of_ble_eq_true rfl) ⟨Nat.le_of_ble_eq_true rfl, Nat.le_of_ble_eq_true rfl⟩ [0] [] (nB := 1) rfl (by decide +kernel) (sh_5009 g M m) (fun r1 w9 hw => ?_)
  obtain ⟨h, rfl⟩ := hw
  refine ⟨([modW g M m] : List va_W), ⟨(sh_5009 g M m), rfl, rfl⟩, ?_⟩
  refine y_bipush (v := 48) C dX7_number_34 (by decide) ?_
  refine y_isub C dX7_number_36 ?_
  refine y_istore_n (lv' := [(2, .int (r1 - (48 : Int32))), (0, .ref (M 0)), (1, .int mo)]) C dX7_number_37 rfl (Nat.le_of_ble_eq_true rfl) rfl ?_
  refine y_aload_n C dX7_number_38 1 rfl rfl ?_
  refine y_dup C dX7_number_39 rfl ?_
  refine y_get (Cn := RX7) (T := TX7) (N := 26) (v := .int (m.1 22)) C dX7_number_40 hX7_number_X7 0 (sh_5000 g M m) rfl 22 (Nat.le_of_ble_eq_true rfl) kX7_number_2 rfl ?_
  refine y_aload_n C dX7_number_43 1 rfl rfl ?_
  refine y_get (Cn := RX7) (T := TX7) (N := 26) (v := .int (m.1 23)) C dX7_number_44 hX7_number_X7 0 (sh_5000 g M m) rfl 23 (Nat.le_of_ble_eq_true rfl) kX7_number_1 rfl ?_
  refine y_if_eq (tgt := 54) C dX7_number_47 rfl h (fun c47 h => ?_) (fun c47 h => ?_)
  · refine y_iconst (v := 0) C dX7_number_54 (by decide) ?_
    refine y_iadd C dX7_number_55 ?_
    obtain ⟨m2, em2⟩ : ∃ z : MV, z = mI m 22 ((m.1 22) + (0 : Int32)) := ⟨_, rfl⟩
    have h := y_letP h em2
    refine y_put (Cn := RX7) (T := TX7) (N := 26) (v := .int ((m.1 22) + (0 : Int32))) (ty0 := tyX7) (L1 := ([modW g M m2] : List va_W)) C dX7_number_56 hX7_number_X7 0 (sh_5000 g M m) rfl 22 (Nat.le_of_ble_eq_true rfl) kX7_number_2 tyX7_ok nmX7 rfl rfl rfl (Nat.le_of_ble_eq_true rfl) (sh_5034 g M m ((m.1 22) + (0 : Int32)) m2 em2) ?_
    refine y_sub (lv' := [(0, .ref (M 0)), (1, .int mo), (2, .int (r1 - (48 : Int32)))]) [1, 2, 0] rfl ?_
    exact hX59 _ _ h
  · refine y_iconst (v := 1) C dX7_number_50 (by decide) ?_
    refine y_goto (tgt := 55) C dX7_number_51 rfl ?_
    refine y_iadd C dX7_number_55 ?_
    obtain ⟨m3, em3⟩ : ∃ z : MV, z = mI m 22 ((m.1 22) + (1 : Int32)) := ⟨_, rfl⟩
    have h := y_letP h em3
    refine y_put (Cn := RX7) (T := TX7) (N := 26) (v := .int ((m.1 22) + (1 : Int32))) (ty0 := tyX7) (L1 := ([modW g M m3] : List va_W)) C dX7_number_56 hX7_number_X7 0 (sh_5000 g M m) rfl 22 (Nat.le_of_ble_eq_true rfl) kX7_number_2 tyX7_ok nmX7 rfl rfl rfl (Nat.le_of_ble_eq_true rfl) (sh_5034 g M m ((m.1 22) + (1 : Int32)) m3 em3) ?_
    refine y_sub (lv' := [(0, .ref (M 0)), (1, .int mo), (2, .int (r1 - (48 : Int32)))]) [1, 2, 0] rfl ?_
    exact hX59 _ _ h
set_option maxHeartbeats 4000000 in
set_option maxRecDepth 100000 in
theorem w_X7_number_59 {Z : yZ} (g : yG) (M : Nat → Nat) (mo : Int32) (C : yC Z g cX7_number 3 wsX7_number RX7) {post : Int32 → List va_W → Prop} (HR : yRi Z ({ frames := 1, cells := 0, slots := 0, locals := 22 } : Room) cX7_number .int post 0 0) {X59 : MV → Int32 → Prop} (hX59 : ∀ (m : MV) (x2 : Int32), X59 m x2 → yJ Z ({ frames := 1, cells := 0, slots := 0, locals := 22 } : Room) 0 0 ([modW g M m] : List va_W) 59 [(0, .ref (M 0)), (1, .int mo), (2, .int x2)] []) {K : Int32 → MV → Prop} (hK : ∀ (r0 : Int32) (m : MV), K r0 m → post r0 ([modW g M m] : List va_W)) (m : MV) (x2 : Int32) (h : wp_X7_number_59 mo X59 K m x2) : yJ Z ({ frames := 1, cells := 0, slots := 0, locals := 22 } : Room) 0 0 ([modW g M m] : List va_W) 59 [(0, .ref (M 0)), (1, .int mo), (2, .int x2)] [] := by
  unfold wp_X7_number_59 at h
  refine y_aload_n C dX7_number_59 0 rfl rfl ?_
  refine y_get (Cn := RX7) (T := TX7) (N := 26) (v := .int (m.1 23)) C dX7_number_60 hX7_number_X7 0 (sh_5000 g M m) rfl 23 (Nat.le_of_ble_eq_true rfl) kX7_number_1 rfl ?_
  refine y_if_eq (tgt := 126) C dX7_number_63 rfl h (fun c63 h => ?_) (fun c63 h => ?_)
  · refine y_sub (lv' := [(2, .int x2)]) [2] rfl ?_
    exact w_X7_number_126 g M mo C HR hX59 hK _ _ h
  · refine y_iload_n C dX7_number_66 2 rfl rfl ?_
    refine y_if_le (tgt := 126) C dX7_number_67 rfl h (fun c67 h => ?_) (fun c67 h => ?_)
    · refine y_sub (lv' := [(2, .int x2)]) [2] rfl ?_
      exact w_X7_number_126 g M mo C HR hX59 hK _ _ h
    · refine y_aload_n C dX7_number_70 0 rfl rfl ?_
      refine y_callV (As := []) (rest := []) C dX7_number_71 (u_X7_sign g M m h) rfl rfl rfl rfl ⟨Nat.le_of_ble_eq_true rfl, Nat.le_of_ble_eq_true rfl⟩ gX7_number_X7_sign (nA := 0) (by decide +kernel) rfl (sh_5010 g M m) (Nat.le_of_ble_eq_true rfl) ⟨Nat.le_of_ble_eq_true rfl, Nat.le_of_ble_eq_true rfl⟩ [0] [] (nB := 1) rfl (by decide +kernel) (sh_5009 g M m) (fun r1 w9 hw => ?_)
      obtain ⟨h, rfl⟩ := hw
      refine ⟨([modW g M m] : List va_W), ⟨(sh_5009 g M m), rfl, rfl⟩, ?_⟩
      refine y_bipush (v := 48) C dX7_number_74 (by decide) ?_
      refine y_bipush (v := 57) C dX7_number_76 (by decide) ?_
      refine y_callS (As := [.int r1, .int (48 : Int32), .int (57 : Int32)]) (rest := []) C dX7_number_78 (c_X7_in g r1 (48 : Int32) (57 : Int32)) rfl rfl rfl rfl ⟨Nat.le_of_ble_eq_true rfl, Nat.le_of_ble_eq_true rfl⟩ gX7_number_X7_in (nA := 3) (by decide +kernel) rfl (Nat.le_of_ble_eq_true rfl) ⟨Nat.le_of_ble_eq_true rfl, Nat.le_of_ble_eq_true rfl⟩ [] [0] (nB := 1) rfl (by decide +kernel) (sh_5002 g M m) (fun r2 w9 hw => ?_)
      obtain ⟨er2, rfl⟩ := hw
      have h := y_letP h er2
      refine ⟨([modW g M m] : List va_W), ⟨(sh_5002 g M m), rfl, rfl⟩, ?_⟩
      refine y_if_eq (tgt := 126) C dX7_number_81 rfl h (fun c81 h => ?_) (fun c81 h => ?_)
      · refine y_sub (lv' := [(2, .int x2)]) [2] rfl ?_
        exact w_X7_number_126 g M mo C HR hX59 hK _ _ h
      · refine y_bipush (v := 10) C dX7_number_84 (by decide) ?_
        refine y_iload_n C dX7_number_86 2 rfl rfl ?_
        refine y_imul C dX7_number_87 ?_
        refine y_aload_n C dX7_number_88 0 rfl rfl ?_
        refine y_callV (As := []) (rest := [.int ((10 : Int32) * x2)]) C dX7_number_89 (u_X7_sign g M m h) rfl rfl rfl rfl ⟨Nat.le_of_ble_eq_true rfl, Nat.le_of_ble_eq_true rfl⟩ gX7_number_X7_sign (nA := 0) (by decide +kernel) rfl (sh_5010 g M m) (Nat.le_of_ble_eq_true rfl) ⟨Nat.le_of_ble_eq_true rfl, Nat.le_of_ble_eq_true rfl⟩ [0] [] (nB := 1) rfl (by decide +kernel) (sh_5009 g M m) (fun r3 w9 hw => ?_)
        obtain ⟨h, rfl⟩ := hw
        refine ⟨([modW g M m] : List va_W), ⟨(sh_5009 g M m), rfl, rfl⟩, ?_⟩
        refine y_iadd C dX7_number_92 ?_
        refine y_bipush (v := 48) C dX7_number_93 (by decide) ?_
        refine y_isub C dX7_number_95 ?_
        refine y_iload_n C dX7_number_96 1 rfl rfl ?_
        refine y_icmp_gt (tgt := 126) C dX7_number_97 rfl h (fun c97 h => ?_) (fun c97 h => ?_)
        · refine y_sub (lv' := [(2, .int x2)]) [2] rfl ?_
          exact w_X7_number_126 g M mo C HR hX59 hK _ _ h
        · refine y_bipush (v := 10) C dX7_number_100 (by decide) ?_
          refine y_iload_n C dX7_number_102 2 rfl rfl ?_
          refine y_imul C dX7_number_103 ?_
          refine y_aload_n C dX7_number_104 0 rfl rfl ?_
          refine y_callV (As := []) (rest := [.int ((10 : Int32) * x2)]) C dX7_number_105 (u_X7_sign g M m h) rfl rfl rfl rfl ⟨Nat.le_of_ble_eq_true rfl, Nat.le_of_ble_eq_true rfl⟩ gX7_number_X7_sign (nA := 0) (by decide +kernel) rfl (sh_5010 g M m) (Nat.le_of_ble_eq_true rfl) ⟨Nat.le_of_ble_eq_true rfl, Nat.le_of_ble_eq_true rfl⟩ [0] [] (nB := 1) rfl (by decide +kernel) (sh_5009 g M m) (fun r4 w9 hw => ?_)
          obtain ⟨h, rfl⟩ := hw
          refine ⟨([modW g M m] : List va_W), ⟨(sh_5009 g M m), rfl, rfl⟩, ?_⟩
          refine y_iadd C dX7_number_108 ?_
          refine y_bipush (v := 48) C dX7_number_109 (by decide) ?_
          refine y_isub C dX7_number_111 ?_
          refine y_istore_n (lv' := [(2, .int ((((10 : Int32) * x2) + r4) - (48 : Int32))), (0, .ref (M 0)), (1, .int mo)]) C dX7_number_112 rfl (Nat.le_of_ble_eq_true rfl) rfl ?_
          refine y_aload_n C dX7_number_113 1 rfl rfl ?_
          refine y_dup C dX7_number_114 rfl ?_
          refine y_get (Cn := RX7) (T := TX7) (N := 26) (v := .int (m.1 22)) C dX7_number_115 hX7_number_X7 0 (sh_5000 g M m) rfl 22 (Nat.le_of_ble_eq_true rfl) kX7_number_2 rfl ?_
          refine y_iconst (v := 1) C dX7_number_118 (by decide) ?_
          refine y_iadd C dX7_number_119 ?_
          obtain ⟨m5, em5⟩ : ∃ z : MV, z = mI m 22 ((m.1 22) + (1 : Int32)) := ⟨_, rfl⟩
          have h := y_letP h em5
          refine y_put (Cn := RX7) (T := TX7) (N := 26) (v := .int ((m.1 22) + (1 : Int32))) (ty0 := tyX7) (L1 := ([modW g M m5] : List va_W)) C dX7_number_120 hX7_number_X7 0 (sh_5000 g M m) rfl 22 (Nat.le_of_ble_eq_true rfl) kX7_number_2 tyX7_ok nmX7 rfl rfl rfl (Nat.le_of_ble_eq_true rfl) (sh_5034 g M m ((m.1 22) + (1 : Int32)) m5 em5) ?_
          refine y_goto (tgt := 59) C dX7_number_123 rfl ?_
          refine y_sub (lv' := [(0, .ref (M 0)), (1, .int mo), (2, .int ((((10 : Int32) * x2) + r4) - (48 : Int32)))]) [1, 2, 0] rfl ?_
          exact hX59 _ _ h
set_option maxHeartbeats 4000000 in
set_option maxRecDepth 100000 in
theorem l_X7_number {Z : yZ} (g : yG) (M : Nat → Nat) (mo : Int32) (C : yC Z g cX7_number 3 wsX7_number RX7) {post : Int32 → List va_W → Prop} (HR : yRi Z ({ frames := 1, cells := 0, slots := 0, locals := 22 } : Room) cX7_number .int post 0 0) {K : Int32 → MV → Prop} (hK : ∀ (r0 : Int32) (m : MV), K r0 m → post r0 ([modW g M m] : List va_W)) {I59 : Nat → MV → Int32 → Prop} (o59 : ∀ (w0 : Nat) (m : MV) (x2 : Int32), I59 w0 m x2 → wp_X7_number_59 mo (fun (m9 : MV) (x29 : Int32) => ∃ w9, w9 < w0 ∧ I59 w9 m9 x29) K m x2) : ∀ w0 : Nat, (∀ (m : MV) (x2 : Int32), I59 w0 m x2 → yJ Z ({ frames := 1, cells := 0, slots := 0, locals := 22 } : Room) 0 0 ([modW g M m] : List va_W) 59 [(0, .ref (M 0)), (1, .int mo), (2, .int x2)] []) := by
  intro w0
  induction w0 using Nat.strongRecOn with
  | _ w0 ih =>
    exact fun m x2 hi => w_X7_number_59 g M mo C HR (fun m x2 hq => by obtain ⟨w9, hlt, hi⟩ := hq; exact (ih w9 hlt) m x2 hi) hK m x2 (o59 w0 m x2 hi)
set_option maxHeartbeats 4000000 in
set_option maxRecDepth 100000 in
theorem t_X7_number (g : yG) (M : Nat → Nat) (m : MV) (mo : Int32) {post : Int32 → List va_W → Prop} {K : Int32 → MV → Prop} (hK : ∀ (r0 : Int32) (m : MV), K r0 m → post r0 ([modW g M m] : List va_W)) (hPO : PO_X7_number mo K m ) : yM g yX7_number wsX7_number ({ frames := 1, cells := 0, slots := 0, locals := 22 } : Room) [.ref (M 0), .int mo] ([modW g M m] : List va_W) post 0 0 := by
  refine y_entryI (cc := cX7_number) (maxL := 3) (by decide +kernel) rfl (Nat.le_of_ble_eq_true rfl) (fun Z C HR => ?_)
  have C : yC Z g cX7_number 3 wsX7_number RX7 := C
  obtain ⟨I59, o59, h⟩ := hPO
  have hX59 : ∀ (m : MV) (x2 : Int32), (fun (m9 : MV) (x29 : Int32) => ∃ w9, I59 w9 m9 x29) m x2 → yJ Z ({ frames := 1, cells := 0, slots := 0, locals := 22 } : Room) 0 0 ([modW g M m] : List va_W) 59 [(0, .ref (M 0)), (1, .int mo), (2, .int x2)] [] := by
    intro m x2 hq
    obtain ⟨w9, hi⟩ := hq
    exact (l_X7_number g M mo C HR hK o59 w9) m x2 hi
  unfold wp_X7_number_0 at h
  show yJ Z _ 0 0 _ 0 [(0, .ref (M 0)), (1, .int mo)] []
  refine y_aload_n C dX7_number_0 0 rfl rfl ?_
  refine y_aload_n C dX7_number_1 0 rfl rfl ?_
  refine y_get (Cn := RX7) (T := TX7) (N := 26) (v := .int (m.1 23)) C dX7_number_2 hX7_number_X7 0 (sh_5000 g M m) rfl 23 (Nat.le_of_ble_eq_true rfl) kX7_number_1 rfl ?_
  refine y_if_eq (tgt := 26) C dX7_number_5 rfl h (fun c5 h => ?_) (fun c5 h => ?_)
  · refine y_iconst (v := 0) C dX7_number_26 (by decide) ?_
    obtain ⟨m1, em1⟩ : ∃ z : MV, z = mI m 23 (0 : Int32) := ⟨_, rfl⟩
    have h := y_letP h em1
    refine y_put (Cn := RX7) (T := TX7) (N := 26) (v := .int (0 : Int32)) (ty0 := tyX7) (L1 := ([modW g M m1] : List va_W)) C dX7_number_27 hX7_number_X7 0 (sh_5000 g M m) rfl 23 (Nat.le_of_ble_eq_true rfl) kX7_number_1 tyX7_ok nmX7 rfl rfl rfl (Nat.le_of_ble_eq_true rfl) (sh_5033 g M m (0 : Int32) m1 em1) ?_
    refine y_sub (lv' := [(0, .ref (M 0)), (1, .int mo)]) [0, 1] rfl ?_
    exact w_X7_number_30 g M mo C HR hX59 hK _ h
  · refine y_aload_n C dX7_number_8 0 rfl rfl ?_
    refine y_callV (As := []) (rest := [.ref (M 0)]) C dX7_number_9 (u_X7_sign g M m h) rfl rfl rfl rfl ⟨Nat.le_of_ble_eq_true rfl, Nat.le_of_ble_eq_true rfl⟩ gX7_number_X7_sign (nA := 0) (by decide +kernel) rfl (sh_5010 g M m) (Nat.le_of_ble_eq_true rfl) ⟨Nat.le_of_ble_eq_true rfl, Nat.le_of_ble_eq_true rfl⟩ [0] [] (nB := 1) rfl (by decide +kernel) (sh_5009 g M m) (fun r2 w9 hw => ?_)
    obtain ⟨h, rfl⟩ := hw
    refine ⟨([modW g M m] : List va_W), ⟨(sh_5009 g M m), rfl, rfl⟩, ?_⟩
    refine y_bipush (v := 48) C dX7_number_12 (by decide) ?_
    refine y_bipush (v := 57) C dX7_number_14 (by decide) ?_
    refine y_callS (As := [.int r2, .int (48 : Int32), .int (57 : Int32)]) (rest := [.ref (M 0)]) C dX7_number_16 (c_X7_in g r2 (48 : Int32) (57 : Int32)) rfl rfl rfl rfl ⟨Nat.le_of_ble_eq_true rfl, Nat.le_of_ble_eq_true rfl⟩ gX7_number_X7_in (nA := 3) (by decide +kernel) rfl (Nat.le_of_ble_eq_true rfl) ⟨Nat.le_of_ble_eq_true rfl, Nat.le_of_ble_eq_true rfl⟩ [] [0] (nB := 1) rfl (by decide +kernel) (sh_5002 g M m) (fun r3 w9 hw => ?_)
    obtain ⟨er3, rfl⟩ := hw
    have h := y_letP h er3
    refine ⟨([modW g M m] : List va_W), ⟨(sh_5002 g M m), rfl, rfl⟩, ?_⟩
    refine y_if_eq (tgt := 26) C dX7_number_19 rfl h (fun c19 h => ?_) (fun c19 h => ?_)
    · refine y_iconst (v := 0) C dX7_number_26 (by decide) ?_
      obtain ⟨m4, em4⟩ : ∃ z : MV, z = mI m 23 (0 : Int32) := ⟨_, rfl⟩
      have h := y_letP h em4
      refine y_put (Cn := RX7) (T := TX7) (N := 26) (v := .int (0 : Int32)) (ty0 := tyX7) (L1 := ([modW g M m4] : List va_W)) C dX7_number_27 hX7_number_X7 0 (sh_5000 g M m) rfl 23 (Nat.le_of_ble_eq_true rfl) kX7_number_1 tyX7_ok nmX7 rfl rfl rfl (Nat.le_of_ble_eq_true rfl) (sh_5033 g M m (0 : Int32) m4 em4) ?_
      refine y_sub (lv' := [(0, .ref (M 0)), (1, .int mo)]) [0, 1] rfl ?_
      exact w_X7_number_30 g M mo C HR hX59 hK _ h
    · refine y_iconst (v := 1) C dX7_number_22 (by decide) ?_
      refine y_goto (tgt := 27) C dX7_number_23 rfl ?_
      obtain ⟨m5, em5⟩ : ∃ z : MV, z = mI m 23 (1 : Int32) := ⟨_, rfl⟩
      have h := y_letP h em5
      refine y_put (Cn := RX7) (T := TX7) (N := 26) (v := .int (1 : Int32)) (ty0 := tyX7) (L1 := ([modW g M m5] : List va_W)) C dX7_number_27 hX7_number_X7 0 (sh_5000 g M m) rfl 23 (Nat.le_of_ble_eq_true rfl) kX7_number_1 tyX7_ok nmX7 rfl rfl rfl (Nat.le_of_ble_eq_true rfl) (sh_5033 g M m (1 : Int32) m5 em5) ?_
      refine y_sub (lv' := [(0, .ref (M 0)), (1, .int mo)]) [0, 1] rfl ?_
      exact w_X7_number_30 g M mo C HR hX59 hK _ h
theorem u_X7_number (g : yG) (M : Nat → Nat) (m : MV) (mo : Int32) {K : Int32 → MV → Prop} (hPO : PO_X7_number mo K m ) : yM g yX7_number wsX7_number ({ frames := 1, cells := 0, slots := 0, locals := 22 } : Room) [.ref (M 0), .int mo] ([modW g M m] : List va_W) (fun r w => ∃ m' : MV, K r m' ∧ w = ([modW g M m'] : List va_W)) 0 0 :=
  t_X7_number g M m mo (fun r0 m hk => ⟨m, hk, rfl⟩) hPO
