theorem dX7_laysWay_0 : decode cX7_laysWay 0 = .ok (.aload_n 0, 1) := by decide +kernel
theorem dX7_laysWay_1 : decode cX7_laysWay 1 = .ok (.iconst 0, 1) := by decide +kernel
theorem dX7_laysWay_2 : decode cX7_laysWay 2 = .ok (.putfield 65, 3) := by decide +kernel
theorem dX7_laysWay_5 : decode cX7_laysWay 5 = .ok (.iconst 0, 1) := by decide +kernel
theorem dX7_laysWay_6 : decode cX7_laysWay 6 = .ok (.istore 4, 2) := by decide +kernel
theorem dX7_laysWay_8 : decode cX7_laysWay 8 = .ok (.iconst 0, 1) := by decide +kernel
theorem dX7_laysWay_9 : decode cX7_laysWay 9 = .ok (.istore 5, 2) := by decide +kernel
theorem dX7_laysWay_11 : decode cX7_laysWay 11 = .ok (.iload 5, 2) := by decide +kernel
theorem dX7_laysWay_13 : decode cX7_laysWay 13 = .ok (.aload_n 0, 1) := by decide +kernel
theorem dX7_laysWay_14 : decode cX7_laysWay 14 = .ok (.getfield 7, 3) := by decide +kernel
theorem dX7_laysWay_17 : decode cX7_laysWay 17 = .ok (.iconst 5, 1) := by decide +kernel
theorem dX7_laysWay_18 : decode cX7_laysWay 18 = .ok (.iaload, 1) := by decide +kernel
theorem dX7_laysWay_19 : decode cX7_laysWay 19 = .ok (.iconst 2, 1) := by decide +kernel
theorem dX7_laysWay_20 : decode cX7_laysWay 20 = .ok (.iadd, 1) := by decide +kernel
theorem dX7_laysWay_21 : decode cX7_laysWay 21 = .ok (.if_icmp .ge 77, 3) := by decide +kernel
theorem dX7_laysWay_24 : decode cX7_laysWay 24 = .ok (.iload 5, 2) := by decide +kernel
theorem dX7_laysWay_26 : decode cX7_laysWay 26 = .ok (.iload_n 2, 1) := by decide +kernel
theorem dX7_laysWay_27 : decode cX7_laysWay 27 = .ok (.if_icmp .eq 9, 3) := by decide +kernel
theorem dX7_laysWay_30 : decode cX7_laysWay 30 = .ok (.iload 5, 2) := by decide +kernel
theorem dX7_laysWay_32 : decode cX7_laysWay 32 = .ok (.iload_n 3, 1) := by decide +kernel
theorem dX7_laysWay_33 : decode cX7_laysWay 33 = .ok (.if_icmp .ne 28, 3) := by decide +kernel
theorem dX7_laysWay_36 : decode cX7_laysWay 36 = .ok (.aload_n 0, 1) := by decide +kernel
theorem dX7_laysWay_37 : decode cX7_laysWay 37 = .ok (.getfield 29, 3) := by decide +kernel
theorem dX7_laysWay_40 : decode cX7_laysWay 40 = .ok (.iload 5, 2) := by decide +kernel
theorem dX7_laysWay_42 : decode cX7_laysWay 42 = .ok (.iconst 2, 1) := by decide +kernel
theorem dX7_laysWay_43 : decode cX7_laysWay 43 = .ok (.iload_n 1, 1) := by decide +kernel
theorem dX7_laysWay_44 : decode cX7_laysWay 44 = .ok (.imul, 1) := by decide +kernel
theorem dX7_laysWay_45 : decode cX7_laysWay 45 = .ok (.iload 5, 2) := by decide +kernel
theorem dX7_laysWay_47 : decode cX7_laysWay 47 = .ok (.iload_n 3, 1) := by decide +kernel
theorem dX7_laysWay_48 : decode cX7_laysWay 48 = .ok (.if_icmp .ne 7, 3) := by decide +kernel
theorem dX7_laysWay_51 : decode cX7_laysWay 51 = .ok (.iconst 1, 1) := by decide +kernel
theorem dX7_laysWay_52 : decode cX7_laysWay 52 = .ok (.goto 4, 3) := by decide +kernel
theorem dX7_laysWay_55 : decode cX7_laysWay 55 = .ok (.iconst 0, 1) := by decide +kernel
theorem dX7_laysWay_56 : decode cX7_laysWay 56 = .ok (.iadd, 1) := by decide +kernel
theorem dX7_laysWay_57 : decode cX7_laysWay 57 = .ok (.iastore, 1) := by decide +kernel
theorem dX7_laysWay_58 : decode cX7_laysWay 58 = .ok (.goto 24, 3) := by decide +kernel
theorem dX7_laysWay_61 : decode cX7_laysWay 61 = .ok (.aload_n 0, 1) := by decide +kernel
theorem dX7_laysWay_62 : decode cX7_laysWay 62 = .ok (.getfield 29, 3) := by decide +kernel
theorem dX7_laysWay_65 : decode cX7_laysWay 65 = .ok (.iload 5, 2) := by decide +kernel
theorem dX7_laysWay_67 : decode cX7_laysWay 67 = .ok (.aload_n 0, 1) := by decide +kernel
theorem dX7_laysWay_68 : decode cX7_laysWay 68 = .ok (.getfield 7, 3) := by decide +kernel
theorem dX7_laysWay_71 : decode cX7_laysWay 71 = .ok (.sipush 152, 3) := by decide +kernel
theorem dX7_laysWay_74 : decode cX7_laysWay 74 = .ok (.iload 4, 2) := by decide +kernel
theorem dX7_laysWay_76 : decode cX7_laysWay 76 = .ok (.iadd, 1) := by decide +kernel
theorem dX7_laysWay_77 : decode cX7_laysWay 77 = .ok (.iaload, 1) := by decide +kernel
theorem dX7_laysWay_78 : decode cX7_laysWay 78 = .ok (.iastore, 1) := by decide +kernel
theorem dX7_laysWay_79 : decode cX7_laysWay 79 = .ok (.iinc 4 1, 3) := by decide +kernel
theorem dX7_laysWay_82 : decode cX7_laysWay 82 = .ok (.aload_n 0, 1) := by decide +kernel
theorem dX7_laysWay_83 : decode cX7_laysWay 83 = .ok (.dup, 1) := by decide +kernel
theorem dX7_laysWay_84 : decode cX7_laysWay 84 = .ok (.getfield 65, 3) := by decide +kernel
theorem dX7_laysWay_87 : decode cX7_laysWay 87 = .ok (.iconst 1, 1) := by decide +kernel
theorem dX7_laysWay_88 : decode cX7_laysWay 88 = .ok (.iadd, 1) := by decide +kernel
theorem dX7_laysWay_89 : decode cX7_laysWay 89 = .ok (.putfield 65, 3) := by decide +kernel
theorem dX7_laysWay_92 : decode cX7_laysWay 92 = .ok (.iinc 5 1, 3) := by decide +kernel
theorem dX7_laysWay_95 : decode cX7_laysWay 95 = .ok (.goto (-84), 3) := by decide +kernel
theorem dX7_laysWay_98 : decode cX7_laysWay 98 = .ok (.return_, 1) := by decide +kernel
theorem kX7_laysWay_1 : Cond.fieldLink RX7 65 "BookedDetoursModel" "wayMany" "I" ∈ wsX7_laysWay := List.mem_of_getElem? (i := 1) (by decide +kernel)
theorem kX7_laysWay_3 : Cond.fieldLink RX7 29 "BookedDetoursModel" "way" "[I" ∈ wsX7_laysWay := List.mem_of_getElem? (i := 3) (by decide +kernel)
theorem kX7_laysWay_2 : Cond.fieldLink RX7 7 "BookedDetoursModel" "s" "[I" ∈ wsX7_laysWay := List.mem_of_getElem? (i := 2) (by decide +kernel)
theorem hX7_laysWay_X7 : ∀ w ∈ u_ws RX7 TX7 26, w ∈ wsX7_laysWay := fun _ h => List.mem_cons_of_mem _ (List.mem_append_right _ h)
set_option maxHeartbeats 4000000 in
set_option maxRecDepth 100000 in
theorem w_X7_laysWay_82 {Z : yZ} (g : yG) (M : Nat → Nat) (ri : Int32) (pk : Int32) (se : Int32) (C : yC Z g cX7_laysWay 6 wsX7_laysWay RX7) {post : List va_W → Prop} (HR : yRv Z ({ frames := 0, cells := 0, slots := 0, locals := 0 } : Room) cX7_laysWay post 0 0) {X11 : MV → Int32 → Int32 → Prop} (hX11 : ∀ (m : MV) (x4 : Int32) (x5 : Int32), X11 m x4 x5 → yJ Z ({ frames := 0, cells := 0, slots := 0, locals := 0 } : Room) 0 0 ([modW g M m] : List va_W) 11 [(0, .ref (M 0)), (1, .int ri), (2, .int pk), (3, .int se), (4, .int x4), (5, .int x5)] []) {K : MV → Prop} (hK : ∀ (m : MV), K m → post ([modW g M m] : List va_W)) (m : MV) (x4 : Int32) (x5 : Int32) (h : wp_X7_laysWay_82 ri pk se X11 K m x4 x5) : yJ Z ({ frames := 0, cells := 0, slots := 0, locals := 0 } : Room) 0 0 ([modW g M m] : List va_W) 82 [(0, .ref (M 0)), (1, .int ri), (2, .int pk), (3, .int se), (4, .int x4), (5, .int x5)] [] := by
  unfold wp_X7_laysWay_82 at h
  refine y_aload_n C dX7_laysWay_82 0 rfl rfl ?_
  refine y_dup C dX7_laysWay_83 rfl ?_
  refine y_get (Cn := RX7) (T := TX7) (N := 26) (v := .int (m.1 10)) C dX7_laysWay_84 hX7_laysWay_X7 0 (sh_5000 g M m) rfl 10 (Nat.le_of_ble_eq_true rfl) kX7_laysWay_1 rfl ?_
  refine y_iconst (v := 1) C dX7_laysWay_87 (by decide) ?_
  refine y_iadd C dX7_laysWay_88 ?_
  obtain ⟨m1, em1⟩ : ∃ z : MV, z = mI m 10 ((m.1 10) + (1 : Int32)) := ⟨_, rfl⟩
  have h := y_letP h em1
  refine y_put (Cn := RX7) (T := TX7) (N := 26) (v := .int ((m.1 10) + (1 : Int32))) (ty0 := tyX7) (L1 := ([modW g M m1] : List va_W)) C dX7_laysWay_89 hX7_laysWay_X7 0 (sh_5000 g M m) rfl 10 (Nat.le_of_ble_eq_true rfl) kX7_laysWay_1 tyX7_ok nmX7 rfl rfl rfl (Nat.le_of_ble_eq_true rfl) (sh_5022 g M m ((m.1 10) + (1 : Int32)) m1 em1) ?_
  refine y_iinc (v := (x5 + (1 : Int32))) (lv' := [(5, .int (x5 + (1 : Int32))), (0, .ref (M 0)), (1, .int ri), (2, .int pk), (3, .int se), (4, .int x4)]) C dX7_laysWay_92 5 rfl rfl (Nat.le_of_ble_eq_true rfl) rfl ?_
  refine y_goto (tgt := 11) C dX7_laysWay_95 rfl ?_
  refine y_sub (lv' := [(0, .ref (M 0)), (1, .int ri), (2, .int pk), (3, .int se), (4, .int x4), (5, .int (x5 + (1 : Int32)))]) [1, 2, 3, 4, 5, 0] rfl ?_
  exact hX11 _ _ _ h
set_option maxHeartbeats 4000000 in
set_option maxRecDepth 100000 in
theorem w_X7_laysWay_58 {Z : yZ} (g : yG) (M : Nat → Nat) (ri : Int32) (pk : Int32) (se : Int32) (C : yC Z g cX7_laysWay 6 wsX7_laysWay RX7) {post : List va_W → Prop} (HR : yRv Z ({ frames := 0, cells := 0, slots := 0, locals := 0 } : Room) cX7_laysWay post 0 0) {X11 : MV → Int32 → Int32 → Prop} (hX11 : ∀ (m : MV) (x4 : Int32) (x5 : Int32), X11 m x4 x5 → yJ Z ({ frames := 0, cells := 0, slots := 0, locals := 0 } : Room) 0 0 ([modW g M m] : List va_W) 11 [(0, .ref (M 0)), (1, .int ri), (2, .int pk), (3, .int se), (4, .int x4), (5, .int x5)] []) {K : MV → Prop} (hK : ∀ (m : MV), K m → post ([modW g M m] : List va_W)) (m : MV) (x4 : Int32) (x5 : Int32) (h : wp_X7_laysWay_58 ri pk se X11 K m x4 x5) : yJ Z ({ frames := 0, cells := 0, slots := 0, locals := 0 } : Room) 0 0 ([modW g M m] : List va_W) 58 [(0, .ref (M 0)), (1, .int ri), (2, .int pk), (3, .int se), (4, .int x4), (5, .int x5)] [] := by
  unfold wp_X7_laysWay_58 at h
  refine y_goto (tgt := 82) C dX7_laysWay_58 rfl ?_
  refine y_sub (lv' := [(0, .ref (M 0)), (1, .int ri), (2, .int pk), (3, .int se), (4, .int x4), (5, .int x5)]) [0, 1, 2, 3, 4, 5] rfl ?_
  exact w_X7_laysWay_82 g M ri pk se C HR hX11 hK _ _ _ h
set_option maxHeartbeats 4000000 in
set_option maxRecDepth 100000 in
theorem w_X7_laysWay_36 {Z : yZ} (g : yG) (M : Nat → Nat) (ri : Int32) (pk : Int32) (se : Int32) (C : yC Z g cX7_laysWay 6 wsX7_laysWay RX7) {post : List va_W → Prop} (HR : yRv Z ({ frames := 0, cells := 0, slots := 0, locals := 0 } : Room) cX7_laysWay post 0 0) {X11 : MV → Int32 → Int32 → Prop} (hX11 : ∀ (m : MV) (x4 : Int32) (x5 : Int32), X11 m x4 x5 → yJ Z ({ frames := 0, cells := 0, slots := 0, locals := 0 } : Room) 0 0 ([modW g M m] : List va_W) 11 [(0, .ref (M 0)), (1, .int ri), (2, .int pk), (3, .int se), (4, .int x4), (5, .int x5)] []) {K : MV → Prop} (hK : ∀ (m : MV), K m → post ([modW g M m] : List va_W)) (m : MV) (x4 : Int32) (x5 : Int32) (h : wp_X7_laysWay_36 ri pk se X11 K m x4 x5) : yJ Z ({ frames := 0, cells := 0, slots := 0, locals := 0 } : Room) 0 0 ([modW g M m] : List va_W) 36 [(0, .ref (M 0)), (1, .int ri), (2, .int pk), (3, .int se), (4, .int x4), (5, .int x5)] [] := by
  unfold wp_X7_laysWay_36 at h
  refine y_aload_n C dX7_laysWay_36 0 rfl rfl ?_
  refine y_get (Cn := RX7) (T := TX7) (N := 26) (v := .ref (M 7)) C dX7_laysWay_37 hX7_laysWay_X7 0 (sh_5000 g M m) rfl 9 (Nat.le_of_ble_eq_true rfl) kX7_laysWay_3 rfl ?_
  refine y_iload C dX7_laysWay_40 5 rfl ?_
  refine y_iconst (v := 2) C dX7_laysWay_42 (by decide) ?_
  refine y_iload_n C dX7_laysWay_43 1 rfl rfl ?_
  refine y_imul C dX7_laysWay_44 ?_
  refine y_iload C dX7_laysWay_45 5 rfl ?_
  refine y_iload_n C dX7_laysWay_47 3 rfl rfl ?_
  refine y_icmp_ne (tgt := 55) C dX7_laysWay_48 rfl h (fun c48 h => ?_) (fun c48 h => ?_)
  · refine y_iconst (v := 0) C dX7_laysWay_55 (by decide) ?_
    refine y_iadd C dX7_laysWay_56 ?_
    obtain ⟨hb1, h⟩ := h
    obtain ⟨m2, em2⟩ : ∃ z : MV, z = mA m 9 x5.toNatClampNeg (((2 : Int32) * ri) + (0 : Int32)) := ⟨_, rfl⟩
    have h := y_letP h em2
    refine y_iast (N := 36) (f := (m.2 9)) (L1 := ([modW g M m2] : List va_W)) C dX7_laysWay_57 7 (sh_5011 g M m) hb1 (sh_5021 g M m x5.toNatClampNeg (((2 : Int32) * ri) + (0 : Int32)) m2 em2) ?_
    refine y_sub (lv' := [(0, .ref (M 0)), (1, .int ri), (2, .int pk), (3, .int se), (4, .int x4), (5, .int x5)]) [0, 1, 2, 3, 4, 5] rfl ?_
    exact w_X7_laysWay_58 g M ri pk se C HR hX11 hK _ _ _ h
  · refine y_iconst (v := 1) C dX7_laysWay_51 (by decide) ?_
    refine y_goto (tgt := 56) C dX7_laysWay_52 rfl ?_
    refine y_iadd C dX7_laysWay_56 ?_
    obtain ⟨hb3, h⟩ := h
    obtain ⟨m4, em4⟩ : ∃ z : MV, z = mA m 9 x5.toNatClampNeg (((2 : Int32) * ri) + (1 : Int32)) := ⟨_, rfl⟩
    have h := y_letP h em4
    refine y_iast (N := 36) (f := (m.2 9)) (L1 := ([modW g M m4] : List va_W)) C dX7_laysWay_57 7 (sh_5011 g M m) hb3 (sh_5021 g M m x5.toNatClampNeg (((2 : Int32) * ri) + (1 : Int32)) m4 em4) ?_
    refine y_sub (lv' := [(0, .ref (M 0)), (1, .int ri), (2, .int pk), (3, .int se), (4, .int x4), (5, .int x5)]) [0, 1, 2, 3, 4, 5] rfl ?_
    exact w_X7_laysWay_58 g M ri pk se C HR hX11 hK _ _ _ h
set_option maxHeartbeats 4000000 in
set_option maxRecDepth 100000 in
theorem w_X7_laysWay_11 {Z : yZ} (g : yG) (M : Nat → Nat) (ri : Int32) (pk : Int32) (se : Int32) (C : yC Z g cX7_laysWay 6 wsX7_laysWay RX7) {post : List va_W → Prop} (HR : yRv Z ({ frames := 0, cells := 0, slots := 0, locals := 0 } : Room) cX7_laysWay post 0 0) {X11 : MV → Int32 → Int32 → Prop} (hX11 : ∀ (m : MV) (x4 : Int32) (x5 : Int32), X11 m x4 x5 → yJ Z ({ frames := 0, cells := 0, slots := 0, locals := 0 } : Room) 0 0 ([modW g M m] : List va_W) 11 [(0, .ref (M 0)), (1, .int ri), (2, .int pk), (3, .int se), (4, .int x4), (5, .int x5)] []) {K : MV → Prop} (hK : ∀ (m : MV), K m → post ([modW g M m] : List va_W)) (m : MV) (x4 : Int32) (x5 : Int32) (h : wp_X7_laysWay_11 ri pk se X11 K m x4 x5) : yJ Z ({ frames := 0, cells := 0, slots := 0, locals := 0 } : Room) 0 0 ([modW g M m] : List va_W) 11 [(0, .ref (M 0)), (1, .int ri), (2, .int pk), (3, .int se), (4, .int x4), (5, .int x5)] [] := by
  unfold wp_X7_laysWay_11 at h
  refine y_iload C dX7_laysWay_11 5 rfl ?_
  refine y_aload_n C dX7_laysWay_13 0 rfl rfl ?_
  refine y_get (Cn := RX7) (T := TX7) (N := 26) (v := .ref (M 1)) C dX7_laysWay_14 hX7_laysWay_X7 0 (sh_5000 g M m) rfl 1 (Nat.le_of_ble_eq_true rfl) kX7_laysWay_2 rfl ?_
  refine y_iconst (v := 5) C dX7_laysWay_17 (by decide) ?_
  obtain ⟨hb1, h⟩ := h
  refine y_iald (N := 186) (f := (m.2 1)) C dX7_laysWay_18 1 (sh_5001 g M m) hb1 ?_
  refine y_iconst (v := 2) C dX7_laysWay_19 (by decide) ?_
  refine y_iadd C dX7_laysWay_20 ?_
  refine y_icmp_ge (tgt := 98) C dX7_laysWay_21 rfl h (fun c21 h => ?_) (fun c21 h => ?_)
  · exact HR 98 dX7_laysWay_98 _ _ _ _ (Nat.le_of_ble_eq_true rfl) (Nat.le_of_ble_eq_true rfl) (hK _  h)
  · refine y_iload C dX7_laysWay_24 5 rfl ?_
    refine y_iload_n C dX7_laysWay_26 2 rfl rfl ?_
    refine y_icmp_eq (tgt := 36) C dX7_laysWay_27 rfl h (fun c27 h => ?_) (fun c27 h => ?_)
    · refine y_sub (lv' := [(0, .ref (M 0)), (1, .int ri), (2, .int pk), (3, .int se), (4, .int x4), (5, .int x5)]) [0, 1, 2, 3, 4, 5] rfl ?_
      exact w_X7_laysWay_36 g M ri pk se C HR hX11 hK _ _ _ h
    · refine y_iload C dX7_laysWay_30 5 rfl ?_
      refine y_iload_n C dX7_laysWay_32 3 rfl rfl ?_
      refine y_icmp_ne (tgt := 61) C dX7_laysWay_33 rfl h (fun c33 h => ?_) (fun c33 h => ?_)
      · refine y_aload_n C dX7_laysWay_61 0 rfl rfl ?_
        refine y_get (Cn := RX7) (T := TX7) (N := 26) (v := .ref (M 7)) C dX7_laysWay_62 hX7_laysWay_X7 0 (sh_5000 g M m) rfl 9 (Nat.le_of_ble_eq_true rfl) kX7_laysWay_3 rfl ?_
        refine y_iload C dX7_laysWay_65 5 rfl ?_
        refine y_aload_n C dX7_laysWay_67 0 rfl rfl ?_
        refine y_get (Cn := RX7) (T := TX7) (N := 26) (v := .ref (M 1)) C dX7_laysWay_68 hX7_laysWay_X7 0 (sh_5000 g M m) rfl 1 (Nat.le_of_ble_eq_true rfl) kX7_laysWay_2 rfl ?_
        refine y_sipush (v := 152) C dX7_laysWay_71 (by decide) ?_
        refine y_iload C dX7_laysWay_74 4 rfl ?_
        refine y_iadd C dX7_laysWay_76 ?_
        obtain ⟨hb2, h⟩ := h
        refine y_iald (N := 186) (f := (m.2 1)) C dX7_laysWay_77 1 (sh_5001 g M m) hb2 ?_
        obtain ⟨hb3, h⟩ := h
        obtain ⟨m4, em4⟩ : ∃ z : MV, z = mA m 9 x5.toNatClampNeg ((m.2 1) ((152 : Int32) + x4).toNatClampNeg) := ⟨_, rfl⟩
        have h := y_letP h em4
        refine y_iast (N := 36) (f := (m.2 9)) (L1 := ([modW g M m4] : List va_W)) C dX7_laysWay_78 7 (sh_5011 g M m) hb3 (sh_5021 g M m x5.toNatClampNeg ((m.2 1) ((152 : Int32) + x4).toNatClampNeg) m4 em4) ?_
        refine y_iinc (v := (x4 + (1 : Int32))) (lv' := [(4, .int (x4 + (1 : Int32))), (0, .ref (M 0)), (1, .int ri), (2, .int pk), (3, .int se), (5, .int x5)]) C dX7_laysWay_79 4 rfl rfl (Nat.le_of_ble_eq_true rfl) rfl ?_
        refine y_sub (lv' := [(0, .ref (M 0)), (1, .int ri), (2, .int pk), (3, .int se), (4, .int (x4 + (1 : Int32))), (5, .int x5)]) [1, 2, 3, 4, 0, 5] rfl ?_
        exact w_X7_laysWay_82 g M ri pk se C HR hX11 hK _ _ _ h
      · refine y_sub (lv' := [(0, .ref (M 0)), (1, .int ri), (2, .int pk), (3, .int se), (4, .int x4), (5, .int x5)]) [0, 1, 2, 3, 4, 5] rfl ?_
        exact w_X7_laysWay_36 g M ri pk se C HR hX11 hK _ _ _ h
set_option maxHeartbeats 4000000 in
set_option maxRecDepth 100000 in
theorem l_X7_laysWay {Z : yZ} (g : yG) (M : Nat → Nat) (ri : Int32) (pk : Int32) (se : Int32) (C : yC Z g cX7_laysWay 6 wsX7_laysWay RX7) {post : List va_W → Prop} (HR : yRv Z ({ frames := 0, cells := 0, slots := 0, locals := 0 } : Room) cX7_laysWay post 0 0) {K : MV → Prop} (hK : ∀ (m : MV), K m → post ([modW g M m] : List va_W)) {I11 : Nat → MV → Int32 → Int32 → Prop} (o11 : ∀ (w0 : Nat) (m : MV) (x4 : Int32) (x5 : Int32), I11 w0 m x4 x5 → wp_X7_laysWay_11 ri pk se (fun (m9 : MV) (x49 : Int32) (x59 : Int32) => ∃ w9, w9 < w0 ∧ I11 w9 m9 x49 x59) K m x4 x5) : ∀ w0 : Nat, (∀ (m : MV) (x4 : Int32) (x5 : Int32), I11 w0 m x4 x5 → yJ Z ({ frames := 0, cells := 0, slots := 0, locals := 0 } : Room) 0 0 ([modW g M m] : List va_W) 11 [(0, .ref (M 0)), (1, .int ri), (2, .int pk), (3, .int se), (4, .int x4), (5, .int x5)] []) := by
  intro w0
  induction w0 using Nat.strongRecOn with
  | _ w0 ih =>
    exact fun m x4 x5 hi => w_X7_laysWay_11 g M ri pk se C HR (fun m x4 x5 hq => by obtain ⟨w9, hlt, hi⟩ := hq; exact (ih w9 hlt) m x4 x5 hi) hK m x4 x5 (o11 w0 m x4 x5 hi)
set_option maxHeartbeats 4000000 in
set_option maxRecDepth 100000 in
theorem t_X7_laysWay (g : yG) (M : Nat → Nat) (m : MV) (ri : Int32) (pk : Int32) (se : Int32) {post : List va_W → Prop} {K : MV → Prop} (hK : ∀ (m : MV), K m → post ([modW g M m] : List va_W)) (hPO : PO_X7_laysWay ri pk se K m ) : yMv g yX7_laysWay wsX7_laysWay ({ frames := 0, cells := 0, slots := 0, locals := 0 } : Room) [.ref (M 0), .int ri, .int pk, .int se] ([modW g M m] : List va_W) post 0 0 := by
  refine y_entryV (cc := cX7_laysWay) (maxL := 6) (by decide +kernel) rfl (Nat.le_of_ble_eq_true rfl) (fun Z C _ HR => ?_)
  have C : yC Z g cX7_laysWay 6 wsX7_laysWay RX7 := C
  obtain ⟨I11, o11, h⟩ := hPO
  have hX11 : ∀ (m : MV) (x4 : Int32) (x5 : Int32), (fun (m9 : MV) (x49 : Int32) (x59 : Int32) => ∃ w9, I11 w9 m9 x49 x59) m x4 x5 → yJ Z ({ frames := 0, cells := 0, slots := 0, locals := 0 } : Room) 0 0 ([modW g M m] : List va_W) 11 [(0, .ref (M 0)), (1, .int ri), (2, .int pk), (3, .int se), (4, .int x4), (5, .int x5)] [] := by
    intro m x4 x5 hq
    obtain ⟨w9, hi⟩ := hq
    exact (l_X7_laysWay g M ri pk se C HR hK o11 w9) m x4 x5 hi
  unfold wp_X7_laysWay_0 at h
  show yJ Z _ 0 0 _ 0 [(0, .ref (M 0)), (1, .int ri), (2, .int pk), (3, .int se)] []
  refine y_aload_n C dX7_laysWay_0 0 rfl rfl ?_
  refine y_iconst (v := 0) C dX7_laysWay_1 (by decide) ?_
  obtain ⟨m1, em1⟩ : ∃ z : MV, z = mI m 10 (0 : Int32) := ⟨_, rfl⟩
  have h := y_letP h em1
  refine y_put (Cn := RX7) (T := TX7) (N := 26) (v := .int (0 : Int32)) (ty0 := tyX7) (L1 := ([modW g M m1] : List va_W)) C dX7_laysWay_2 hX7_laysWay_X7 0 (sh_5000 g M m) rfl 10 (Nat.le_of_ble_eq_true rfl) kX7_laysWay_1 tyX7_ok nmX7 rfl rfl rfl (Nat.le_of_ble_eq_true rfl) (sh_5022 g M m (0 : Int32) m1 em1) ?_
  refine y_iconst (v := 0) C dX7_laysWay_5 (by decide) ?_
  refine y_istore (lv' := [(4, .int (0 : Int32)), (0, .ref (M 0)), (1, .int ri), (2, .int pk), (3, .int se)]) C dX7_laysWay_6 (Nat.le_of_ble_eq_true rfl) rfl ?_
  refine y_iconst (v := 0) C dX7_laysWay_8 (by decide) ?_
  refine y_istore (lv' := [(5, .int (0 : Int32)), (4, .int (0 : Int32)), (0, .ref (M 0)), (1, .int ri), (2, .int pk), (3, .int se)]) C dX7_laysWay_9 (Nat.le_of_ble_eq_true rfl) rfl ?_
  refine y_sub (lv' := [(0, .ref (M 0)), (1, .int ri), (2, .int pk), (3, .int se), (4, .int (0 : Int32)), (5, .int (0 : Int32))]) [2, 3, 4, 5, 1, 0] rfl ?_
  exact hX11 _ _ _ h
theorem u_X7_laysWay (g : yG) (M : Nat → Nat) (m : MV) (ri : Int32) (pk : Int32) (se : Int32) {K : MV → Prop} (hPO : PO_X7_laysWay ri pk se K m ) : yMv g yX7_laysWay wsX7_laysWay ({ frames := 0, cells := 0, slots := 0, locals := 0 } : Room) [.ref (M 0), .int ri, .int pk, .int se] ([modW g M m] : List va_W) (fun w => ∃ m' : MV, K m' ∧ w = ([modW g M m'] : List va_W)) 0 0 :=
  t_X7_laysWay g M m ri pk se (fun m hk => ⟨m, hk, rfl⟩) hPO
