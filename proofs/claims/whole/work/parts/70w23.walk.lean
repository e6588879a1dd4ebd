theorem dX7_bookAll_0 : decode cX7_bookAll 0 = .ok (.aload_n 0, 1) := by decide +kernel
theorem dX7_bookAll_1 : decode cX7_bookAll 1 = .ok (.iconst 0, 1) := by decide +kernel
theorem dX7_bookAll_2 : decode cX7_bookAll 2 = .ok (.putfield 44, 3) := by decide +kernel
theorem dX7_bookAll_5 : decode cX7_bookAll 5 = .ok (.aload_n 0, 1) := by decide +kernel
theorem dX7_bookAll_6 : decode cX7_bookAll 6 = .ok (.invokevirtual 196, 3) := by decide +kernel
theorem dX7_bookAll_9 : decode cX7_bookAll 9 = .ok (.bipush (-6), 2) := by decide +kernel
theorem dX7_bookAll_11 : decode cX7_bookAll 11 = .ok (.if_icmp .eq 6, 3) := by decide +kernel
theorem dX7_bookAll_14 : decode cX7_bookAll 14 = .ok (.bipush (-3), 2) := by decide +kernel
theorem dX7_bookAll_16 : decode cX7_bookAll 16 = .ok (.ireturn, 1) := by decide +kernel
theorem dX7_bookAll_17 : decode cX7_bookAll 17 = .ok (.aload_n 0, 1) := by decide +kernel
theorem dX7_bookAll_18 : decode cX7_bookAll 18 = .ok (.invokevirtual 149, 3) := by decide +kernel
theorem dX7_bookAll_21 : decode cX7_bookAll 21 = .ok (.aload_n 0, 1) := by decide +kernel
theorem dX7_bookAll_22 : decode cX7_bookAll 22 = .ok (.iconst 0, 1) := by decide +kernel
theorem dX7_bookAll_23 : decode cX7_bookAll 23 = .ok (.putfield 172, 3) := by decide +kernel
theorem dX7_bookAll_26 : decode cX7_bookAll 26 = .ok (.iconst 0, 1) := by decide +kernel
theorem dX7_bookAll_27 : decode cX7_bookAll 27 = .ok (.istore_n 1, 1) := by decide +kernel
theorem dX7_bookAll_28 : decode cX7_bookAll 28 = .ok (.iload_n 1, 1) := by decide +kernel
theorem dX7_bookAll_29 : decode cX7_bookAll 29 = .ok (.aload_n 0, 1) := by decide +kernel
theorem dX7_bookAll_30 : decode cX7_bookAll 30 = .ok (.getfield 190, 3) := by decide +kernel
theorem dX7_bookAll_33 : decode cX7_bookAll 33 = .ok (.if_icmp .ge 61, 3) := by decide +kernel
theorem dX7_bookAll_36 : decode cX7_bookAll 36 = .ok (.aload_n 0, 1) := by decide +kernel
theorem dX7_bookAll_37 : decode cX7_bookAll 37 = .ok (.aload_n 0, 1) := by decide +kernel
theorem dX7_bookAll_38 : decode cX7_bookAll 38 = .ok (.getfield 41, 3) := by decide +kernel
theorem dX7_bookAll_41 : decode cX7_bookAll 41 = .ok (.iconst 4, 1) := by decide +kernel
theorem dX7_bookAll_42 : decode cX7_bookAll 42 = .ok (.iload_n 1, 1) := by decide +kernel
theorem dX7_bookAll_43 : decode cX7_bookAll 43 = .ok (.imul, 1) := by decide +kernel
theorem dX7_bookAll_44 : decode cX7_bookAll 44 = .ok (.iaload, 1) := by decide +kernel
theorem dX7_bookAll_45 : decode cX7_bookAll 45 = .ok (.aload_n 0, 1) := by decide +kernel
theorem dX7_bookAll_46 : decode cX7_bookAll 46 = .ok (.getfield 41, 3) := by decide +kernel
theorem dX7_bookAll_49 : decode cX7_bookAll 49 = .ok (.iconst 4, 1) := by decide +kernel
theorem dX7_bookAll_50 : decode cX7_bookAll 50 = .ok (.iload_n 1, 1) := by decide +kernel
theorem dX7_bookAll_51 : decode cX7_bookAll 51 = .ok (.imul, 1) := by decide +kernel
theorem dX7_bookAll_52 : decode cX7_bookAll 52 = .ok (.iconst 1, 1) := by decide +kernel
theorem dX7_bookAll_53 : decode cX7_bookAll 53 = .ok (.iadd, 1) := by decide +kernel
theorem dX7_bookAll_54 : decode cX7_bookAll 54 = .ok (.iaload, 1) := by decide +kernel
theorem dX7_bookAll_55 : decode cX7_bookAll 55 = .ok (.aload_n 0, 1) := by decide +kernel
theorem dX7_bookAll_56 : decode cX7_bookAll 56 = .ok (.getfield 41, 3) := by decide +kernel
theorem dX7_bookAll_59 : decode cX7_bookAll 59 = .ok (.iconst 4, 1) := by decide +kernel
theorem dX7_bookAll_60 : decode cX7_bookAll 60 = .ok (.iload_n 1, 1) := by decide +kernel
theorem dX7_bookAll_61 : decode cX7_bookAll 61 = .ok (.imul, 1) := by decide +kernel
theorem dX7_bookAll_62 : decode cX7_bookAll 62 = .ok (.iconst 2, 1) := by decide +kernel
theorem dX7_bookAll_63 : decode cX7_bookAll 63 = .ok (.iadd, 1) := by decide +kernel
theorem dX7_bookAll_64 : decode cX7_bookAll 64 = .ok (.iaload, 1) := by decide +kernel
theorem dX7_bookAll_65 : decode cX7_bookAll 65 = .ok (.aload_n 0, 1) := by decide +kernel
theorem dX7_bookAll_66 : decode cX7_bookAll 66 = .ok (.getfield 41, 3) := by decide +kernel
theorem dX7_bookAll_69 : decode cX7_bookAll 69 = .ok (.iconst 4, 1) := by decide +kernel
theorem dX7_bookAll_70 : decode cX7_bookAll 70 = .ok (.iload_n 1, 1) := by decide +kernel
theorem dX7_bookAll_71 : decode cX7_bookAll 71 = .ok (.imul, 1) := by decide +kernel
theorem dX7_bookAll_72 : decode cX7_bookAll 72 = .ok (.iconst 3, 1) := by decide +kernel
theorem dX7_bookAll_73 : decode cX7_bookAll 73 = .ok (.iadd, 1) := by decide +kernel
theorem dX7_bookAll_74 : decode cX7_bookAll 74 = .ok (.iaload, 1) := by decide +kernel
theorem dX7_bookAll_75 : decode cX7_bookAll 75 = .ok (.invokevirtual 146, 3) := by decide +kernel
theorem dX7_bookAll_78 : decode cX7_bookAll 78 = .ok (.ifCond .eq 5, 3) := by decide +kernel
theorem dX7_bookAll_81 : decode cX7_bookAll 81 = .ok (.iload_n 1, 1) := by decide +kernel
theorem dX7_bookAll_82 : decode cX7_bookAll 82 = .ok (.ireturn, 1) := by decide +kernel
theorem dX7_bookAll_83 : decode cX7_bookAll 83 = .ok (.aload_n 0, 1) := by decide +kernel
theorem dX7_bookAll_84 : decode cX7_bookAll 84 = .ok (.invokevirtual 152, 3) := by decide +kernel
theorem dX7_bookAll_87 : decode cX7_bookAll 87 = .ok (.pop, 1) := by decide +kernel
theorem dX7_bookAll_88 : decode cX7_bookAll 88 = .ok (.iinc 1 1, 3) := by decide +kernel
theorem dX7_bookAll_91 : decode cX7_bookAll 91 = .ok (.goto (-63), 3) := by decide +kernel
theorem dX7_bookAll_94 : decode cX7_bookAll 94 = .ok (.aload_n 0, 1) := by decide +kernel
theorem dX7_bookAll_95 : decode cX7_bookAll 95 = .ok (.getfield 190, 3) := by decide +kernel
theorem dX7_bookAll_98 : decode cX7_bookAll 98 = .ok (.ireturn, 1) := by decide +kernel
set_option maxRecDepth 20000 in
theorem ggX7_bookAll_X7_refusesBook : GoodIn wsX7_bookAll wsX7_refusesBook := goodIn_r _ [42, 38, 43, 44, 45, 8, 46, 47, 48, 49, 50, 25, 26, 27, 51, 52, 53, 54, 55, 56, 57, 58, 59, 60, 61, 62, 63, 64, 65, 66, 67, 68, 69, 70, 71, 72, 73, 74, 75, 76, 77, 78, 79, 80, 81, 82, 83, 84, 85, 86, 87, 88, 89, 90, 91, 92, 93, 94, 95, 96, 97, 98, 99, 100, 101, 102, 103, 104, 105, 106, 107, 108, 109, 110, 111, 112, 113, 114, 115, 116, 117, 118, 119, 120, 121, 122, 127, 128, 129, 130, 131, 132, 133, 134, 135, 136, 137, 138, 139, 140, 141, 142, 143, 144, 145, 146, 147, 148, 149, 150, 151, 152] (by decide +kernel) (by decide +kernel)
set_option maxRecDepth 20000 in
theorem gX7_bookAll_X7_refusesBook : GoodIn wsX7_bookAll (wsV RX7 146 RX7 yX7_refusesBook wsX7_refusesBook) := goodIn_app (goodIn_of _ (by decide +kernel)) ggX7_bookAll_X7_refusesBook
set_option maxRecDepth 20000 in
theorem ggX7_bookAll_X7_books : GoodIn wsX7_bookAll wsX7_books := goodIn_r _ [126, 38, 69, 70, 83, 84, 79, 80, 81, 8, 82, 71, 72, 73, 74, 127, 128, 129, 130, 131, 132, 133, 134, 135, 136, 137, 138, 139, 140, 141, 142, 143, 144, 145, 146, 147, 148, 149, 150, 151, 152] (by decide +kernel) (by decide +kernel)
set_option maxRecDepth 20000 in
theorem gX7_bookAll_X7_books : GoodIn wsX7_bookAll (wsV RX7 152 RX7 yX7_books wsX7_books) := goodIn_app (goodIn_of _ (by decide +kernel)) ggX7_bookAll_X7_books
set_option maxRecDepth 20000 in
theorem ggX7_bookAll_X7_reads : GoodIn wsX7_bookAll wsX7_reads := goodIn_r _ [9, 10, 11, 3, 2, 12, 13, 14, 8, 15, 4, 16, 17, 18, 19, 20, 21, 22, 23, 24, 25, 26, 27, 28, 29, 30, 31, 127, 128, 129, 130, 131, 132, 133, 134, 135, 136, 137, 138, 139, 140, 141, 142, 143, 144, 145, 146, 147, 148, 149, 150, 151, 152] (by decide +kernel) (by decide +kernel)
set_option maxRecDepth 20000 in
theorem gX7_bookAll_X7_reads : GoodIn wsX7_bookAll (wsV RX7 196 RX7 yX7_reads wsX7_reads) := goodIn_app (goodIn_of _ (by decide +kernel)) ggX7_bookAll_X7_reads
set_option maxRecDepth 20000 in
theorem ggX7_bookAll_X7_records : GoodIn wsX7_bookAll wsX7_records := goodIn_r _ [35, 36, 37, 38, 127, 128, 129, 130, 131, 132, 133, 134, 135, 136, 137, 138, 139, 140, 141, 142, 143, 144, 145, 146, 147, 148, 149, 150, 151, 152] (by decide +kernel) (by decide +kernel)
set_option maxRecDepth 20000 in
theorem gX7_bookAll_X7_records : GoodIn wsX7_bookAll (wsV RX7 149 RX7 yX7_records wsX7_records) := goodIn_app (goodIn_of _ (by decide +kernel)) ggX7_bookAll_X7_records
theorem kX7_bookAll_3 : Cond.fieldLink RX7 190 "BookedDetoursModel" "toldMany" "I" ∈ wsX7_bookAll := List.mem_of_getElem? (i := 3) (by decide +kernel)
theorem kX7_bookAll_4 : Cond.fieldLink RX7 41 "BookedDetoursModel" "told" "[I" ∈ wsX7_bookAll := List.mem_of_getElem? (i := 4) (by decide +kernel)
theorem kX7_bookAll_1 : Cond.fieldLink RX7 44 "BookedDetoursModel" "thrown" "I" ∈ wsX7_bookAll := List.mem_of_getElem? (i := 1) (by decide +kernel)
theorem kX7_bookAll_2 : Cond.fieldLink RX7 172 "BookedDetoursModel" "length" "I" ∈ wsX7_bookAll := List.mem_of_getElem? (i := 2) (by decide +kernel)
theorem hX7_bookAll_X7 : ∀ w ∈ u_ws RX7 TX7 26, w ∈ wsX7_bookAll := fun _ h => List.mem_cons_of_mem _ (List.mem_append_right _ h)
set_option maxHeartbeats 4000000 in
set_option maxRecDepth 100000 in
theorem w_X7_bookAll_28 {Z : yZ} (g : yG) (M : Nat → Nat) (C : yC Z g cX7_bookAll 2 wsX7_bookAll RX7) {post : Int32 → List va_W → Prop} (HR : yRi Z ({ frames := 7, cells := 0, slots := 0, locals := 164 } : Room) cX7_bookAll .int post 0 0) {X28 : MV → Int32 → Prop} (hX28 : ∀ (m : MV) (x1 : Int32), X28 m x1 → yJ Z ({ frames := 7, cells := 0, slots := 0, locals := 164 } : Room) 0 0 ([modW g M m] : List va_W) 28 [(0, .ref (M 0)), (1, .int x1)] []) {K : Int32 → MV → Prop} (hK : ∀ (r0 : Int32) (m : MV), K r0 m → post r0 ([modW g M m] : List va_W)) (m : MV) (x1 : Int32) (h : wp_X7_bookAll_28  X28 K m x1) : yJ Z ({ frames := 7, cells := 0, slots := 0, locals := 164 } : Room) 0 0 ([modW g M m] : List va_W) 28 [(0, .ref (M 0)), (1, .int x1)] [] := by
  unfold wp_X7_bookAll_28 at h
  refine y_iload_n C dX7_bookAll_28 1 rfl rfl ?_
  refine y_aload_n C dX7_bookAll_29 0 rfl rfl ?_
  refine y_get (Cn := RX7) (T := TX7) (N := 26) (v := .int (m.1 25)) C dX7_bookAll_30 hX7_bookAll_X7 0 (sh_5000 g M m) rfl 25 (Nat.le_of_ble_eq_true rfl) kX7_bookAll_3 rfl ?_
  refine y_icmp_ge (tgt := 94) C dX7_bookAll_33 rfl h (fun c33 h => ?_) (fun c33 h => ?_)
  · refine y_aload_n C dX7_bookAll_94 0 rfl rfl ?_
    refine y_get (Cn := RX7) (T := TX7) (N := 26) (v := .int (m.1 25)) C dX7_bookAll_95 hX7_bookAll_X7 0 (sh_5000 g M m) rfl 25 (Nat.le_of_ble_eq_true rfl) kX7_bookAll_3 rfl ?_
    exact HR 98 dX7_bookAll_98 (m.1 25) _ _ _ _ (rfl) (Nat.le_of_ble_eq_true rfl) (Nat.le_of_ble_eq_true rfl) (hK _ _  h)
  · refine y_aload_n C dX7_bookAll_36 0 rfl rfl ?_
    refine y_aload_n C dX7_bookAll_37 0 rfl rfl ?_
    refine y_get (Cn := RX7) (T := TX7) (N := 26) (v := .ref (M 11)) C dX7_bookAll_38 hX7_bookAll_X7 0 (sh_5000 g M m) rfl 24 (Nat.le_of_ble_eq_true rfl) kX7_bookAll_4 rfl ?_
    refine y_iconst (v := 4) C dX7_bookAll_41 (by decide) ?_
    refine y_iload_n C dX7_bookAll_42 1 rfl rfl ?_
    refine y_imul C dX7_bookAll_43 ?_
    obtain ⟨hb1, h⟩ := h
    refine y_iald (N := 64) (f := (m.2 24)) C dX7_bookAll_44 11 (sh_5035 g M m) hb1 ?_
    refine y_aload_n C dX7_bookAll_45 0 rfl rfl ?_
    refine y_get (Cn := RX7) (T := TX7) (N := 26) (v := .ref (M 11)) C dX7_bookAll_46 hX7_bookAll_X7 0 (sh_5000 g M m) rfl 24 (Nat.le_of_ble_eq_true rfl) kX7_bookAll_4 rfl ?_
    refine y_iconst (v := 4) C dX7_bookAll_49 (by decide) ?_
    refine y_iload_n C dX7_bookAll_50 1 rfl rfl ?_
    refine y_imul C dX7_bookAll_51 ?_
    refine y_iconst (v := 1) C dX7_bookAll_52 (by decide) ?_
    refine y_iadd C dX7_bookAll_53 ?_
    obtain ⟨hb2, h⟩ := h
    refine y_iald (N := 64) (f := (m.2 24)) C dX7_bookAll_54 11 (sh_5035 g M m) hb2 ?_
    refine y_aload_n C dX7_bookAll_55 0 rfl rfl ?_
    refine y_get (Cn := RX7) (T := TX7) (N := 26) (v := .ref (M 11)) C dX7_bookAll_56 hX7_bookAll_X7 0 (sh_5000 g M m) rfl 24 (Nat.le_of_ble_eq_true rfl) kX7_bookAll_4 rfl ?_
    refine y_iconst (v := 4) C dX7_bookAll_59 (by decide) ?_
    refine y_iload_n C dX7_bookAll_60 1 rfl rfl ?_
    refine y_imul C dX7_bookAll_61 ?_
    refine y_iconst (v := 2) C dX7_bookAll_62 (by decide) ?_
    refine y_iadd C dX7_bookAll_63 ?_
    obtain ⟨hb3, h⟩ := h
    refine y_iald (N := 64) (f := (m.2 24)) C dX7_bookAll_64 11 (sh_5035 g M m) hb3 ?_
    refine y_aload_n C dX7_bookAll_65 0 rfl rfl ?_
    refine y_get (Cn := RX7) (T := TX7) (N := 26) (v := .ref (M 11)) C dX7_bookAll_66 hX7_bookAll_X7 0 (sh_5000 g M m) rfl 24 (Nat.le_of_ble_eq_true rfl) kX7_bookAll_4 rfl ?_
    refine y_iconst (v := 4) C dX7_bookAll_69 (by decide) ?_
    refine y_iload_n C dX7_bookAll_70 1 rfl rfl ?_
    refine y_imul C dX7_bookAll_71 ?_
    refine y_iconst (v := 3) C dX7_bookAll_72 (by decide) ?_
    refine y_iadd C dX7_bookAll_73 ?_
    obtain ⟨hb4, h⟩ := h
    refine y_iald (N := 64) (f := (m.2 24)) C dX7_bookAll_74 11 (sh_5035 g M m) hb4 ?_
    refine y_callV (As := [.int ((m.2 24) ((4 : Int32) * x1).toNatClampNeg), .int ((m.2 24) (((4 : Int32) * x1) + (1 : Int32)).toNatClampNeg), .int ((m.2 24) (((4 : Int32) * x1) + (2 : Int32)).toNatClampNeg), .int ((m.2 24) (((4 : Int32) * x1) + (3 : Int32)).toNatClampNeg)]) (rest := []) C dX7_bookAll_75 (u_X7_refusesBook g M m ((m.2 24) ((4 : Int32) * x1).toNatClampNeg) ((m.2 24) (((4 : Int32) * x1) + (1 : Int32)).toNatClampNeg) ((m.2 24) (((4 : Int32) * x1) + (2 : Int32)).toNatClampNeg) ((m.2 24) (((4 : Int32) * x1) + (3 : Int32)).toNatClampNeg) h) rfl rfl rfl rfl ⟨Nat.le_of_ble_eq_true rfl, Nat.le_of_ble_eq_true rfl⟩ gX7_bookAll_X7_refusesBook (nA := 4) (by decide +kernel) rfl (sh_5010 g M m) (Nat.le_of_ble_eq_true rfl) ⟨Nat.le_of_ble_eq_true rfl, Nat.le_of_ble_eq_true rfl⟩ [0] [] (nB := 1) rfl (by decide +kernel) (sh_5009 g M m) (fun r7 w9 hw => ?_)
    obtain ⟨m5, h, rfl⟩ := hw
    refine ⟨([modW g M m5] : List va_W), (sh_5023 g M m m5), ?_⟩
    refine y_if_eq (tgt := 83) C dX7_bookAll_78 rfl h (fun c78 h => ?_) (fun c78 h => ?_)
    · refine y_aload_n C dX7_bookAll_83 0 rfl rfl ?_
      refine y_callV (As := []) (rest := []) C dX7_bookAll_84 (u_X7_books g M m5 h) rfl rfl rfl rfl ⟨Nat.le_of_ble_eq_true rfl, Nat.le_of_ble_eq_true rfl⟩ gX7_bookAll_X7_books (nA := 0) (by decide +kernel) rfl (sh_5010 g M m5) (Nat.le_of_ble_eq_true rfl) ⟨Nat.le_of_ble_eq_true rfl, Nat.le_of_ble_eq_true rfl⟩ [0] [] (nB := 1) rfl (by decide +kernel) (sh_5009 g M m5) (fun r10 w9 hw => ?_)
      obtain ⟨m8, h, rfl⟩ := hw
      refine ⟨([modW g M m8] : List va_W), (sh_5023 g M m5 m8), ?_⟩
      refine y_pop C dX7_bookAll_87 rfl ?_
      refine y_iinc (v := (x1 + (1 : Int32))) (lv' := [(1, .int (x1 + (1 : Int32))), (0, .ref (M 0))]) C dX7_bookAll_88 1 rfl rfl (Nat.le_of_ble_eq_true rfl) rfl ?_
      refine y_goto (tgt := 28) C dX7_bookAll_91 rfl ?_
      refine y_sub (lv' := [(0, .ref (M 0)), (1, .int (x1 + (1 : Int32)))]) [1, 0] rfl ?_
      exact hX28 _ _ h
    · refine y_iload_n C dX7_bookAll_81 1 rfl rfl ?_
      exact HR 82 dX7_bookAll_82 x1 _ _ _ _ (rfl) (Nat.le_of_ble_eq_true rfl) (Nat.le_of_ble_eq_true rfl) (hK _ _  h)
set_option maxHeartbeats 4000000 in
set_option maxRecDepth 100000 in
theorem l_X7_bookAll {Z : yZ} (g : yG) (M : Nat → Nat) (C : yC Z g cX7_bookAll 2 wsX7_bookAll RX7) {post : Int32 → List va_W → Prop} (HR : yRi Z ({ frames := 7, cells := 0, slots := 0, locals := 164 } : Room) cX7_bookAll .int post 0 0) {K : Int32 → MV → Prop} (hK : ∀ (r0 : Int32) (m : MV), K r0 m → post r0 ([modW g M m] : List va_W)) {I28 : Nat → MV → Int32 → Prop} (o28 : ∀ (w0 : Nat) (m : MV) (x1 : Int32), I28 w0 m x1 → wp_X7_bookAll_28  (fun (m9 : MV) (x19 : Int32) => ∃ w9, w9 < w0 ∧ I28 w9 m9 x19) K m x1) : ∀ w0 : Nat, (∀ (m : MV) (x1 : Int32), I28 w0 m x1 → yJ Z ({ frames := 7, cells := 0, slots := 0, locals := 164 } : Room) 0 0 ([modW g M m] : List va_W) 28 [(0, .ref (M 0)), (1, .int x1)] []) := by
  intro w0
  induction w0 using Nat.strongRecOn with
  | _ w0 ih =>
    exact fun m x1 hi => w_X7_bookAll_28 g M C HR (fun m x1 hq => by obtain ⟨w9, hlt, hi⟩ := hq; exact (ih w9 hlt) m x1 hi) hK m x1 (o28 w0 m x1 hi)
set_option maxHeartbeats 4000000 in
set_option maxRecDepth 100000 in
theorem t_X7_bookAll (g : yG) (M : Nat → Nat) (m : MV)  {post : Int32 → List va_W → Prop} {K : Int32 → MV → Prop} (hK : ∀ (r0 : Int32) (m : MV), K r0 m → post r0 ([modW g M m] : List va_W)) (hPO : PO_X7_bookAll  K m ) : yM g yX7_bookAll wsX7_bookAll ({ frames := 7, cells := 0, slots := 0, locals := 164 } : Room) [.ref (M 0)] ([modW g M m] : List va_W) post 0 0 := by
  refine y_entryI (cc := cX7_bookAll) (maxL := 2) (by decide +kernel) rfl (Nat.le_of_ble_eq_true rfl) (fun Z C HR => ?_)
  have C : yC Z g cX7_bookAll 2 wsX7_bookAll RX7 := C
  obtain ⟨I28, o28, h⟩ := hPO
  have hX28 : ∀ (m : MV) (x1 : Int32), (fun (m9 : MV) (x19 : Int32) => ∃ w9, I28 w9 m9 x19) m x1 → yJ Z ({ frames := 7, cells := 0, slots := 0, locals := 164 } : Room) 0 0 ([modW g M m] : List va_W) 28 [(0, .ref (M 0)), (1, .int x1)] [] := by
    intro m x1 hq
    obtain ⟨w9, hi⟩ := hq
    exact (l_X7_bookAll g M C HR hK o28 w9) m x1 hi
  unfold wp_X7_bookAll_0 at h
  show yJ Z _ 0 0 _ 0 [(0, .ref (M 0))] []
  refine y_aload_n C dX7_bookAll_0 0 rfl rfl ?_
  refine y_iconst (v := 0) C dX7_bookAll_1 (by decide) ?_
  obtain ⟨m1, em1⟩ : ∃ z : MV, z = mI m 0 (0 : Int32) := ⟨_, rfl⟩
  have h := y_letP h em1
  refine y_put (Cn := RX7) (T := TX7) (N := 26) (v := .int (0 : Int32)) (ty0 := tyX7) (L1 := ([modW g M m1] : List va_W)) C dX7_bookAll_2 hX7_bookAll_X7 0 (sh_5000 g M m) rfl 0 (Nat.le_of_ble_eq_true rfl) kX7_bookAll_1 tyX7_ok nmX7 rfl rfl rfl (Nat.le_of_ble_eq_true rfl) (sh_5029 g M m (0 : Int32) m1 em1) ?_
  refine y_aload_n C dX7_bookAll_5 0 rfl rfl ?_
  refine y_callV (As := []) (rest := []) C dX7_bookAll_6 (u_X7_reads g M m1 h) rfl rfl rfl rfl ⟨Nat.le_of_ble_eq_true rfl, Nat.le_of_ble_eq_true rfl⟩ gX7_bookAll_X7_reads (nA := 0) (by decide +kernel) rfl (sh_5010 g M m1) (Nat.le_of_ble_eq_true rfl) ⟨Nat.le_of_ble_eq_true rfl, Nat.le_of_ble_eq_true rfl⟩ [0] [] (nB := 1) rfl (by decide +kernel) (sh_5009 g M m1) (fun r4 w9 hw => ?_)
  obtain ⟨m2, h, rfl⟩ := hw
  refine ⟨([modW g M m2] : List va_W), (sh_5023 g M m1 m2), ?_⟩
  refine y_bipush (v := -6) C dX7_bookAll_9 (by decide) ?_
  refine y_icmp_eq (tgt := 17) C dX7_bookAll_11 rfl h (fun c11 h => ?_) (fun c11 h => ?_)
  · refine y_aload_n C dX7_bookAll_17 0 rfl rfl ?_
    refine y_callVv (As := []) (rest := []) C dX7_bookAll_18 (u_X7_records g M m2 h) rfl rfl rfl rfl ⟨Nat.le_of_ble_eq_true rfl, Nat.le_of_ble_eq_true rfl⟩ gX7_bookAll_X7_records (nA := 0) (by decide +kernel) rfl (sh_5010 g M m2) (Nat.le_of_ble_eq_true rfl) ⟨Nat.le_of_ble_eq_true rfl, Nat.le_of_ble_eq_true rfl⟩ [0] [] (nB := 1) rfl (by decide +kernel) (sh_5009 g M m2) (fun w9 hw => ?_)
    obtain ⟨m5, h, rfl⟩ := hw
    refine ⟨([modW g M m5] : List va_W), (sh_5023 g M m2 m5), ?_⟩
    refine y_aload_n C dX7_bookAll_21 0 rfl rfl ?_
    refine y_iconst (v := 0) C dX7_bookAll_22 (by decide) ?_
    obtain ⟨m7, em7⟩ : ∃ z : MV, z = mI m5 8 (0 : Int32) := ⟨_, rfl⟩
    have h := y_letP h em7
    refine y_put (Cn := RX7) (T := TX7) (N := 26) (v := .int (0 : Int32)) (ty0 := tyX7) (L1 := ([modW g M m7] : List va_W)) C dX7_bookAll_23 hX7_bookAll_X7 0 (sh_5000 g M m5) rfl 8 (Nat.le_of_ble_eq_true rfl) kX7_bookAll_2 tyX7_ok nmX7 rfl rfl rfl (Nat.le_of_ble_eq_true rfl) (sh_5030 g M m5 (0 : Int32) m7 em7) ?_
    refine y_iconst (v := 0) C dX7_bookAll_26 (by decide) ?_
    refine y_istore_n (lv' := [(1, .int (0 : Int32)), (0, .ref (M 0))]) C dX7_bookAll_27 rfl (Nat.le_of_ble_eq_true rfl) rfl ?_
    refine y_sub (lv' := [(0, .ref (M 0)), (1, .int (0 : Int32))]) [1, 0] rfl ?_
    exact hX28 _ _ h
  · refine y_bipush (v := -3) C dX7_bookAll_14 (by decide) ?_
    exact HR 16 dX7_bookAll_16 (-3 : Int32) _ _ _ _ (rfl) (Nat.le_of_ble_eq_true rfl) (Nat.le_of_ble_eq_true rfl) (hK _ _  h)
theorem u_X7_bookAll (g : yG) (M : Nat → Nat) (m : MV)  {K : Int32 → MV → Prop} (hPO : PO_X7_bookAll  K m ) : yM g yX7_bookAll wsX7_bookAll ({ frames := 7, cells := 0, slots := 0, locals := 164 } : Room) [.ref (M 0)] ([modW g M m] : List va_W) (fun r w => ∃ m' : MV, K r m' ∧ w = ([modW g M m'] : List va_W)) 0 0 :=
  t_X7_bookAll g M m  (fun r0 m hk => ⟨m, hk, rfl⟩) hPO
