theorem dX7_books_0 : decode cX7_books 0 = .ok (.aload_n 0, 1) := by decide +kernel
theorem dX7_books_1 : decode cX7_books 1 = .ok (.aload_n 0, 1) := by decide +kernel
theorem dX7_books_2 : decode cX7_books 2 = .ok (.getfield 7, 3) := by decide +kernel
theorem dX7_books_5 : decode cX7_books 5 = .ok (.iconst 4, 1) := by decide +kernel
theorem dX7_books_6 : decode cX7_books 6 = .ok (.iaload, 1) := by decide +kernel
theorem dX7_books_7 : decode cX7_books 7 = .ok (.aload_n 0, 1) := by decide +kernel
theorem dX7_books_8 : decode cX7_books 8 = .ok (.getfield 126, 3) := by decide +kernel
theorem dX7_books_11 : decode cX7_books 11 = .ok (.aload_n 0, 1) := by decide +kernel
theorem dX7_books_12 : decode cX7_books 12 = .ok (.getfield 129, 3) := by decide +kernel
theorem dX7_books_15 : decode cX7_books 15 = .ok (.invokevirtual 123, 3) := by decide +kernel
theorem dX7_books_18 : decode cX7_books 18 = .ok (.aload_n 0, 1) := by decide +kernel
theorem dX7_books_19 : decode cX7_books 19 = .ok (.getfield 7, 3) := by decide +kernel
theorem dX7_books_22 : decode cX7_books 22 = .ok (.bipush 8, 2) := by decide +kernel
theorem dX7_books_24 : decode cX7_books 24 = .ok (.aload_n 0, 1) := by decide +kernel
theorem dX7_books_25 : decode cX7_books 25 = .ok (.invokevirtual 116, 3) := by decide +kernel
theorem dX7_books_28 : decode cX7_books 28 = .ok (.iastore, 1) := by decide +kernel
theorem dX7_books_29 : decode cX7_books 29 = .ok (.iconst 0, 1) := by decide +kernel
theorem dX7_books_30 : decode cX7_books 30 = .ok (.istore_n 1, 1) := by decide +kernel
theorem dX7_books_31 : decode cX7_books 31 = .ok (.iload_n 1, 1) := by decide +kernel
theorem dX7_books_32 : decode cX7_books 32 = .ok (.aload_n 0, 1) := by decide +kernel
theorem dX7_books_33 : decode cX7_books 33 = .ok (.getfield 65, 3) := by decide +kernel
theorem dX7_books_36 : decode cX7_books 36 = .ok (.if_icmp .ge 25, 3) := by decide +kernel
theorem dX7_books_39 : decode cX7_books 39 = .ok (.aload_n 0, 1) := by decide +kernel
theorem dX7_books_40 : decode cX7_books 40 = .ok (.getfield 7, 3) := by decide +kernel
theorem dX7_books_43 : decode cX7_books 43 = .ok (.sipush 152, 3) := by decide +kernel
theorem dX7_books_46 : decode cX7_books 46 = .ok (.iload_n 1, 1) := by decide +kernel
theorem dX7_books_47 : decode cX7_books 47 = .ok (.iadd, 1) := by decide +kernel
theorem dX7_books_48 : decode cX7_books 48 = .ok (.aload_n 0, 1) := by decide +kernel
theorem dX7_books_49 : decode cX7_books 49 = .ok (.getfield 29, 3) := by decide +kernel
theorem dX7_books_52 : decode cX7_books 52 = .ok (.iload_n 1, 1) := by decide +kernel
theorem dX7_books_53 : decode cX7_books 53 = .ok (.iaload, 1) := by decide +kernel
theorem dX7_books_54 : decode cX7_books 54 = .ok (.iastore, 1) := by decide +kernel
theorem dX7_books_55 : decode cX7_books 55 = .ok (.iinc 1 1, 3) := by decide +kernel
theorem dX7_books_58 : decode cX7_books 58 = .ok (.goto (-27), 3) := by decide +kernel
theorem dX7_books_61 : decode cX7_books 61 = .ok (.aload_n 0, 1) := by decide +kernel
theorem dX7_books_62 : decode cX7_books 62 = .ok (.getfield 7, 3) := by decide +kernel
theorem dX7_books_65 : decode cX7_books 65 = .ok (.iconst 5, 1) := by decide +kernel
theorem dX7_books_66 : decode cX7_books 66 = .ok (.aload_n 0, 1) := by decide +kernel
theorem dX7_books_67 : decode cX7_books 67 = .ok (.getfield 65, 3) := by decide +kernel
theorem dX7_books_70 : decode cX7_books 70 = .ok (.iastore, 1) := by decide +kernel
theorem dX7_books_71 : decode cX7_books 71 = .ok (.aload_n 0, 1) := by decide +kernel
theorem dX7_books_72 : decode cX7_books 72 = .ok (.getfield 7, 3) := by decide +kernel
theorem dX7_books_75 : decode cX7_books 75 = .ok (.iconst 4, 1) := by decide +kernel
theorem dX7_books_76 : decode cX7_books 76 = .ok (.dup2, 1) := by decide +kernel
theorem dX7_books_77 : decode cX7_books 77 = .ok (.iaload, 1) := by decide +kernel
theorem dX7_books_78 : decode cX7_books 78 = .ok (.iconst 1, 1) := by decide +kernel
theorem dX7_books_79 : decode cX7_books 79 = .ok (.iadd, 1) := by decide +kernel
theorem dX7_books_80 : decode cX7_books 80 = .ok (.iastore, 1) := by decide +kernel
theorem dX7_books_81 : decode cX7_books 81 = .ok (.aload_n 0, 1) := by decide +kernel
theorem dX7_books_82 : decode cX7_books 82 = .ok (.getfield 7, 3) := by decide +kernel
theorem dX7_books_85 : decode cX7_books 85 = .ok (.iconst 4, 1) := by decide +kernel
theorem dX7_books_86 : decode cX7_books 86 = .ok (.iaload, 1) := by decide +kernel
theorem dX7_books_87 : decode cX7_books 87 = .ok (.iconst 1, 1) := by decide +kernel
theorem dX7_books_88 : decode cX7_books 88 = .ok (.isub, 1) := by decide +kernel
theorem dX7_books_89 : decode cX7_books 89 = .ok (.ireturn, 1) := by decide +kernel
set_option maxRecDepth 20000 in
theorem ggX7_books_X7_laysWay : GoodIn wsX7_books wsX7_laysWay := goodIn_r _ [10, 4, 1, 5, 15, 16, 17, 18, 19, 20, 21, 22, 23, 24, 25, 26, 27, 28, 29, 30, 31, 32, 33, 34, 35, 36, 37, 38, 39, 40] (by decide +kernel) (by decide +kernel)
set_option maxRecDepth 20000 in
theorem gX7_books_X7_laysWay : GoodIn wsX7_books (wsV RX7 123 RX7 yX7_laysWay wsX7_laysWay) := goodIn_app (goodIn_of _ (by decide +kernel)) ggX7_books_X7_laysWay
set_option maxRecDepth 20000 in
theorem ggX7_books_X7_leaving : GoodIn wsX7_books wsX7_leaving := goodIn_r _ [14, 1, 15, 16, 17, 18, 19, 20, 21, 22, 23, 24, 25, 26, 27, 28, 29, 30, 31, 32, 33, 34, 35, 36, 37, 38, 39, 40] (by decide +kernel) (by decide +kernel)
set_option maxRecDepth 20000 in
theorem gX7_books_X7_leaving : GoodIn wsX7_books (wsV RX7 116 RX7 yX7_leaving wsX7_leaving) := goodIn_app (goodIn_of _ (by decide +kernel)) ggX7_books_X7_leaving
theorem kX7_books_4 : Cond.fieldLink RX7 65 "BookedDetoursModel" "wayMany" "I" ∈ wsX7_books := List.mem_of_getElem? (i := 4) (by decide +kernel)
theorem kX7_books_1 : Cond.fieldLink RX7 7 "BookedDetoursModel" "s" "[I" ∈ wsX7_books := List.mem_of_getElem? (i := 1) (by decide +kernel)
theorem kX7_books_5 : Cond.fieldLink RX7 29 "BookedDetoursModel" "way" "[I" ∈ wsX7_books := List.mem_of_getElem? (i := 5) (by decide +kernel)
theorem kX7_books_2 : Cond.fieldLink RX7 126 "BookedDetoursModel" "bestPick" "I" ∈ wsX7_books := List.mem_of_getElem? (i := 2) (by decide +kernel)
theorem kX7_books_3 : Cond.fieldLink RX7 129 "BookedDetoursModel" "bestSet" "I" ∈ wsX7_books := List.mem_of_getElem? (i := 3) (by decide +kernel)
theorem hX7_books_X7 : ∀ w ∈ u_ws RX7 TX7 26, w ∈ wsX7_books := fun _ h => List.mem_cons_of_mem _ (List.mem_append_right _ h)
set_option maxHeartbeats 4000000 in
set_option maxRecDepth 100000 in
theorem w_X7_books_31 {Z : yZ} (g : yG) (M : Nat → Nat) (C : yC Z g cX7_books 2 wsX7_books RX7) {post : Int32 → List va_W → Prop} (HR : yRi Z ({ frames := 1, cells := 0, slots := 0, locals := 25 } : Room) cX7_books .int post 0 0) {X31 : MV → Int32 → Prop} (hX31 : ∀ (m : MV) (x1 : Int32), X31 m x1 → yJ Z ({ frames := 1, cells := 0, slots := 0, locals := 25 } : Room) 0 0 ([modW g M m] : List va_W) 31 [(0, .ref (M 0)), (1, .int x1)] []) {K : Int32 → MV → Prop} (hK : ∀ (r0 : Int32) (m : MV), K r0 m → post r0 ([modW g M m] : List va_W)) (m : MV) (x1 : Int32) (h : wp_X7_books_31  X31 K m x1) : yJ Z ({ frames := 1, cells := 0, slots := 0, locals := 25 } : Room) 0 0 ([modW g M m] : List va_W) 31 [(0, .ref (M 0)), (1, .int x1)] [] := by
  unfold wp_X7_books_31 at h
  refine y_iload_n C dX7_books_31 1 rfl rfl ?_
  refine y_aload_n C dX7_books_32 0 rfl rfl ?_
  refine y_get (Cn := RX7) (T := TX7) (N := 26) (v := .int (m.1 10)) C dX7_books_33 hX7_books_X7 0 (sh_5000 g M m) rfl 10 (Nat.le_of_ble_eq_true rfl) kX7_books_4 rfl ?_
  refine y_icmp_ge (tgt := 61) C dX7_books_36 rfl h (fun c36 h => ?_) (fun c36 h => ?_)
  · refine y_aload_n C dX7_books_61 0 rfl rfl ?_
    refine y_get (Cn := RX7) (T := TX7) (N := 26) (v := .ref (M 1)) C dX7_books_62 hX7_books_X7 0 (sh_5000 g M m) rfl 1 (Nat.le_of_ble_eq_true rfl) kX7_books_1 rfl ?_
    refine y_iconst (v := 5) C dX7_books_65 (by decide) ?_
    refine y_aload_n C dX7_books_66 0 rfl rfl ?_
    refine y_get (Cn := RX7) (T := TX7) (N := 26) (v := .int (m.1 10)) C dX7_books_67 hX7_books_X7 0 (sh_5000 g M m) rfl 10 (Nat.le_of_ble_eq_true rfl) kX7_books_4 rfl ?_
    obtain ⟨hb1, h⟩ := h
    obtain ⟨m2, em2⟩ : ∃ z : MV, z = mA m 1 (5 : Int32).toNatClampNeg (m.1 10) := ⟨_, rfl⟩
    have h := y_letP h em2
    refine y_iast (N := 186) (f := (m.2 1)) (L1 := ([modW g M m2] : List va_W)) C dX7_books_70 1 (sh_5001 g M m) hb1 (sh_5003 g M m (5 : Int32).toNatClampNeg (m.1 10) m2 em2) ?_
    refine y_aload_n C dX7_books_71 0 rfl rfl ?_
    refine y_get (Cn := RX7) (T := TX7) (N := 26) (v := .ref (M 1)) C dX7_books_72 hX7_books_X7 0 (sh_5000 g M m2) rfl 1 (Nat.le_of_ble_eq_true rfl) kX7_books_1 rfl ?_
    refine y_iconst (v := 4) C dX7_books_75 (by decide) ?_
    refine y_dup2 C dX7_books_76 rfl rfl ?_
    obtain ⟨hb3, h⟩ := h
    refine y_iald (N := 186) (f := (m2.2 1)) C dX7_books_77 1 (sh_5001 g M m2) hb3 ?_
    refine y_iconst (v := 1) C dX7_books_78 (by decide) ?_
    refine y_iadd C dX7_books_79 ?_
    obtain ⟨hb4, h⟩ := h
    obtain ⟨m5, em5⟩ : ∃ z : MV, z = mA m2 1 (4 : Int32).toNatClampNeg (((m2.2 1) (4 : Int32).toNatClampNeg) + (1 : Int32)) := ⟨_, rfl⟩
    have h := y_letP h em5
    refine y_iast (N := 186) (f := (m2.2 1)) (L1 := ([modW g M m5] : List va_W)) C dX7_books_80 1 (sh_5001 g M m2) hb4 (sh_5003 g M m2 (4 : Int32).toNatClampNeg (((m2.2 1) (4 : Int32).toNatClampNeg) + (1 : Int32)) m5 em5) ?_
    refine y_aload_n C dX7_books_81 0 rfl rfl ?_
    refine y_get (Cn := RX7) (T := TX7) (N := 26) (v := .ref (M 1)) C dX7_books_82 hX7_books_X7 0 (sh_5000 g M m5) rfl 1 (Nat.le_of_ble_eq_true rfl) kX7_books_1 rfl ?_
    refine y_iconst (v := 4) C dX7_books_85 (by decide) ?_
    obtain ⟨hb6, h⟩ := h
    refine y_iald (N := 186) (f := (m5.2 1)) C dX7_books_86 1 (sh_5001 g M m5) hb6 ?_
    refine y_iconst (v := 1) C dX7_books_87 (by decide) ?_
    refine y_isub C dX7_books_88 ?_
    exact HR 89 dX7_books_89 (((m5.2 1) (4 : Int32).toNatClampNeg) - (1 : Int32)) _ _ _ _ (rfl) (Nat.le_of_ble_eq_true rfl) (Nat.le_of_ble_eq_true rfl) (hK _ _  h)
  · refine y_aload_n C dX7_books_39 0 rfl rfl ?_
    refine y_get (Cn := RX7) (T := TX7) (N := 26) (v := .ref (M 1)) C dX7_books_40 hX7_books_X7 0 (sh_5000 g M m) rfl 1 (Nat.le_of_ble_eq_true rfl) kX7_books_1 rfl ?_
    refine y_sipush (v := 152) C dX7_books_43 (by decide) ?_
    refine y_iload_n C dX7_books_46 1 rfl rfl ?_
    refine y_iadd C dX7_books_47 ?_
    refine y_aload_n C dX7_books_48 0 rfl rfl ?_
    refine y_get (Cn := RX7) (T := TX7) (N := 26) (v := .ref (M 7)) C dX7_books_49 hX7_books_X7 0 (sh_5000 g M m) rfl 9 (Nat.le_of_ble_eq_true rfl) kX7_books_5 rfl ?_
    refine y_iload_n C dX7_books_52 1 rfl rfl ?_
    obtain ⟨hb7, h⟩ := h
    refine y_iald (N := 36) (f := (m.2 9)) C dX7_books_53 7 (sh_5011 g M m) hb7 ?_
    obtain ⟨hb8, h⟩ := h
    obtain ⟨m9, em9⟩ : ∃ z : MV, z = mA m 1 ((152 : Int32) + x1).toNatClampNeg ((m.2 9) x1.toNatClampNeg) := ⟨_, rfl⟩
    have h := y_letP h em9
    refine y_iast (N := 186) (f := (m.2 1)) (L1 := ([modW g M m9] : List va_W)) C dX7_books_54 1 (sh_5001 g M m) hb8 (sh_5003 g M m ((152 : Int32) + x1).toNatClampNeg ((m.2 9) x1.toNatClampNeg) m9 em9) ?_
    refine y_iinc (v := (x1 + (1 : Int32))) (lv' := [(1, .int (x1 + (1 : Int32))), (0, .ref (M 0))]) C dX7_books_55 1 rfl rfl (Nat.le_of_ble_eq_true rfl) rfl ?_
    refine y_goto (tgt := 31) C dX7_books_58 rfl ?_
    refine y_sub (lv' := [(0, .ref (M 0)), (1, .int (x1 + (1 : Int32)))]) [1, 0] rfl ?_
    exact hX31 _ _ h
set_option maxHeartbeats 4000000 in
set_option maxRecDepth 100000 in
theorem l_X7_books {Z : yZ} (g : yG) (M : Nat → Nat) (C : yC Z g cX7_books 2 wsX7_books RX7) {post : Int32 → List va_W → Prop} (HR : yRi Z ({ frames := 1, cells := 0, slots := 0, locals := 25 } : Room) cX7_books .int post 0 0) {K : Int32 → MV → Prop} (hK : ∀ (r0 : Int32) (m : MV), K r0 m → post r0 ([modW g M m] : List va_W)) {I31 : Nat → MV → Int32 → Prop} (o31 : ∀ (w0 : Nat) (m : MV) (x1 : Int32), I31 w0 m x1 → wp_X7_books_31  (fun (m9 : MV) (x19 : Int32) => ∃ w9, w9 < w0 ∧ I31 w9 m9 x19) K m x1) : ∀ w0 : Nat, (∀ (m : MV) (x1 : Int32), I31 w0 m x1 → yJ Z ({ frames := 1, cells := 0, slots := 0, locals := 25 } : Room) 0 0 ([modW g M m] : List va_W) 31 [(0, .ref (M 0)), (1, .int x1)] []) := by
  intro w0
  induction w0 using Nat.strongRecOn with
  | _ w0 ih =>
    exact fun m x1 hi => w_X7_books_31 g M C HR (fun m x1 hq => by obtain ⟨w9, hlt, hi⟩ := hq; exact (ih w9 hlt) m x1 hi) hK m x1 (o31 w0 m x1 hi)
set_option maxHeartbeats 4000000 in
set_option maxRecDepth 100000 in
theorem t_X7_books (g : yG) (M : Nat → Nat) (m : MV)  {post : Int32 → List va_W → Prop} {K : Int32 → MV → Prop} (hK : ∀ (r0 : Int32) (m : MV), K r0 m → post r0 ([modW g M m] : List va_W)) (hPO : PO_X7_books  K m ) : yM g yX7_books wsX7_books ({ frames := 1, cells := 0, slots := 0, locals := 25 } : Room) [.ref (M 0)] ([modW g M m] : List va_W) post 0 0 := by
  refine y_entryI (cc := cX7_books) (maxL := 2) (by decide +kernel) rfl (Nat.le_of_ble_eq_true rfl) (fun Z C HR => ?_)
  have C : yC Z g cX7_books 2 wsX7_books RX7 := C
  obtain ⟨I31, o31, h⟩ := hPO
  have hX31 : ∀ (m : MV) (x1 : Int32), (fun (m9 : MV) (x19 : Int32) => ∃ w9, I31 w9 m9 x19) m x1 → yJ Z ({ frames := 1, cells := 0, slots := 0, locals := 25 } : Room) 0 0 ([modW g M m] : List va_W) 31 [(0, .ref (M 0)), (1, .int x1)] [] := by
    intro m x1 hq
    obtain ⟨w9, hi⟩ := hq
    exact (l_X7_books g M C HR hK o31 w9) m x1 hi
  unfold wp_X7_books_0 at h
  show yJ Z _ 0 0 _ 0 [(0, .ref (M 0))] []
  refine y_aload_n C dX7_books_0 0 rfl rfl ?_
  refine y_aload_n C dX7_books_1 0 rfl rfl ?_
  refine y_get (Cn := RX7) (T := TX7) (N := 26) (v := .ref (M 1)) C dX7_books_2 hX7_books_X7 0 (sh_5000 g M m) rfl 1 (Nat.le_of_ble_eq_true rfl) kX7_books_1 rfl ?_
  refine y_iconst (v := 4) C dX7_books_5 (by decide) ?_
  obtain ⟨hb1, h⟩ := h
  refine y_iald (N := 186) (f := (m.2 1)) C dX7_books_6 1 (sh_5001 g M m) hb1 ?_
  refine y_aload_n C dX7_books_7 0 rfl rfl ?_
  refine y_get (Cn := RX7) (T := TX7) (N := 26) (v := .int (m.1 17)) C dX7_books_8 hX7_books_X7 0 (sh_5000 g M m) rfl 17 (Nat.le_of_ble_eq_true rfl) kX7_books_2 rfl ?_
  refine y_aload_n C dX7_books_11 0 rfl rfl ?_
  refine y_get (Cn := RX7) (T := TX7) (N := 26) (v := .int (m.1 18)) C dX7_books_12 hX7_books_X7 0 (sh_5000 g M m) rfl 18 (Nat.le_of_ble_eq_true rfl) kX7_books_3 rfl ?_
  refine y_callVv (As := [.int ((m.2 1) (4 : Int32).toNatClampNeg), .int (m.1 17), .int (m.1 18)]) (rest := []) C dX7_books_15 (u_X7_laysWay g M m ((m.2 1) (4 : Int32).toNatClampNeg) (m.1 17) (m.1 18) h) rfl rfl rfl rfl ⟨Nat.le_of_ble_eq_true rfl, Nat.le_of_ble_eq_true rfl⟩ gX7_books_X7_laysWay (nA := 3) (by decide +kernel) rfl (sh_5010 g M m) (Nat.le_of_ble_eq_true rfl) ⟨Nat.le_of_ble_eq_true rfl, Nat.le_of_ble_eq_true rfl⟩ [0] [] (nB := 1) rfl (by decide +kernel) (sh_5009 g M m) (fun w9 hw => ?_)
  obtain ⟨m2, h, rfl⟩ := hw
  refine ⟨([modW g M m2] : List va_W), (sh_5023 g M m m2), ?_⟩
  refine y_aload_n C dX7_books_18 0 rfl rfl ?_
  refine y_get (Cn := RX7) (T := TX7) (N := 26) (v := .ref (M 1)) C dX7_books_19 hX7_books_X7 0 (sh_5000 g M m2) rfl 1 (Nat.le_of_ble_eq_true rfl) kX7_books_1 rfl ?_
  refine y_bipush (v := 8) C dX7_books_22 (by decide) ?_
  refine y_aload_n C dX7_books_24 0 rfl rfl ?_
  refine y_callV (As := []) (rest := [.int (8 : Int32), .ref (M 1)]) C dX7_books_25 (u_X7_leaving g M m2 h) rfl rfl rfl rfl ⟨Nat.le_of_ble_eq_true rfl, Nat.le_of_ble_eq_true rfl⟩ gX7_books_X7_leaving (nA := 0) (by decide +kernel) rfl (sh_5010 g M m2) (Nat.le_of_ble_eq_true rfl) ⟨Nat.le_of_ble_eq_true rfl, Nat.le_of_ble_eq_true rfl⟩ [0] [] (nB := 1) rfl (by decide +kernel) (sh_5009 g M m2) (fun r4 w9 hw => ?_)
  obtain ⟨h, rfl⟩ := hw
  refine ⟨([modW g M m2] : List va_W), ⟨(sh_5009 g M m2), rfl, rfl⟩, ?_⟩
  obtain ⟨hb5, h⟩ := h
  obtain ⟨m6, em6⟩ : ∃ z : MV, z = mA m2 1 (8 : Int32).toNatClampNeg r4 := ⟨_, rfl⟩
  have h := y_letP h em6
  refine y_iast (N := 186) (f := (m2.2 1)) (L1 := ([modW g M m6] : List va_W)) C dX7_books_28 1 (sh_5001 g M m2) hb5 (sh_5003 g M m2 (8 : Int32).toNatClampNeg r4 m6 em6) ?_
  refine y_iconst (v := 0) C dX7_books_29 (by decide) ?_
  refine y_istore_n (lv' := [(1, .int (0 : Int32)), (0, .ref (M 0))]) C dX7_books_30 rfl (Nat.le_of_ble_eq_true rfl) rfl ?_
  refine y_sub (lv' := [(0, .ref (M 0)), (1, .int (0 : Int32))]) [1, 0] rfl ?_
  exact hX31 _ _ h
theorem u_X7_books (g : yG) (M : Nat → Nat) (m : MV)  {K : Int32 → MV → Prop} (hPO : PO_X7_books  K m ) : yM g yX7_books wsX7_books ({ frames := 1, cells := 0, slots := 0, locals := 25 } : Room) [.ref (M 0)] ([modW g M m] : List va_W) (fun r w => ∃ m' : MV, K r m' ∧ w = ([modW g M m'] : List va_W)) 0 0 :=
  t_X7_books g M m  (fun r0 m hk => ⟨m, hk, rfl⟩) hPO
theorem dX7_book_0 : decode cX7_book 0 = .ok (.aload_n 0, 1) := by decide +kernel
theorem dX7_book_1 : decode cX7_book 1 = .ok (.iconst 0, 1) := by decide +kernel
theorem dX7_book_2 : decode cX7_book 2 = .ok (.putfield 44, 3) := by decide +kernel
theorem dX7_book_5 : decode cX7_book 5 = .ok (.aload_n 0, 1) := by decide +kernel
theorem dX7_book_6 : decode cX7_book 6 = .ok (.iload_n 1, 1) := by decide +kernel
theorem dX7_book_7 : decode cX7_book 7 = .ok (.iload_n 2, 1) := by decide +kernel
theorem dX7_book_8 : decode cX7_book 8 = .ok (.iload_n 3, 1) := by decide +kernel
theorem dX7_book_9 : decode cX7_book 9 = .ok (.iload 4, 2) := by decide +kernel
theorem dX7_book_11 : decode cX7_book 11 = .ok (.invokevirtual 146, 3) := by decide +kernel
theorem dX7_book_14 : decode cX7_book 14 = .ok (.istore 5, 2) := by decide +kernel
theorem dX7_book_16 : decode cX7_book 16 = .ok (.iload 5, 2) := by decide +kernel
theorem dX7_book_18 : decode cX7_book 18 = .ok (.ifCond .eq 6, 3) := by decide +kernel
theorem dX7_book_21 : decode cX7_book 21 = .ok (.iload 5, 2) := by decide +kernel
theorem dX7_book_23 : decode cX7_book 23 = .ok (.ireturn, 1) := by decide +kernel
theorem dX7_book_24 : decode cX7_book 24 = .ok (.aload_n 0, 1) := by decide +kernel
theorem dX7_book_25 : decode cX7_book 25 = .ok (.invokevirtual 149, 3) := by decide +kernel
theorem dX7_book_28 : decode cX7_book 28 = .ok (.aload_n 0, 1) := by decide +kernel
theorem dX7_book_29 : decode cX7_book 29 = .ok (.invokevirtual 152, 3) := by decide +kernel
theorem dX7_book_32 : decode cX7_book 32 = .ok (.ireturn, 1) := by decide +kernel
set_option maxRecDepth 20000 in
theorem ggX7_book_X7_refusesBook : GoodIn wsX7_book wsX7_refusesBook := goodIn_r _ [6, 7, 8, 9, 10, 5, 11, 12, 13, 14, 15, 16, 17, 18, 19, 20, 21, 22, 23, 24, 25, 26, 27, 28, 29, 30, 31, 32, 33, 34, 35, 36, 37, 38, 39, 40, 41, 42, 43, 44, 45, 46, 47, 48, 49, 50, 51, 52, 53, 54, 55, 56, 57, 58, 59, 60, 61, 62, 63, 64, 65, 66, 67, 68, 69, 70, 71, 72, 73, 74, 75, 76, 77, 78, 79, 80, 81, 82, 83, 84, 85, 86, 87, 88, 89, 90, 101, 102, 103, 104, 105, 106, 107, 108, 109, 110, 111, 112, 113, 114, 115, 116, 117, 118, 119, 120, 121, 122, 123, 124, 125, 126] (by decide +kernel) (by decide +kernel)
set_option maxRecDepth 20000 in
theorem gX7_book_X7_refusesBook : GoodIn wsX7_book (wsV RX7 146 RX7 yX7_refusesBook wsX7_refusesBook) := goodIn_app (goodIn_of _ (by decide +kernel)) ggX7_book_X7_refusesBook
set_option maxRecDepth 20000 in
theorem ggX7_book_X7_records : GoodIn wsX7_book wsX7_records := goodIn_r _ [94, 95, 96, 7, 101, 102, 103, 104, 105, 106, 107, 108, 109, 110, 111, 112, 113, 114, 115, 116, 117, 118, 119, 120, 121, 122, 123, 124, 125, 126] (by decide +kernel) (by decide +kernel)
set_option maxRecDepth 20000 in
theorem gX7_book_X7_records : GoodIn wsX7_book (wsV RX7 149 RX7 yX7_records wsX7_records) := goodIn_app (goodIn_of _ (by decide +kernel)) ggX7_book_X7_records
set_option maxRecDepth 20000 in
theorem ggX7_book_X7_books : GoodIn wsX7_book wsX7_books := goodIn_r _ [100, 7, 37, 38, 51, 52, 47, 48, 49, 5, 50, 39, 40, 41, 42, 101, 102, 103, 104, 105, 106, 107, 108, 109, 110, 111, 112, 113, 114, 115, 116, 117, 118, 119, 120, 121, 122, 123, 124, 125, 126] (by decide +kernel) (by decide +kernel)
set_option maxRecDepth 20000 in
theorem gX7_book_X7_books : GoodIn wsX7_book (wsV RX7 152 RX7 yX7_books wsX7_books) := goodIn_app (goodIn_of _ (by decide +kernel)) ggX7_book_X7_books
theorem kX7_book_1 : Cond.fieldLink RX7 44 "BookedDetoursModel" "thrown" "I" ∈ wsX7_book := List.mem_of_getElem? (i := 1) (by decide +kernel)
theorem hX7_book_X7 : ∀ w ∈ u_ws RX7 TX7 26, w ∈ wsX7_book := fun _ h => List.mem_cons_of_mem _ (List.mem_append_right _ h)
set_option maxHeartbeats 4000000 in
set_option maxRecDepth 100000 in
theorem t_X7_book (g : yG) (M : Nat → Nat) (m : MV) (fr : Int32) (to : Int32) (wa : Int32) (bt : Int32) {post : Int32 → List va_W → Prop} {K : Int32 → MV → Prop} (hK : ∀ (r0 : Int32) (m : MV), K r0 m → post r0 ([modW g M m] : List va_W)) (hPO : PO_X7_book fr to wa bt K m ) : yM g yX7_book wsX7_book ({ frames := 7, cells := 0, slots := 0, locals := 164 } : Room) [.ref (M 0), .int fr, .int to, .int wa, .int bt] ([modW g M m] : List va_W) post 0 0 := by
  refine y_entryI (cc := cX7_book) (maxL := 6) (by decide +kernel) rfl (Nat.le_of_ble_eq_true rfl) (fun Z C HR => ?_)
  have C : yC Z g cX7_book 6 wsX7_book RX7 := C
  have h := hPO
  unfold PO_X7_book wp_X7_book_0 at h
  show yJ Z _ 0 0 _ 0 [(0, .ref (M 0)), (1, .int fr), (2, .int to), (3, .int wa), (4, .int bt)] []
  refine y_aload_n C dX7_book_0 0 rfl rfl ?_
  refine y_iconst (v := 0) C dX7_book_1 (by decide) ?_
  obtain ⟨m1, em1⟩ : ∃ z : MV, z = mI m 0 (0 : Int32) := ⟨_, rfl⟩
  have h := y_letP h em1
  refine y_put (Cn := RX7) (T := TX7) (N := 26) (v := .int (0 : Int32)) (ty0 := tyX7) (L1 := ([modW g M m1] : List va_W)) C dX7_book_2 hX7_book_X7 0 (sh_5000 g M m) rfl 0 (Nat.le_of_ble_eq_true rfl) kX7_book_1 tyX7_ok nmX7 rfl rfl rfl (Nat.le_of_ble_eq_true rfl) (sh_5029 g M m (0 : Int32) m1 em1) ?_
  refine y_aload_n C dX7_book_5 0 rfl rfl ?_
  refine y_iload_n C dX7_book_6 1 rfl rfl ?_
  refine y_iload_n C dX7_book_7 2 rfl rfl ?_
  refine y_iload_n C dX7_book_8 3 rfl rfl ?_
  refine y_iload C dX7_book_9 4 rfl ?_
  refine y_callV (As := [.int fr, .int to, .int wa, .int bt]) (rest := []) C dX7_book_11 (u_X7_refusesBook g M m1 fr to wa bt h) rfl rfl rfl rfl ⟨Nat.le_of_ble_eq_true rfl, Nat.le_of_ble_eq_true rfl⟩ gX7_book_X7_refusesBook (nA := 4) (by decide +kernel) rfl (sh_5010 g M m1) (Nat.le_of_ble_eq_true rfl) ⟨Nat.le_of_ble_eq_true rfl, Nat.le_of_ble_eq_true rfl⟩ [0] [] (nB := 1) rfl (by decide +kernel) (sh_5009 g M m1) (fun r4 w9 hw => ?_)
  obtain ⟨m2, h, rfl⟩ := hw
  refine ⟨([modW g M m2] : List va_W), (sh_5023 g M m1 m2), ?_⟩
  refine y_istore (lv' := [(5, .int r4), (0, .ref (M 0)), (1, .int fr), (2, .int to), (3, .int wa), (4, .int bt)]) C dX7_book_14 (Nat.le_of_ble_eq_true rfl) rfl ?_
  refine y_iload C dX7_book_16 0 rfl ?_
  refine y_if_eq (tgt := 24) C dX7_book_18 rfl h (fun c18 h => ?_) (fun c18 h => ?_)
  · refine y_aload_n C dX7_book_24 1 rfl rfl ?_
    refine y_callVv (As := []) (rest := []) C dX7_book_25 (u_X7_records g M m2 h) rfl rfl rfl rfl ⟨Nat.le_of_ble_eq_true rfl, Nat.le_of_ble_eq_true rfl⟩ gX7_book_X7_records (nA := 0) (by decide +kernel) rfl (sh_5010 g M m2) (Nat.le_of_ble_eq_true rfl) ⟨Nat.le_of_ble_eq_true rfl, Nat.le_of_ble_eq_true rfl⟩ [0] [] (nB := 1) rfl (by decide +kernel) (sh_5009 g M m2) (fun w9 hw => ?_)
    obtain ⟨m5, h, rfl⟩ := hw
    refine ⟨([modW g M m5] : List va_W), (sh_5023 g M m2 m5), ?_⟩
    refine y_aload_n C dX7_book_28 1 rfl rfl ?_
    refine y_callV (As := []) (rest := []) C dX7_book_29 (u_X7_books g M m5 h) rfl rfl rfl rfl ⟨Nat.le_of_ble_eq_true rfl, Nat.le_of_ble_eq_true rfl⟩ gX7_book_X7_books (nA := 0) (by decide +kernel) rfl (sh_5010 g M m5) (Nat.le_of_ble_eq_true rfl) ⟨Nat.le_of_ble_eq_true rfl, Nat.le_of_ble_eq_true rfl⟩ [0] [] (nB := 1) rfl (by decide +kernel) (sh_5009 g M m5) (fun r9 w9 hw => ?_)
    obtain ⟨m7, h, rfl⟩ := hw
    refine ⟨([modW g M m7] : List va_W), (sh_5023 g M m5 m7), ?_⟩
    exact HR 32 dX7_book_32 r9 _ _ _ _ (rfl) (Nat.le_of_ble_eq_true rfl) (Nat.le_of_ble_eq_true rfl) (hK _ _  h)
  · refine y_iload C dX7_book_21 0 rfl ?_
    exact HR 23 dX7_book_23 r4 _ _ _ _ (rfl) (Nat.le_of_ble_eq_true rfl) (Nat.le_of_ble_eq_true rfl) (hK _ _  h)
theorem u_X7_book (g : yG) (M : Nat → Nat) (m : MV) (fr : Int32) (to : Int32) (wa : Int32) (bt : Int32) {K : Int32 → MV → Prop} (hPO : PO_X7_book fr to wa bt K m ) : yM g yX7_book wsX7_book ({ frames := 7, cells := 0, slots := 0, locals := 164 } : Room) [.ref (M 0), .int fr, .int to, .int wa, .int bt] ([modW g M m] : List va_W) (fun r w => ∃ m' : MV, K r m' ∧ w = ([modW g M m'] : List va_W)) 0 0 :=
  t_X7_book g M m fr to wa bt (fun r0 m hk => ⟨m, hk, rfl⟩) hPO
