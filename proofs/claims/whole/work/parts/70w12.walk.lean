theorem dX7_set_0 : decode cX7_set 0 = .ok (.aload_n 0, 1) := by decide +kernel
theorem dX7_set_1 : decode cX7_set 1 = .ok (.iconst 0, 1) := by decide +kernel
theorem dX7_set_2 : decode cX7_set 2 = .ok (.putfield 44, 3) := by decide +kernel
theorem dX7_set_5 : decode cX7_set 5 = .ok (.iload_n 1, 1) := by decide +kernel
theorem dX7_set_6 : decode cX7_set 6 = .ok (.ifCond .ne 13, 3) := by decide +kernel
theorem dX7_set_9 : decode cX7_set 9 = .ok (.iload_n 2, 1) := by decide +kernel
theorem dX7_set_10 : decode cX7_set 10 = .ok (.iconst 1, 1) := by decide +kernel
theorem dX7_set_11 : decode cX7_set 11 = .ok (.bipush 8, 2) := by decide +kernel
theorem dX7_set_13 : decode cX7_set 13 = .ok (.invokestatic 48, 3) := by decide +kernel
theorem dX7_set_16 : decode cX7_set 16 = .ok (.goto 37, 3) := by decide +kernel
theorem dX7_set_19 : decode cX7_set 19 = .ok (.iload_n 1, 1) := by decide +kernel
theorem dX7_set_20 : decode cX7_set 20 = .ok (.iconst 1, 1) := by decide +kernel
theorem dX7_set_21 : decode cX7_set 21 = .ok (.if_icmp .ne 13, 3) := by decide +kernel
theorem dX7_set_24 : decode cX7_set 24 = .ok (.iload_n 2, 1) := by decide +kernel
theorem dX7_set_25 : decode cX7_set 25 = .ok (.iconst 0, 1) := by decide +kernel
theorem dX7_set_26 : decode cX7_set 26 = .ok (.bipush 60, 2) := by decide +kernel
theorem dX7_set_28 : decode cX7_set 28 = .ok (.invokestatic 48, 3) := by decide +kernel
theorem dX7_set_31 : decode cX7_set 31 = .ok (.goto 22, 3) := by decide +kernel
theorem dX7_set_34 : decode cX7_set 34 = .ok (.iload_n 1, 1) := by decide +kernel
theorem dX7_set_35 : decode cX7_set 35 = .ok (.iconst 2, 1) := by decide +kernel
theorem dX7_set_36 : decode cX7_set 36 = .ok (.if_icmp .ne 16, 3) := by decide +kernel
theorem dX7_set_39 : decode cX7_set 39 = .ok (.iload_n 2, 1) := by decide +kernel
theorem dX7_set_40 : decode cX7_set 40 = .ok (.iconst 0, 1) := by decide +kernel
theorem dX7_set_41 : decode cX7_set 41 = .ok (.iconst 5, 1) := by decide +kernel
theorem dX7_set_42 : decode cX7_set 42 = .ok (.invokestatic 48, 3) := by decide +kernel
theorem dX7_set_45 : decode cX7_set 45 = .ok (.ifCond .eq 7, 3) := by decide +kernel
theorem dX7_set_48 : decode cX7_set 48 = .ok (.iconst 1, 1) := by decide +kernel
theorem dX7_set_49 : decode cX7_set 49 = .ok (.goto 4, 3) := by decide +kernel
theorem dX7_set_52 : decode cX7_set 52 = .ok (.iconst 0, 1) := by decide +kernel
theorem dX7_set_53 : decode cX7_set 53 = .ok (.istore_n 3, 1) := by decide +kernel
theorem dX7_set_54 : decode cX7_set 54 = .ok (.iload_n 3, 1) := by decide +kernel
theorem dX7_set_55 : decode cX7_set 55 = .ok (.ifCond .ne 6, 3) := by decide +kernel
theorem dX7_set_58 : decode cX7_set 58 = .ok (.bipush (-2), 2) := by decide +kernel
theorem dX7_set_60 : decode cX7_set 60 = .ok (.ireturn, 1) := by decide +kernel
theorem dX7_set_61 : decode cX7_set 61 = .ok (.aload_n 0, 1) := by decide +kernel
theorem dX7_set_62 : decode cX7_set 62 = .ok (.getfield 7, 3) := by decide +kernel
theorem dX7_set_65 : decode cX7_set 65 = .ok (.iconst 5, 1) := by decide +kernel
theorem dX7_set_66 : decode cX7_set 66 = .ok (.iaload, 1) := by decide +kernel
theorem dX7_set_67 : decode cX7_set 67 = .ok (.ifCond .le 6, 3) := by decide +kernel
theorem dX7_set_70 : decode cX7_set 70 = .ok (.bipush (-5), 2) := by decide +kernel
theorem dX7_set_72 : decode cX7_set 72 = .ok (.ireturn, 1) := by decide +kernel
theorem dX7_set_73 : decode cX7_set 73 = .ok (.aload_n 0, 1) := by decide +kernel
theorem dX7_set_74 : decode cX7_set 74 = .ok (.invokevirtual 149, 3) := by decide +kernel
theorem dX7_set_77 : decode cX7_set 77 = .ok (.aload_n 0, 1) := by decide +kernel
theorem dX7_set_78 : decode cX7_set 78 = .ok (.getfield 7, 3) := by decide +kernel
theorem dX7_set_81 : decode cX7_set 81 = .ok (.iload_n 1, 1) := by decide +kernel
theorem dX7_set_82 : decode cX7_set 82 = .ok (.iaload, 1) := by decide +kernel
theorem dX7_set_83 : decode cX7_set 83 = .ok (.istore 4, 2) := by decide +kernel
theorem dX7_set_85 : decode cX7_set 85 = .ok (.aload_n 0, 1) := by decide +kernel
theorem dX7_set_86 : decode cX7_set 86 = .ok (.getfield 7, 3) := by decide +kernel
theorem dX7_set_89 : decode cX7_set 89 = .ok (.iload_n 1, 1) := by decide +kernel
theorem dX7_set_90 : decode cX7_set 90 = .ok (.iload_n 2, 1) := by decide +kernel
theorem dX7_set_91 : decode cX7_set 91 = .ok (.iastore, 1) := by decide +kernel
theorem dX7_set_92 : decode cX7_set 92 = .ok (.iload 4, 2) := by decide +kernel
theorem dX7_set_94 : decode cX7_set 94 = .ok (.ireturn, 1) := by decide +kernel
set_option maxRecDepth 20000 in
theorem ggX7_set_X7_in : GoodIn wsX7_set wsX7_in := goodIn_r _ [6] (by decide +kernel) (by decide +kernel)
set_option maxRecDepth 20000 in
theorem gX7_set_X7_in : GoodIn wsX7_set (va_wsS RX7 48 yX7_in wsX7_in) := goodIn_app (goodIn_of _ (by decide +kernel)) ggX7_set_X7_in
set_option maxRecDepth 20000 in
theorem ggX7_set_X7_records : GoodIn wsX7_set wsX7_records := goodIn_r _ [10, 11, 12, 2, 13, 14, 15, 16, 17, 18, 19, 20, 21, 22, 23, 24, 25, 26, 27, 28, 29, 30, 31, 32, 33, 34, 35, 36, 37, 38] (by decide +kernel) (by decide +kernel)
set_option maxRecDepth 20000 in
theorem gX7_set_X7_records : GoodIn wsX7_set (wsV RX7 149 RX7 yX7_records wsX7_records) := goodIn_app (goodIn_of _ (by decide +kernel)) ggX7_set_X7_records
theorem kX7_set_1 : Cond.fieldLink RX7 44 "BookedDetoursModel" "thrown" "I" ∈ wsX7_set := List.mem_of_getElem? (i := 1) (by decide +kernel)
theorem kX7_set_2 : Cond.fieldLink RX7 7 "BookedDetoursModel" "s" "[I" ∈ wsX7_set := List.mem_of_getElem? (i := 2) (by decide +kernel)
theorem hX7_set_X7 : ∀ w ∈ u_ws RX7 TX7 26, w ∈ wsX7_set := fun _ h => List.mem_cons_of_mem _ (List.mem_append_right _ h)
set_option maxHeartbeats 4000000 in
set_option maxRecDepth 100000 in
theorem t_X7_set (g : yG) (M : Nat → Nat) (m : MV) (se : Int32) (va : Int32) {post : Int32 → List va_W → Prop} {K : Int32 → MV → Prop} (hK : ∀ (r0 : Int32) (m : MV), K r0 m → post r0 ([modW g M m] : List va_W)) (hPO : PO_X7_set se va K m ) : yM g yX7_set wsX7_set ({ frames := 1, cells := 0, slots := 0, locals := 22 } : Room) [.ref (M 0), .int se, .int va] ([modW g M m] : List va_W) post 0 0 := by
  refine y_entryI (cc := cX7_set) (maxL := 5) (by decide +kernel) rfl (Nat.le_of_ble_eq_true rfl) (fun Z C HR => ?_)
  have C : yC Z g cX7_set 5 wsX7_set RX7 := C
  have h := hPO
  unfold PO_X7_set wp_X7_set_0 at h
  show yJ Z _ 0 0 _ 0 [(0, .ref (M 0)), (1, .int se), (2, .int va)] []
  refine y_aload_n C dX7_set_0 0 rfl rfl ?_
  refine y_iconst (v := 0) C dX7_set_1 (by decide) ?_
  obtain ⟨m1, em1⟩ : ∃ z : MV, z = mI m 0 (0 : Int32) := ⟨_, rfl⟩
  have h := y_letP h em1
  refine y_put (Cn := RX7) (T := TX7) (N := 26) (v := .int (0 : Int32)) (ty0 := tyX7) (L1 := ([modW g M m1] : List va_W)) C dX7_set_2 hX7_set_X7 0 (sh_5000 g M m) rfl 0 (Nat.le_of_ble_eq_true rfl) kX7_set_1 tyX7_ok nmX7 rfl rfl rfl (Nat.le_of_ble_eq_true rfl) (sh_5029 g M m (0 : Int32) m1 em1) ?_
  refine y_iload_n C dX7_set_5 1 rfl rfl ?_
  refine y_if_ne (tgt := 19) C dX7_set_6 rfl h (fun c6 h => ?_) (fun c6 h => ?_)
  · refine y_iload_n C dX7_set_19 1 rfl rfl ?_
    refine y_iconst (v := 1) C dX7_set_20 (by decide) ?_
    refine y_icmp_ne (tgt := 34) C dX7_set_21 rfl h (fun c21 h => ?_) (fun c21 h => ?_)
    · refine y_iload_n C dX7_set_34 1 rfl rfl ?_
      refine y_iconst (v := 2) C dX7_set_35 (by decide) ?_
      refine y_icmp_ne (tgt := 52) C dX7_set_36 rfl h (fun c36 h => ?_) (fun c36 h => ?_)
      · refine y_iconst (v := 0) C dX7_set_52 (by decide) ?_
        refine y_istore_n (lv' := [(3, .int (0 : Int32)), (0, .ref (M 0)), (1, .int se), (2, .int va)]) C dX7_set_53 rfl (Nat.le_of_ble_eq_true rfl) rfl ?_
        refine y_iload_n C dX7_set_54 0 rfl rfl ?_
        refine y_if_ne (tgt := 61) C dX7_set_55 rfl (y_same (c := (0 : Int32) = 0) h) (fun c55 h => ?_) (fun c55 h => ?_)
        · exact absurd (by decide) c55
        · refine y_bipush (v := -2) C dX7_set_58 (by decide) ?_
          exact HR 60 dX7_set_60 (-2 : Int32) _ _ _ _ (rfl) (Nat.le_of_ble_eq_true rfl) (Nat.le_of_ble_eq_true rfl) (hK _ _  h)
      · refine y_iload_n C dX7_set_39 2 rfl rfl ?_
        refine y_iconst (v := 0) C dX7_set_40 (by decide) ?_
        refine y_iconst (v := 5) C dX7_set_41 (by decide) ?_
        refine y_callS (As := [.int va, .int (0 : Int32), .int (5 : Int32)]) (rest := []) C dX7_set_42 (c_X7_in g va (0 : Int32) (5 : Int32)) rfl rfl rfl rfl ⟨Nat.le_of_ble_eq_true rfl, Nat.le_of_ble_eq_true rfl⟩ gX7_set_X7_in (nA := 3) (by decide +kernel) rfl (Nat.le_of_ble_eq_true rfl) ⟨Nat.le_of_ble_eq_true rfl, Nat.le_of_ble_eq_true rfl⟩ [] [0] (nB := 1) rfl (by decide +kernel) (sh_5002 g M m1) (fun r2 w9 hw => ?_)
        obtain ⟨er2, rfl⟩ := hw
        have h := y_letP h er2
        refine ⟨([modW g M m1] : List va_W), ⟨(sh_5002 g M m1), rfl, rfl⟩, ?_⟩
        refine y_if_eq (tgt := 52) C dX7_set_45 rfl h (fun c45 h => ?_) (fun c45 h => ?_)
        · refine y_iconst (v := 0) C dX7_set_52 (by decide) ?_
          refine y_istore_n (lv' := [(3, .int (0 : Int32)), (0, .ref (M 0)), (1, .int se), (2, .int va)]) C dX7_set_53 rfl (Nat.le_of_ble_eq_true rfl) rfl ?_
          refine y_iload_n C dX7_set_54 0 rfl rfl ?_
          refine y_if_ne (tgt := 61) C dX7_set_55 rfl (y_same (c := (0 : Int32) = 0) h) (fun c55 h => ?_) (fun c55 h => ?_)
          · exact absurd (by decide) c55
          · refine y_bipush (v := -2) C dX7_set_58 (by decide) ?_
            exact HR 60 dX7_set_60 (-2 : Int32) _ _ _ _ (rfl) (Nat.le_of_ble_eq_true rfl) (Nat.le_of_ble_eq_true rfl) (hK _ _  h)
        · refine y_iconst (v := 1) C dX7_set_48 (by decide) ?_
          refine y_goto (tgt := 53) C dX7_set_49 rfl ?_
          refine y_istore_n (lv' := [(3, .int (1 : Int32)), (0, .ref (M 0)), (1, .int se), (2, .int va)]) C dX7_set_53 rfl (Nat.le_of_ble_eq_true rfl) rfl ?_
          refine y_iload_n C dX7_set_54 0 rfl rfl ?_
          refine y_if_ne (tgt := 61) C dX7_set_55 rfl (y_same (c := (1 : Int32) = 0) h) (fun c55 h => ?_) (fun c55 h => ?_)
          · refine y_aload_n C dX7_set_61 1 rfl rfl ?_
            refine y_get (Cn := RX7) (T := TX7) (N := 26) (v := .ref (M 1)) C dX7_set_62 hX7_set_X7 0 (sh_5000 g M m1) rfl 1 (Nat.le_of_ble_eq_true rfl) kX7_set_2 rfl ?_
            refine y_iconst (v := 5) C dX7_set_65 (by decide) ?_
            obtain ⟨hb3, h⟩ := h
            refine y_iald (N := 186) (f := (m1.2 1)) C dX7_set_66 1 (sh_5001 g M m1) hb3 ?_
            refine y_if_le (tgt := 73) C dX7_set_67 rfl h (fun c67 h => ?_) (fun c67 h => ?_)
            · refine y_aload_n C dX7_set_73 1 rfl rfl ?_
              refine y_callVv (As := []) (rest := []) C dX7_set_74 (u_X7_records g M m1 h) rfl rfl rfl rfl ⟨Nat.le_of_ble_eq_true rfl, Nat.le_of_ble_eq_true rfl⟩ gX7_set_X7_records (nA := 0) (by decide +kernel) rfl (sh_5010 g M m1) (Nat.le_of_ble_eq_true rfl) ⟨Nat.le_of_ble_eq_true rfl, Nat.le_of_ble_eq_true rfl⟩ [0] [] (nB := 1) rfl (by decide +kernel) (sh_5009 g M m1) (fun w9 hw => ?_)
              obtain ⟨m4, h, rfl⟩ := hw
              refine ⟨([modW g M m4] : List va_W), (sh_5023 g M m1 m4), ?_⟩
              refine y_aload_n C dX7_set_77 1 rfl rfl ?_
              refine y_get (Cn := RX7) (T := TX7) (N := 26) (v := .ref (M 1)) C dX7_set_78 hX7_set_X7 0 (sh_5000 g M m4) rfl 1 (Nat.le_of_ble_eq_true rfl) kX7_set_2 rfl ?_
              refine y_iload_n C dX7_set_81 2 rfl rfl ?_
              obtain ⟨hb6, h⟩ := h
              refine y_iald (N := 186) (f := (m4.2 1)) C dX7_set_82 1 (sh_5001 g M m4) hb6 ?_
              refine y_istore (lv' := [(4, .int ((m4.2 1) se.toNatClampNeg)), (3, .int (1 : Int32)), (0, .ref (M 0)), (1, .int se), (2, .int va)]) C dX7_set_83 (Nat.le_of_ble_eq_true rfl) rfl ?_
              refine y_aload_n C dX7_set_85 2 rfl rfl ?_
              refine y_get (Cn := RX7) (T := TX7) (N := 26) (v := .ref (M 1)) C dX7_set_86 hX7_set_X7 0 (sh_5000 g M m4) rfl 1 (Nat.le_of_ble_eq_true rfl) kX7_set_2 rfl ?_
              refine y_iload_n C dX7_set_89 3 rfl rfl ?_
              refine y_iload_n C dX7_set_90 4 rfl rfl ?_
              obtain ⟨hb7, h⟩ := h
              obtain ⟨m8, em8⟩ : ∃ z : MV, z = mA m4 1 se.toNatClampNeg va := ⟨_, rfl⟩
              have h := y_letP h em8
              refine y_iast (N := 186) (f := (m4.2 1)) (L1 := ([modW g M m8] : List va_W)) C dX7_set_91 1 (sh_5001 g M m4) hb7 (sh_5003 g M m4 se.toNatClampNeg va m8 em8) ?_
              refine y_iload C dX7_set_92 0 rfl ?_
              exact HR 94 dX7_set_94 ((m4.2 1) se.toNatClampNeg) _ _ _ _ (rfl) (Nat.le_of_ble_eq_true rfl) (Nat.le_of_ble_eq_true rfl) (hK _ _  h)
            · refine y_bipush (v := -5) C dX7_set_70 (by decide) ?_
              exact HR 72 dX7_set_72 (-5 : Int32) _ _ _ _ (rfl) (Nat.le_of_ble_eq_true rfl) (Nat.le_of_ble_eq_true rfl) (hK _ _  h)
          · exact absurd c55 (by decide)
    · refine y_iload_n C dX7_set_24 2 rfl rfl ?_
      refine y_iconst (v := 0) C dX7_set_25 (by decide) ?_
      refine y_bipush (v := 60) C dX7_set_26 (by decide) ?_
      refine y_callS (As := [.int va, .int (0 : Int32), .int (60 : Int32)]) (rest := []) C dX7_set_28 (c_X7_in g va (0 : Int32) (60 : Int32)) rfl rfl rfl rfl ⟨Nat.le_of_ble_eq_true rfl, Nat.le_of_ble_eq_true rfl⟩ gX7_set_X7_in (nA := 3) (by decide +kernel) rfl (Nat.le_of_ble_eq_true rfl) ⟨Nat.le_of_ble_eq_true rfl, Nat.le_of_ble_eq_true rfl⟩ [] [0] (nB := 1) rfl (by decide +kernel) (sh_5002 g M m1) (fun r9 w9 hw => ?_)
      obtain ⟨er9, rfl⟩ := hw
      have h := y_letP h er9
      refine ⟨([modW g M m1] : List va_W), ⟨(sh_5002 g M m1), rfl, rfl⟩, ?_⟩
      refine y_goto (tgt := 53) C dX7_set_31 rfl ?_
      refine y_istore_n (lv' := [(3, .int r9), (0, .ref (M 0)), (1, .int se), (2, .int va)]) C dX7_set_53 rfl (Nat.le_of_ble_eq_true rfl) rfl ?_
      refine y_iload_n C dX7_set_54 0 rfl rfl ?_
      refine y_if_ne (tgt := 61) C dX7_set_55 rfl h (fun c55 h => ?_) (fun c55 h => ?_)
      · refine y_aload_n C dX7_set_61 1 rfl rfl ?_
        refine y_get (Cn := RX7) (T := TX7) (N := 26) (v := .ref (M 1)) C dX7_set_62 hX7_set_X7 0 (sh_5000 g M m1) rfl 1 (Nat.le_of_ble_eq_true rfl) kX7_set_2 rfl ?_
        refine y_iconst (v := 5) C dX7_set_65 (by decide) ?_
        obtain ⟨hb10, h⟩ := h
        refine y_iald (N := 186) (f := (m1.2 1)) C dX7_set_66 1 (sh_5001 g M m1) hb10 ?_
        refine y_if_le (tgt := 73) C dX7_set_67 rfl h (fun c67 h => ?_) (fun c67 h => ?_)
        · refine y_aload_n C dX7_set_73 1 rfl rfl ?_
          refine y_callVv (As := []) (rest := []) C dX7_set_74 (u_X7_records g M m1 h) rfl rfl rfl rfl ⟨Nat.le_of_ble_eq_true rfl, Nat.le_of_ble_eq_true rfl⟩ gX7_set_X7_records (nA := 0) (by decide +kernel) rfl (sh_5010 g M m1) (Nat.le_of_ble_eq_true rfl) ⟨Nat.le_of_ble_eq_true rfl, Nat.le_of_ble_eq_true rfl⟩ [0] [] (nB := 1) rfl (by decide +kernel) (sh_5009 g M m1) (fun w9 hw => ?_)
          obtain ⟨m11, h, rfl⟩ := hw
          refine ⟨([modW g M m11] : List va_W), (sh_5023 g M m1 m11), ?_⟩
          refine y_aload_n C dX7_set_77 1 rfl rfl ?_
          refine y_get (Cn := RX7) (T := TX7) (N := 26) (v := .ref (M 1)) C dX7_set_78 hX7_set_X7 0 (sh_5000 g M m11) rfl 1 (Nat.le_of_ble_eq_true rfl) kX7_set_2 rfl ?_
          refine y_iload_n C dX7_set_81 2 rfl rfl ?_
          obtain ⟨hb13, h⟩ := h
          refine y_iald (N := 186) (f := (m11.2 1)) C dX7_set_82 1 (sh_5001 g M m11) hb13 ?_
          refine y_istore (lv' := [(4, .int ((m11.2 1) se.toNatClampNeg)), (3, .int r9), (0, .ref (M 0)), (1, .int se), (2, .int va)]) C dX7_set_83 (Nat.le_of_ble_eq_true rfl) rfl ?_
          refine y_aload_n C dX7_set_85 2 rfl rfl ?_
          refine y_get (Cn := RX7) (T := TX7) (N := 26) (v := .ref (M 1)) C dX7_set_86 hX7_set_X7 0 (sh_5000 g M m11) rfl 1 (Nat.le_of_ble_eq_true rfl) kX7_set_2 rfl ?_
          refine y_iload_n C dX7_set_89 3 rfl rfl ?_
          refine y_iload_n C dX7_set_90 4 rfl rfl ?_
          obtain ⟨hb14, h⟩ := h
          obtain ⟨m15, em15⟩ : ∃ z : MV, z = mA m11 1 se.toNatClampNeg va := ⟨_, rfl⟩
          have h := y_letP h em15
          refine y_iast (N := 186) (f := (m11.2 1)) (L1 := ([modW g M m15] : List va_W)) C dX7_set_91 1 (sh_5001 g M m11) hb14 (sh_5003 g M m11 se.toNatClampNeg va m15 em15) ?_
          refine y_iload C dX7_set_92 0 rfl ?_
          exact HR 94 dX7_set_94 ((m11.2 1) se.toNatClampNeg) _ _ _ _ (rfl) (Nat.le_of_ble_eq_true rfl) (Nat.le_of_ble_eq_true rfl) (hK _ _  h)
        · refine y_bipush (v := -5) C dX7_set_70 (by decide) ?_
          exact HR 72 dX7_set_72 (-5 : Int32) _ _ _ _ (rfl) (Nat.le_of_ble_eq_true rfl) (Nat.le_of_ble_eq_true rfl) (hK _ _  h)
      · refine y_bipush (v := -2) C dX7_set_58 (by decide) ?_
        exact HR 60 dX7_set_60 (-2 : Int32) _ _ _ _ (rfl) (Nat.le_of_ble_eq_true rfl) (Nat.le_of_ble_eq_true rfl) (hK _ _  h)
  · refine y_iload_n C dX7_set_9 2 rfl rfl ?_
    refine y_iconst (v := 1) C dX7_set_10 (by decide) ?_
    refine y_bipush (v := 8) C dX7_set_11 (by decide) ?_
    refine y_callS (As := [.int va, .int (1 : Int32), .int (8 : Int32)]) (rest := []) C dX7_set_13 (c_X7_in g va (1 : Int32) (8 : Int32)) rfl rfl rfl rfl ⟨Nat.le_of_ble_eq_true rfl, Nat.le_of_ble_eq_true rfl⟩ gX7_set_X7_in (nA := 3) (by decide +kernel) rfl (Nat.le_of_ble_eq_true rfl) ⟨Nat.le_of_ble_eq_true rfl, Nat.le_of_ble_eq_true rfl⟩ [] [0] (nB := 1) rfl (by decide +kernel) (sh_5002 g M m1) (fun r16 w9 hw => ?_)
    obtain ⟨er16, rfl⟩ := hw
    have h := y_letP h er16
    refine ⟨([modW g M m1] : List va_W), ⟨(sh_5002 g M m1), rfl, rfl⟩, ?_⟩
    refine y_goto (tgt := 53) C dX7_set_16 rfl ?_
    refine y_istore_n (lv' := [(3, .int r16), (0, .ref (M 0)), (1, .int se), (2, .int va)]) C dX7_set_53 rfl (Nat.le_of_ble_eq_true rfl) rfl ?_
    refine y_iload_n C dX7_set_54 0 rfl rfl ?_
    refine y_if_ne (tgt := 61) C dX7_set_55 rfl h (fun c55 h => ?_) (fun c55 h => ?_)
    · refine y_aload_n C dX7_set_61 1 rfl rfl ?_
      refine y_get (Cn := RX7) (T := TX7) (N := 26) (v := .ref (M 1)) C dX7_set_62 hX7_set_X7 0 (sh_5000 g M m1) rfl 1 (Nat.le_of_ble_eq_true rfl) kX7_set_2 rfl ?_
      refine y_iconst (v := 5) C dX7_set_65 (by decide) ?_
      obtain ⟨hb17, h⟩ := h
      refine y_iald (N := 186) (f := (m1.2 1)) C dX7_set_66 1 (sh_5001 g M m1) hb17 ?_
      refine y_if_le (tgt := 73) C dX7_set_67 rfl h (fun c67 h => ?_) (fun c67 h => ?_)
      · refine y_aload_n C dX7_set_73 1 rfl rfl ?_
        refine y_callVv (As := []) (rest := []) C dX7_set_74 (u_X7_records g M m1 h) rfl rfl rfl rfl ⟨Nat.le_of_ble_eq_true rfl, Nat.le_of_ble_eq_true rfl⟩ gX7_set_X7_records (nA := 0) (by decide +kernel) rfl (sh_5010 g M m1) (Nat.le_of_ble_eq_true rfl) ⟨Nat.le_of_ble_eq_true rfl, Nat.le_of_ble_eq_true rfl⟩ [0] [] (nB := 1) rfl (by decide +kernel) (sh_5009 g M m1) (fun w9 hw => ?_)
        obtain ⟨m18, h, rfl⟩ := hw
        refine ⟨([modW g M m18] : List va_W), (sh_5023 g M m1 m18), ?_⟩
        refine y_aload_n C dX7_set_77 1 rfl rfl ?_
        refine y_get (Cn := RX7) (T := TX7) (N := 26) (v := .ref (M 1)) C dX7_set_78 hX7_set_X7 0 (sh_5000 g M m18) rfl 1 (Nat.le_of_ble_eq_true rfl) kX7_set_2 rfl ?_
        refine y_iload_n C dX7_set_81 2 rfl rfl ?_
        obtain ⟨hb20, h⟩ := h
        refine y_iald (N := 186) (f := (m18.2 1)) C dX7_set_82 1 (sh_5001 g M m18) hb20 ?_
        refine y_istore (lv' := [(4, .int ((m18.2 1) se.toNatClampNeg)), (3, .int r16), (0, .ref (M 0)), (1, .int se), (2, .int va)]) C dX7_set_83 (Nat.le_of_ble_eq_true rfl) rfl ?_
        refine y_aload_n C dX7_set_85 2 rfl rfl ?_
        refine y_get (Cn := RX7) (T := TX7) (N := 26) (v := .ref (M 1)) C dX7_set_86 hX7_set_X7 0 (sh_5000 g M m18) rfl 1 (Nat.le_of_ble_eq_true rfl) kX7_set_2 rfl ?_
        refine y_iload_n C dX7_set_89 3 rfl rfl ?_
        refine y_iload_n C dX7_set_90 4 rfl rfl ?_
        obtain ⟨hb21, h⟩ := h
        obtain ⟨m22, em22⟩ : ∃ z : MV, z = mA m18 1 se.toNatClampNeg va := ⟨_, rfl⟩
        have h := y_letP h em22
        refine y_iast (N := 186) (f := (m18.2 1)) (L1 := ([modW g M m22] : List va_W)) C dX7_set_91 1 (sh_5001 g M m18) hb21 (sh_5003 g M m18 se.toNatClampNeg va m22 em22) ?_
        refine y_iload C dX7_set_92 0 rfl ?_
        exact HR 94 dX7_set_94 ((m18.2 1) se.toNatClampNeg) _ _ _ _ (rfl) (Nat.le_of_ble_eq_true rfl) (Nat.le_of_ble_eq_true rfl) (hK _ _  h)
      · refine y_bipush (v := -5) C dX7_set_70 (by decide) ?_
        exact HR 72 dX7_set_72 (-5 : Int32) _ _ _ _ (rfl) (Nat.le_of_ble_eq_true rfl) (Nat.le_of_ble_eq_true rfl) (hK _ _  h)
    · refine y_bipush (v := -2) C dX7_set_58 (by decide) ?_
      exact HR 60 dX7_set_60 (-2 : Int32) _ _ _ _ (rfl) (Nat.le_of_ble_eq_true rfl) (Nat.le_of_ble_eq_true rfl) (hK _ _  h)
theorem u_X7_set (g : yG) (M : Nat → Nat) (m : MV) (se : Int32) (va : Int32) {K : Int32 → MV → Prop} (hPO : PO_X7_set se va K m ) : yM g yX7_set wsX7_set ({ frames := 1, cells := 0, slots := 0, locals := 22 } : Room) [.ref (M 0), .int se, .int va] ([modW g M m] : List va_W) (fun r w => ∃ m' : MV, K r m' ∧ w = ([modW g M m'] : List va_W)) 0 0 :=
  t_X7_set g M m se va (fun r0 m hk => ⟨m, hk, rfl⟩) hPO
