theorem dX3_length_0 : decode cX3_length 0 = .ok (.aload_n 0, 1) := by decide +kernel
theorem dX3_length_1 : decode cX3_length 1 = .ok (.getfield 19, 3) := by decide +kernel
theorem dX3_length_4 : decode cX3_length 4 = .ok (.ireturn, 1) := by decide +kernel
theorem kX3_length_1 : Cond.fieldLink RX3 19 "BookedDetours$Row" "length" "I" ∈ wsX3_length := List.mem_of_getElem? (i := 1) (by decide +kernel)
theorem hX3_length_X3 : ∀ w ∈ u_ws RX3 TX3 2, w ∈ wsX3_length := fun _ h => List.mem_cons_of_mem _ (List.mem_append_right _ h)
set_option maxHeartbeats 4000000 in
set_option maxRecDepth 100000 in
theorem t_X3_length (g : yG) (r a N : Nat) (n : Int32) (f : Nat → Int32)  {post : Int32 → List va_W → Prop} {K : Int32 → Prop} (hK : ∀ (r0 : Int32), K r0 → post r0 ([[(r, .inr (3, [.ref a, .int n]))], [(a, .inl (g.2.2.1, N, .inl f))]] : List va_W)) (hPO : PO_X3_length N n f K  ) : yM g yX3_length wsX3_length ({ frames := 0, cells := 0, slots := 0, locals := 0 } : Room) [.ref r] ([[(r, .inr (3, [.ref a, .int n]))], [(a, .inl (g.2.2.1, N, .inl f))]] : List va_W) post 0 0 := by
  refine y_entryI (cc := cX3_length) (maxL := 1) (by decide +kernel) rfl (Nat.le_of_ble_eq_true rfl) (fun Z C HR => ?_)
  have C : yC Z g cX3_length 1 wsX3_length RX3 := C
  have h := hPO
  unfold PO_X3_length wp_X3_length_0 at h
  show yJ Z _ 0 0 _ 0 [(0, .ref r)] []
  refine y_aload_n C dX3_length_0 0 rfl rfl ?_
  refine y_get (Cn := RX3) (T := TX3) (N := 2) (v := .int n) C dX3_length_1 hX3_length_X3 0 (sh_0 g r a N n f) rfl 1 (Nat.le_of_ble_eq_true rfl) kX3_length_1 rfl ?_
  exact HR 4 dX3_length_4 n _ _ _ _ (rfl) (Nat.le_of_ble_eq_true rfl) (Nat.le_of_ble_eq_true rfl) (hK _  h)
theorem dX3_at_0 : decode cX3_at 0 = .ok (.iload_n 1, 1) := by decide +kernel
theorem dX3_at_1 : decode cX3_at 1 = .ok (.ifCond .lt 29, 3) := by decide +kernel
theorem dX3_at_4 : decode cX3_at 4 = .ok (.iload_n 1, 1) := by decide +kernel
theorem dX3_at_5 : decode cX3_at 5 = .ok (.aload_n 0, 1) := by decide +kernel
theorem dX3_at_6 : decode cX3_at 6 = .ok (.getfield 19, 3) := by decide +kernel
theorem dX3_at_9 : decode cX3_at 9 = .ok (.if_icmp .ge 21, 3) := by decide +kernel
theorem dX3_at_12 : decode cX3_at 12 = .ok (.iload_n 1, 1) := by decide +kernel
theorem dX3_at_13 : decode cX3_at 13 = .ok (.aload_n 0, 1) := by decide +kernel
theorem dX3_at_14 : decode cX3_at 14 = .ok (.getfield 13, 3) := by decide +kernel
theorem dX3_at_17 : decode cX3_at 17 = .ok (.arraylength, 1) := by decide +kernel
theorem dX3_at_18 : decode cX3_at 18 = .ok (.if_icmp .ge 12, 3) := by decide +kernel
theorem dX3_at_21 : decode cX3_at 21 = .ok (.aload_n 0, 1) := by decide +kernel
theorem dX3_at_22 : decode cX3_at 22 = .ok (.getfield 13, 3) := by decide +kernel
theorem dX3_at_25 : decode cX3_at 25 = .ok (.iload_n 1, 1) := by decide +kernel
theorem dX3_at_26 : decode cX3_at 26 = .ok (.iaload, 1) := by decide +kernel
theorem dX3_at_27 : decode cX3_at 27 = .ok (.goto 4, 3) := by decide +kernel
theorem dX3_at_30 : decode cX3_at 30 = .ok (.iconst 0, 1) := by decide +kernel
theorem dX3_at_31 : decode cX3_at 31 = .ok (.ireturn, 1) := by decide +kernel
theorem kX3_at_1 : Cond.fieldLink RX3 19 "BookedDetours$Row" "length" "I" ∈ wsX3_at := List.mem_of_getElem? (i := 1) (by decide +kernel)
theorem kX3_at_2 : Cond.fieldLink RX3 13 "BookedDetours$Row" "cells" "[I" ∈ wsX3_at := List.mem_of_getElem? (i := 2) (by decide +kernel)
theorem hX3_at_X3 : ∀ w ∈ u_ws RX3 TX3 2, w ∈ wsX3_at := fun _ h => List.mem_cons_of_mem _ (List.mem_append_right _ h)
set_option maxHeartbeats 4000000 in
set_option maxRecDepth 100000 in
theorem t_X3_at (g : yG) (r a N : Nat) (n : Int32) (f : Nat → Int32) (p : Int32) {post : Int32 → List va_W → Prop} {K : Int32 → Prop} (hK : ∀ (r0 : Int32), K r0 → post r0 ([[(r, .inr (3, [.ref a, .int n]))], [(a, .inl (g.2.2.1, N, .inl f))]] : List va_W)) (hPO : PO_X3_at N n f p K  ) : yM g yX3_at wsX3_at ({ frames := 0, cells := 0, slots := 0, locals := 0 } : Room) [.ref r, .int p] ([[(r, .inr (3, [.ref a, .int n]))], [(a, .inl (g.2.2.1, N, .inl f))]] : List va_W) post 0 0 := by
  refine y_entryI (cc := cX3_at) (maxL := 2) (by decide +kernel) rfl (Nat.le_of_ble_eq_true rfl) (fun Z C HR => ?_)
  have C : yC Z g cX3_at 2 wsX3_at RX3 := C
  have h := hPO
  unfold PO_X3_at wp_X3_at_0 at h
  show yJ Z _ 0 0 _ 0 [(0, .ref r), (1, .int p)] []
  refine y_iload_n C dX3_at_0 1 rfl rfl ?_
  refine y_if_lt (tgt := 30) C dX3_at_1 rfl h (fun c1 h => ?_) (fun c1 h => ?_)
  · refine y_iconst (v := 0) C dX3_at_30 (by decide) ?_
    exact HR 31 dX3_at_31 (0 : Int32) _ _ _ _ (rfl) (Nat.le_of_ble_eq_true rfl) (Nat.le_of_ble_eq_true rfl) (hK _  h)
  · refine y_iload_n C dX3_at_4 1 rfl rfl ?_
    refine y_aload_n C dX3_at_5 0 rfl rfl ?_
    refine y_get (Cn := RX3) (T := TX3) (N := 2) (v := .int n) C dX3_at_6 hX3_at_X3 0 (sh_0 g r a N n f) rfl 1 (Nat.le_of_ble_eq_true rfl) kX3_at_1 rfl ?_
    refine y_icmp_ge (tgt := 30) C dX3_at_9 rfl h (fun c9 h => ?_) (fun c9 h => ?_)
    · refine y_iconst (v := 0) C dX3_at_30 (by decide) ?_
      exact HR 31 dX3_at_31 (0 : Int32) _ _ _ _ (rfl) (Nat.le_of_ble_eq_true rfl) (Nat.le_of_ble_eq_true rfl) (hK _  h)
    · refine y_iload_n C dX3_at_12 1 rfl rfl ?_
      refine y_aload_n C dX3_at_13 0 rfl rfl ?_
      refine y_get (Cn := RX3) (T := TX3) (N := 2) (v := .ref a) C dX3_at_14 hX3_at_X3 0 (sh_0 g r a N n f) rfl 0 (Nat.le_of_ble_eq_true rfl) kX3_at_2 rfl ?_
      refine y_alen (N := N) (v := nI N) C dX3_at_17 1 rfl rfl ?_
      refine y_icmp_ge (tgt := 30) C dX3_at_18 rfl h (fun c18 h => ?_) (fun c18 h => ?_)
      · refine y_iconst (v := 0) C dX3_at_30 (by decide) ?_
        exact HR 31 dX3_at_31 (0 : Int32) _ _ _ _ (rfl) (Nat.le_of_ble_eq_true rfl) (Nat.le_of_ble_eq_true rfl) (hK _  h)
      · refine y_aload_n C dX3_at_21 0 rfl rfl ?_
        refine y_get (Cn := RX3) (T := TX3) (N := 2) (v := .ref a) C dX3_at_22 hX3_at_X3 0 (sh_0 g r a N n f) rfl 0 (Nat.le_of_ble_eq_true rfl) kX3_at_2 rfl ?_
        refine y_iload_n C dX3_at_25 1 rfl rfl ?_
        obtain ⟨hb1, h⟩ := h
        refine y_iald (N := N) (f := f) C dX3_at_26 1 rfl hb1 ?_
        refine y_goto (tgt := 31) C dX3_at_27 rfl ?_
        exact HR 31 dX3_at_31 (f p.toNatClampNeg) _ _ _ _ (rfl) (Nat.le_of_ble_eq_true rfl) (Nat.le_of_ble_eq_true rfl) (hK _  h)
theorem dX3_change_0 : decode cX3_change 0 = .ok (.iload_n 1, 1) := by decide +kernel
theorem dX3_change_1 : decode cX3_change 1 = .ok (.ifCond .lt 27, 3) := by decide +kernel
theorem dX3_change_4 : decode cX3_change 4 = .ok (.iload_n 1, 1) := by decide +kernel
theorem dX3_change_5 : decode cX3_change 5 = .ok (.aload_n 0, 1) := by decide +kernel
theorem dX3_change_6 : decode cX3_change 6 = .ok (.getfield 19, 3) := by decide +kernel
theorem dX3_change_9 : decode cX3_change 9 = .ok (.if_icmp .ge 19, 3) := by decide +kernel
theorem dX3_change_12 : decode cX3_change 12 = .ok (.iload_n 1, 1) := by decide +kernel
theorem dX3_change_13 : decode cX3_change 13 = .ok (.aload_n 0, 1) := by decide +kernel
theorem dX3_change_14 : decode cX3_change 14 = .ok (.getfield 13, 3) := by decide +kernel
theorem dX3_change_17 : decode cX3_change 17 = .ok (.arraylength, 1) := by decide +kernel
theorem dX3_change_18 : decode cX3_change 18 = .ok (.if_icmp .ge 10, 3) := by decide +kernel
theorem dX3_change_21 : decode cX3_change 21 = .ok (.aload_n 0, 1) := by decide +kernel
theorem dX3_change_22 : decode cX3_change 22 = .ok (.getfield 13, 3) := by decide +kernel
theorem dX3_change_25 : decode cX3_change 25 = .ok (.iload_n 1, 1) := by decide +kernel
theorem dX3_change_26 : decode cX3_change 26 = .ok (.iload_n 2, 1) := by decide +kernel
theorem dX3_change_27 : decode cX3_change 27 = .ok (.iastore, 1) := by decide +kernel
theorem dX3_change_28 : decode cX3_change 28 = .ok (.return_, 1) := by decide +kernel
theorem kX3_change_1 : Cond.fieldLink RX3 19 "BookedDetours$Row" "length" "I" ∈ wsX3_change := List.mem_of_getElem? (i := 1) (by decide +kernel)
theorem kX3_change_2 : Cond.fieldLink RX3 13 "BookedDetours$Row" "cells" "[I" ∈ wsX3_change := List.mem_of_getElem? (i := 2) (by decide +kernel)
theorem hX3_change_X3 : ∀ w ∈ u_ws RX3 TX3 2, w ∈ wsX3_change := fun _ h => List.mem_cons_of_mem _ (List.mem_append_right _ h)
set_option maxHeartbeats 4000000 in
set_option maxRecDepth 100000 in
theorem t_X3_change (g : yG) (r a N : Nat) (n : Int32) (f : Nat → Int32) (p : Int32) (v : Int32) {post : List va_W → Prop} {K : Int32 → (Nat → Int32) → Prop} (hK : ∀ (n : Int32) (f : Nat → Int32), K n f → post ([[(r, .inr (3, [.ref a, .int n]))], [(a, .inl (g.2.2.1, N, .inl f))]] : List va_W)) (hPO : PO_X3_change N p v K n f ) : yMv g yX3_change wsX3_change ({ frames := 0, cells := 0, slots := 0, locals := 0 } : Room) [.ref r, .int p, .int v] ([[(r, .inr (3, [.ref a, .int n]))], [(a, .inl (g.2.2.1, N, .inl f))]] : List va_W) post 0 0 := by
  refine y_entryV (cc := cX3_change) (maxL := 3) (by decide +kernel) rfl (Nat.le_of_ble_eq_true rfl) (fun Z C _ HR => ?_)
  have C : yC Z g cX3_change 3 wsX3_change RX3 := C
  have h := hPO
  unfold PO_X3_change wp_X3_change_0 at h
  show yJ Z _ 0 0 _ 0 [(0, .ref r), (1, .int p), (2, .int v)] []
  refine y_iload_n C dX3_change_0 1 rfl rfl ?_
  refine y_if_lt (tgt := 28) C dX3_change_1 rfl h (fun c1 h => ?_) (fun c1 h => ?_)
  · exact HR 28 dX3_change_28 _ _ _ _ (Nat.le_of_ble_eq_true rfl) (Nat.le_of_ble_eq_true rfl) (hK _ _  h)
  · refine y_iload_n C dX3_change_4 1 rfl rfl ?_
    refine y_aload_n C dX3_change_5 0 rfl rfl ?_
    refine y_get (Cn := RX3) (T := TX3) (N := 2) (v := .int n) C dX3_change_6 hX3_change_X3 0 (sh_0 g r a N n f) rfl 1 (Nat.le_of_ble_eq_true rfl) kX3_change_1 rfl ?_
    refine y_icmp_ge (tgt := 28) C dX3_change_9 rfl h (fun c9 h => ?_) (fun c9 h => ?_)
    · exact HR 28 dX3_change_28 _ _ _ _ (Nat.le_of_ble_eq_true rfl) (Nat.le_of_ble_eq_true rfl) (hK _ _  h)
    · refine y_iload_n C dX3_change_12 1 rfl rfl ?_
      refine y_aload_n C dX3_change_13 0 rfl rfl ?_
      refine y_get (Cn := RX3) (T := TX3) (N := 2) (v := .ref a) C dX3_change_14 hX3_change_X3 0 (sh_0 g r a N n f) rfl 0 (Nat.le_of_ble_eq_true rfl) kX3_change_2 rfl ?_
      refine y_alen (N := N) (v := nI N) C dX3_change_17 1 rfl rfl ?_
      refine y_icmp_ge (tgt := 28) C dX3_change_18 rfl h (fun c18 h => ?_) (fun c18 h => ?_)
      · exact HR 28 dX3_change_28 _ _ _ _ (Nat.le_of_ble_eq_true rfl) (Nat.le_of_ble_eq_true rfl) (hK _ _  h)
      · refine y_aload_n C dX3_change_21 0 rfl rfl ?_
        refine y_get (Cn := RX3) (T := TX3) (N := 2) (v := .ref a) C dX3_change_22 hX3_change_X3 0 (sh_0 g r a N n f) rfl 0 (Nat.le_of_ble_eq_true rfl) kX3_change_2 rfl ?_
        refine y_iload_n C dX3_change_25 1 rfl rfl ?_
        refine y_iload_n C dX3_change_26 2 rfl rfl ?_
        obtain ⟨hb1, h⟩ := h
        refine y_iast (N := N) (f := f) (L1 := ([[(r, .inr (3, [.ref a, .int n]))], [(a, .inl (g.2.2.1, N, .inl (upd f p.toNatClampNeg v)))]] : List va_W)) C dX3_change_27 1 rfl hb1 rfl ?_
        exact HR 28 dX3_change_28 _ _ _ _ (Nat.le_of_ble_eq_true rfl) (Nat.le_of_ble_eq_true rfl) (hK _ _  h)
theorem dX3_insert_0 : decode cX3_insert 0 = .ok (.iload_n 1, 1) := by decide +kernel
theorem dX3_insert_1 : decode cX3_insert 1 = .ok (.ifCond .lt 30, 3) := by decide +kernel
theorem dX3_insert_4 : decode cX3_insert 4 = .ok (.iload_n 1, 1) := by decide +kernel
theorem dX3_insert_5 : decode cX3_insert 5 = .ok (.aload_n 0, 1) := by decide +kernel
theorem dX3_insert_6 : decode cX3_insert 6 = .ok (.getfield 19, 3) := by decide +kernel
theorem dX3_insert_9 : decode cX3_insert 9 = .ok (.if_icmp .gt 22, 3) := by decide +kernel
theorem dX3_insert_12 : decode cX3_insert 12 = .ok (.aload_n 0, 1) := by decide +kernel
theorem dX3_insert_13 : decode cX3_insert 13 = .ok (.getfield 19, 3) := by decide +kernel
theorem dX3_insert_16 : decode cX3_insert 16 = .ok (.ifCond .lt 15, 3) := by decide +kernel
theorem dX3_insert_19 : decode cX3_insert 19 = .ok (.aload_n 0, 1) := by decide +kernel
theorem dX3_insert_20 : decode cX3_insert 20 = .ok (.getfield 19, 3) := by decide +kernel
theorem dX3_insert_23 : decode cX3_insert 23 = .ok (.aload_n 0, 1) := by decide +kernel
theorem dX3_insert_24 : decode cX3_insert 24 = .ok (.getfield 13, 3) := by decide +kernel
theorem dX3_insert_27 : decode cX3_insert 27 = .ok (.arraylength, 1) := by decide +kernel
theorem dX3_insert_28 : decode cX3_insert 28 = .ok (.if_icmp .lt 4, 3) := by decide +kernel
theorem dX3_insert_31 : decode cX3_insert 31 = .ok (.return_, 1) := by decide +kernel
theorem dX3_insert_32 : decode cX3_insert 32 = .ok (.aload_n 0, 1) := by decide +kernel
theorem dX3_insert_33 : decode cX3_insert 33 = .ok (.getfield 19, 3) := by decide +kernel
theorem dX3_insert_36 : decode cX3_insert 36 = .ok (.istore_n 3, 1) := by decide +kernel
theorem dX3_insert_37 : decode cX3_insert 37 = .ok (.iload_n 3, 1) := by decide +kernel
theorem dX3_insert_38 : decode cX3_insert 38 = .ok (.iload_n 1, 1) := by decide +kernel
theorem dX3_insert_39 : decode cX3_insert 39 = .ok (.if_icmp .le 23, 3) := by decide +kernel
theorem dX3_insert_42 : decode cX3_insert 42 = .ok (.aload_n 0, 1) := by decide +kernel
theorem dX3_insert_43 : decode cX3_insert 43 = .ok (.getfield 13, 3) := by decide +kernel
theorem dX3_insert_46 : decode cX3_insert 46 = .ok (.iload_n 3, 1) := by decide +kernel
theorem dX3_insert_47 : decode cX3_insert 47 = .ok (.aload_n 0, 1) := by decide +kernel
theorem dX3_insert_48 : decode cX3_insert 48 = .ok (.getfield 13, 3) := by decide +kernel
theorem dX3_insert_51 : decode cX3_insert 51 = .ok (.iload_n 3, 1) := by decide +kernel
theorem dX3_insert_52 : decode cX3_insert 52 = .ok (.iconst 1, 1) := by decide +kernel
theorem dX3_insert_53 : decode cX3_insert 53 = .ok (.isub, 1) := by decide +kernel
theorem dX3_insert_54 : decode cX3_insert 54 = .ok (.iaload, 1) := by decide +kernel
theorem dX3_insert_55 : decode cX3_insert 55 = .ok (.iastore, 1) := by decide +kernel
theorem dX3_insert_56 : decode cX3_insert 56 = .ok (.iinc 3 (-1), 3) := by decide +kernel
theorem dX3_insert_59 : decode cX3_insert 59 = .ok (.goto (-22), 3) := by decide +kernel
theorem dX3_insert_62 : decode cX3_insert 62 = .ok (.aload_n 0, 1) := by decide +kernel
theorem dX3_insert_63 : decode cX3_insert 63 = .ok (.getfield 13, 3) := by decide +kernel
theorem dX3_insert_66 : decode cX3_insert 66 = .ok (.iload_n 1, 1) := by decide +kernel
theorem dX3_insert_67 : decode cX3_insert 67 = .ok (.iload_n 2, 1) := by decide +kernel
theorem dX3_insert_68 : decode cX3_insert 68 = .ok (.iastore, 1) := by decide +kernel
theorem dX3_insert_69 : decode cX3_insert 69 = .ok (.aload_n 0, 1) := by decide +kernel
theorem dX3_insert_70 : decode cX3_insert 70 = .ok (.dup, 1) := by decide +kernel
theorem dX3_insert_71 : decode cX3_insert 71 = .ok (.getfield 19, 3) := by decide +kernel
theorem dX3_insert_74 : decode cX3_insert 74 = .ok (.iconst 1, 1) := by decide +kernel
theorem dX3_insert_75 : decode cX3_insert 75 = .ok (.iadd, 1) := by decide +kernel
theorem dX3_insert_76 : decode cX3_insert 76 = .ok (.putfield 19, 3) := by decide +kernel
theorem dX3_insert_79 : decode cX3_insert 79 = .ok (.return_, 1) := by decide +kernel
theorem kX3_insert_2 : Cond.fieldLink RX3 13 "BookedDetours$Row" "cells" "[I" ∈ wsX3_insert := List.mem_of_getElem? (i := 2) (by decide +kernel)
theorem kX3_insert_1 : Cond.fieldLink RX3 19 "BookedDetours$Row" "length" "I" ∈ wsX3_insert := List.mem_of_getElem? (i := 1) (by decide +kernel)
theorem hX3_insert_X3 : ∀ w ∈ u_ws RX3 TX3 2, w ∈ wsX3_insert := fun _ h => List.mem_cons_of_mem _ (List.mem_append_right _ h)
set_option maxHeartbeats 4000000 in
set_option maxRecDepth 100000 in
theorem w_X3_insert_37 {Z : yZ} (g : yG) (r a N : Nat) (p : Int32) (v : Int32) (C : yC Z g cX3_insert 4 wsX3_insert RX3) {post : List va_W → Prop} (HR : yRv Z ({ frames := 0, cells := 0, slots := 0, locals := 0 } : Room) cX3_insert post 0 0) {X37 : Int32 → (Nat → Int32) → Int32 → Prop} (hX37 : ∀ (n : Int32) (f : Nat → Int32) (x3 : Int32), X37 n f x3 → yJ Z ({ frames := 0, cells := 0, slots := 0, locals := 0 } : Room) 0 0 ([[(r, .inr (3, [.ref a, .int n]))], [(a, .inl (g.2.2.1, N, .inl f))]] : List va_W) 37 [(0, .ref r), (1, .int p), (2, .int v), (3, .int x3)] []) {K : Int32 → (Nat → Int32) → Prop} (hK : ∀ (n : Int32) (f : Nat → Int32), K n f → post ([[(r, .inr (3, [.ref a, .int n]))], [(a, .inl (g.2.2.1, N, .inl f))]] : List va_W)) (n : Int32) (f : Nat → Int32) (x3 : Int32) (h : wp_X3_insert_37 N p v X37 K n f x3) : yJ Z ({ frames := 0, cells := 0, slots := 0, locals := 0 } : Room) 0 0 ([[(r, .inr (3, [.ref a, .int n]))], [(a, .inl (g.2.2.1, N, .inl f))]] : List va_W) 37 [(0, .ref r), (1, .int p), (2, .int v), (3, .int x3)] [] := by
  unfold wp_X3_insert_37 at h
  refine y_iload_n C dX3_insert_37 3 rfl rfl ?_
  refine y_iload_n C dX3_insert_38 1 rfl rfl ?_
  refine y_icmp_le (tgt := 62) C dX3_insert_39 rfl h (fun c39 h => ?_) (fun c39 h => ?_)
  · refine y_aload_n C dX3_insert_62 0 rfl rfl ?_
    refine y_get (Cn := RX3) (T := TX3) (N := 2) (v := .ref a) C dX3_insert_63 hX3_insert_X3 0 (sh_0 g r a N n f) rfl 0 (Nat.le_of_ble_eq_true rfl) kX3_insert_2 rfl ?_
    refine y_iload_n C dX3_insert_66 1 rfl rfl ?_
    refine y_iload_n C dX3_insert_67 2 rfl rfl ?_
    obtain ⟨hb1, h⟩ := h
    refine y_iast (N := N) (f := f) (L1 := ([[(r, .inr (3, [.ref a, .int n]))], [(a, .inl (g.2.2.1, N, .inl (upd f p.toNatClampNeg v)))]] : List va_W)) C dX3_insert_68 1 rfl hb1 rfl ?_
    refine y_aload_n C dX3_insert_69 0 rfl rfl ?_
    refine y_dup C dX3_insert_70 rfl ?_
    refine y_get (Cn := RX3) (T := TX3) (N := 2) (v := .int n) C dX3_insert_71 hX3_insert_X3 0 (sh_0 g r a N n (upd f p.toNatClampNeg v)) rfl 1 (Nat.le_of_ble_eq_true rfl) kX3_insert_1 rfl ?_
    refine y_iconst (v := 1) C dX3_insert_74 (by decide) ?_
    refine y_iadd C dX3_insert_75 ?_
    refine y_put (Cn := RX3) (T := TX3) (N := 2) (v := .int (n + (1 : Int32))) (ty0 := tyX3) (L1 := ([[(r, .inr (3, [.ref a, .int (n + (1 : Int32))]))], [(a, .inl (g.2.2.1, N, .inl (upd f p.toNatClampNeg v)))]] : List va_W)) C dX3_insert_76 hX3_insert_X3 0 (sh_0 g r a N n (upd f p.toNatClampNeg v)) rfl 1 (Nat.le_of_ble_eq_true rfl) kX3_insert_1 tyX3_ok nmX3 rfl rfl rfl (Nat.le_of_ble_eq_true rfl) rfl ?_
    exact HR 79 dX3_insert_79 _ _ _ _ (Nat.le_of_ble_eq_true rfl) (Nat.le_of_ble_eq_true rfl) (hK _ _  h)
  · refine y_aload_n C dX3_insert_42 0 rfl rfl ?_
    refine y_get (Cn := RX3) (T := TX3) (N := 2) (v := .ref a) C dX3_insert_43 hX3_insert_X3 0 (sh_0 g r a N n f) rfl 0 (Nat.le_of_ble_eq_true rfl) kX3_insert_2 rfl ?_
    refine y_iload_n C dX3_insert_46 3 rfl rfl ?_
    refine y_aload_n C dX3_insert_47 0 rfl rfl ?_
    refine y_get (Cn := RX3) (T := TX3) (N := 2) (v := .ref a) C dX3_insert_48 hX3_insert_X3 0 (sh_0 g r a N n f) rfl 0 (Nat.le_of_ble_eq_true rfl) kX3_insert_2 rfl ?_
    refine y_iload_n C dX3_insert_51 3 rfl rfl ?_
    refine y_iconst (v := 1) C dX3_insert_52 (by decide) ?_
    refine y_isub C dX3_insert_53 ?_
    obtain ⟨hb2, h⟩ := h
    refine y_iald (N := N) (f := f) C dX3_insert_54 1 rfl hb2 ?_
    obtain ⟨hb3, h⟩ := h
    refine y_iast (N := N) (f := f) (L1 := ([[(r, .inr (3, [.ref a, .int n]))], [(a, .inl (g.2.2.1, N, .inl (upd f x3.toNatClampNeg (f (x3 - (1 : Int32)).toNatClampNeg))))]] : List va_W)) C dX3_insert_55 1 rfl hb3 rfl ?_
    refine y_iinc (v := (x3 + (-1 : Int32))) (lv' := [(3, .int (x3 + (-1 : Int32))), (0, .ref r), (1, .int p), (2, .int v)]) C dX3_insert_56 3 rfl rfl (Nat.le_of_ble_eq_true rfl) rfl ?_
    refine y_goto (tgt := 37) C dX3_insert_59 rfl ?_
    refine y_sub (lv' := [(0, .ref r), (1, .int p), (2, .int v), (3, .int (x3 + (-1 : Int32)))]) [1, 2, 3, 0] rfl ?_
    exact hX37 _ _ _ h
set_option maxHeartbeats 4000000 in
set_option maxRecDepth 100000 in
theorem l_X3_insert {Z : yZ} (g : yG) (r a N : Nat) (p : Int32) (v : Int32) (C : yC Z g cX3_insert 4 wsX3_insert RX3) {post : List va_W → Prop} (HR : yRv Z ({ frames := 0, cells := 0, slots := 0, locals := 0 } : Room) cX3_insert post 0 0) {K : Int32 → (Nat → Int32) → Prop} (hK : ∀ (n : Int32) (f : Nat → Int32), K n f → post ([[(r, .inr (3, [.ref a, .int n]))], [(a, .inl (g.2.2.1, N, .inl f))]] : List va_W)) {I37 : Nat → Int32 → (Nat → Int32) → Int32 → Prop} (o37 : ∀ (w0 : Nat) (n : Int32) (f : Nat → Int32) (x3 : Int32), I37 w0 n f x3 → wp_X3_insert_37 N p v (fun (n9 : Int32) (f9 : Nat → Int32) (x39 : Int32) => ∃ w9, w9 < w0 ∧ I37 w9 n9 f9 x39) K n f x3) : ∀ w0 : Nat, (∀ (n : Int32) (f : Nat → Int32) (x3 : Int32), I37 w0 n f x3 → yJ Z ({ frames := 0, cells := 0, slots := 0, locals := 0 } : Room) 0 0 ([[(r, .inr (3, [.ref a, .int n]))], [(a, .inl (g.2.2.1, N, .inl f))]] : List va_W) 37 [(0, .ref r), (1, .int p), (2, .int v), (3, .int x3)] []) := by
  intro w0
  induction w0 using Nat.strongRecOn with
  | _ w0 ih =>
    exact fun n f x3 hi => w_X3_insert_37 g r a N p v C HR (fun n f x3 hq => by obtain ⟨w9, hlt, hi⟩ := hq; exact (ih w9 hlt) n f x3 hi) hK n f x3 (o37 w0 n f x3 hi)
set_option maxHeartbeats 4000000 in
set_option maxRecDepth 100000 in
theorem t_X3_insert (g : yG) (r a N : Nat) (n : Int32) (f : Nat → Int32) (p : Int32) (v : Int32) {post : List va_W → Prop} {K : Int32 → (Nat → Int32) → Prop} (hK : ∀ (n : Int32) (f : Nat → Int32), K n f → post ([[(r, .inr (3, [.ref a, .int n]))], [(a, .inl (g.2.2.1, N, .inl f))]] : List va_W)) (hPO : PO_X3_insert N p v K n f ) : yMv g yX3_insert wsX3_insert ({ frames := 0, cells := 0, slots := 0, locals := 0 } : Room) [.ref r, .int p, .int v] ([[(r, .inr (3, [.ref a, .int n]))], [(a, .inl (g.2.2.1, N, .inl f))]] : List va_W) post 0 0 := by
  refine y_entryV (cc := cX3_insert) (maxL := 4) (by decide +kernel) rfl (Nat.le_of_ble_eq_true rfl) (fun Z C _ HR => ?_)
  have C : yC Z g cX3_insert 4 wsX3_insert RX3 := C
  obtain ⟨I37, o37, h⟩ := hPO
  have hX37 : ∀ (n : Int32) (f : Nat → Int32) (x3 : Int32), (fun (n9 : Int32) (f9 : Nat → Int32) (x39 : Int32) => ∃ w9, I37 w9 n9 f9 x39) n f x3 → yJ Z ({ frames := 0, cells := 0, slots := 0, locals := 0 } : Room) 0 0 ([[(r, .inr (3, [.ref a, .int n]))], [(a, .inl (g.2.2.1, N, .inl f))]] : List va_W) 37 [(0, .ref r), (1, .int p), (2, .int v), (3, .int x3)] [] := by
    intro n f x3 hq
    obtain ⟨w9, hi⟩ := hq
    exact (l_X3_insert g r a N p v C HR hK o37 w9) n f x3 hi
  unfold wp_X3_insert_0 at h
  show yJ Z _ 0 0 _ 0 [(0, .ref r), (1, .int p), (2, .int v)] []
  refine y_iload_n C dX3_insert_0 1 rfl rfl ?_
  refine y_if_lt (tgt := 31) C dX3_insert_1 rfl h (fun c1 h => ?_) (fun c1 h => ?_)
  · exact HR 31 dX3_insert_31 _ _ _ _ (Nat.le_of_ble_eq_true rfl) (Nat.le_of_ble_eq_true rfl) (hK _ _  h)
  · refine y_iload_n C dX3_insert_4 1 rfl rfl ?_
    refine y_aload_n C dX3_insert_5 0 rfl rfl ?_
    refine y_get (Cn := RX3) (T := TX3) (N := 2) (v := .int n) C dX3_insert_6 hX3_insert_X3 0 (sh_0 g r a N n f) rfl 1 (Nat.le_of_ble_eq_true rfl) kX3_insert_1 rfl ?_
    refine y_icmp_gt (tgt := 31) C dX3_insert_9 rfl h (fun c9 h => ?_) (fun c9 h => ?_)
    · exact HR 31 dX3_insert_31 _ _ _ _ (Nat.le_of_ble_eq_true rfl) (Nat.le_of_ble_eq_true rfl) (hK _ _  h)
    · refine y_aload_n C dX3_insert_12 0 rfl rfl ?_
      refine y_get (Cn := RX3) (T := TX3) (N := 2) (v := .int n) C dX3_insert_13 hX3_insert_X3 0 (sh_0 g r a N n f) rfl 1 (Nat.le_of_ble_eq_true rfl) kX3_insert_1 rfl ?_
      refine y_if_lt (tgt := 31) C dX3_insert_16 rfl h (fun c16 h => ?_) (fun c16 h => ?_)
      · exact HR 31 dX3_insert_31 _ _ _ _ (Nat.le_of_ble_eq_true rfl) (Nat.le_of_ble_eq_true rfl) (hK _ _  h)
      · refine y_aload_n C dX3_insert_19 0 rfl rfl ?_
        refine y_get (Cn := RX3) (T := TX3) (N := 2) (v := .int n) C dX3_insert_20 hX3_insert_X3 0 (sh_0 g r a N n f) rfl 1 (Nat.le_of_ble_eq_true rfl) kX3_insert_1 rfl ?_
        refine y_aload_n C dX3_insert_23 0 rfl rfl ?_
        refine y_get (Cn := RX3) (T := TX3) (N := 2) (v := .ref a) C dX3_insert_24 hX3_insert_X3 0 (sh_0 g r a N n f) rfl 0 (Nat.le_of_ble_eq_true rfl) kX3_insert_2 rfl ?_
        refine y_alen (N := N) (v := nI N) C dX3_insert_27 1 rfl rfl ?_
        refine y_icmp_lt (tgt := 32) C dX3_insert_28 rfl h (fun c28 h => ?_) (fun c28 h => ?_)
        · refine y_aload_n C dX3_insert_32 0 rfl rfl ?_
          refine y_get (Cn := RX3) (T := TX3) (N := 2) (v := .int n) C dX3_insert_33 hX3_insert_X3 0 (sh_0 g r a N n f) rfl 1 (Nat.le_of_ble_eq_true rfl) kX3_insert_1 rfl ?_
          refine y_istore_n (lv' := [(3, .int n), (0, .ref r), (1, .int p), (2, .int v)]) C dX3_insert_36 rfl (Nat.le_of_ble_eq_true rfl) rfl ?_
          refine y_sub (lv' := [(0, .ref r), (1, .int p), (2, .int v), (3, .int n)]) [1, 2, 3, 0] rfl ?_
          exact hX37 _ _ _ h
        · exact HR 31 dX3_insert_31 _ _ _ _ (Nat.le_of_ble_eq_true rfl) (Nat.le_of_ble_eq_true rfl) (hK _ _  h)
theorem dX3_remove_0 : decode cX3_remove 0 = .ok (.iload_n 1, 1) := by decide +kernel
theorem dX3_remove_1 : decode cX3_remove 1 = .ok (.ifCond .lt 23, 3) := by decide +kernel
theorem dX3_remove_4 : decode cX3_remove 4 = .ok (.iload_n 1, 1) := by decide +kernel
theorem dX3_remove_5 : decode cX3_remove 5 = .ok (.aload_n 0, 1) := by decide +kernel
theorem dX3_remove_6 : decode cX3_remove 6 = .ok (.getfield 19, 3) := by decide +kernel
theorem dX3_remove_9 : decode cX3_remove 9 = .ok (.if_icmp .ge 15, 3) := by decide +kernel
theorem dX3_remove_12 : decode cX3_remove 12 = .ok (.aload_n 0, 1) := by decide +kernel
theorem dX3_remove_13 : decode cX3_remove 13 = .ok (.getfield 19, 3) := by decide +kernel
theorem dX3_remove_16 : decode cX3_remove 16 = .ok (.aload_n 0, 1) := by decide +kernel
theorem dX3_remove_17 : decode cX3_remove 17 = .ok (.getfield 13, 3) := by decide +kernel
theorem dX3_remove_20 : decode cX3_remove 20 = .ok (.arraylength, 1) := by decide +kernel
theorem dX3_remove_21 : decode cX3_remove 21 = .ok (.if_icmp .le 4, 3) := by decide +kernel
theorem dX3_remove_24 : decode cX3_remove 24 = .ok (.return_, 1) := by decide +kernel
theorem dX3_remove_25 : decode cX3_remove 25 = .ok (.iload_n 1, 1) := by decide +kernel
theorem dX3_remove_26 : decode cX3_remove 26 = .ok (.iconst 1, 1) := by decide +kernel
theorem dX3_remove_27 : decode cX3_remove 27 = .ok (.iadd, 1) := by decide +kernel
theorem dX3_remove_28 : decode cX3_remove 28 = .ok (.istore_n 2, 1) := by decide +kernel
theorem dX3_remove_29 : decode cX3_remove 29 = .ok (.iload_n 2, 1) := by decide +kernel
theorem dX3_remove_30 : decode cX3_remove 30 = .ok (.aload_n 0, 1) := by decide +kernel
theorem dX3_remove_31 : decode cX3_remove 31 = .ok (.getfield 19, 3) := by decide +kernel
theorem dX3_remove_34 : decode cX3_remove 34 = .ok (.if_icmp .ge 23, 3) := by decide +kernel
theorem dX3_remove_37 : decode cX3_remove 37 = .ok (.aload_n 0, 1) := by decide +kernel
theorem dX3_remove_38 : decode cX3_remove 38 = .ok (.getfield 13, 3) := by decide +kernel
theorem dX3_remove_41 : decode cX3_remove 41 = .ok (.iload_n 2, 1) := by decide +kernel
theorem dX3_remove_42 : decode cX3_remove 42 = .ok (.iconst 1, 1) := by decide +kernel
theorem dX3_remove_43 : decode cX3_remove 43 = .ok (.isub, 1) := by decide +kernel
theorem dX3_remove_44 : decode cX3_remove 44 = .ok (.aload_n 0, 1) := by decide +kernel
theorem dX3_remove_45 : decode cX3_remove 45 = .ok (.getfield 13, 3) := by decide +kernel
theorem dX3_remove_48 : decode cX3_remove 48 = .ok (.iload_n 2, 1) := by decide +kernel
theorem dX3_remove_49 : decode cX3_remove 49 = .ok (.iaload, 1) := by decide +kernel
theorem dX3_remove_50 : decode cX3_remove 50 = .ok (.iastore, 1) := by decide +kernel
theorem dX3_remove_51 : decode cX3_remove 51 = .ok (.iinc 2 1, 3) := by decide +kernel
theorem dX3_remove_54 : decode cX3_remove 54 = .ok (.goto (-25), 3) := by decide +kernel
theorem dX3_remove_57 : decode cX3_remove 57 = .ok (.aload_n 0, 1) := by decide +kernel
theorem dX3_remove_58 : decode cX3_remove 58 = .ok (.dup, 1) := by decide +kernel
theorem dX3_remove_59 : decode cX3_remove 59 = .ok (.getfield 19, 3) := by decide +kernel
theorem dX3_remove_62 : decode cX3_remove 62 = .ok (.iconst 1, 1) := by decide +kernel
theorem dX3_remove_63 : decode cX3_remove 63 = .ok (.isub, 1) := by decide +kernel
theorem dX3_remove_64 : decode cX3_remove 64 = .ok (.putfield 19, 3) := by decide +kernel
theorem dX3_remove_67 : decode cX3_remove 67 = .ok (.return_, 1) := by decide +kernel
theorem kX3_remove_1 : Cond.fieldLink RX3 19 "BookedDetours$Row" "length" "I" ∈ wsX3_remove := List.mem_of_getElem? (i := 1) (by decide +kernel)
theorem kX3_remove_2 : Cond.fieldLink RX3 13 "BookedDetours$Row" "cells" "[I" ∈ wsX3_remove := List.mem_of_getElem? (i := 2) (by decide +kernel)
theorem hX3_remove_X3 : ∀ w ∈ u_ws RX3 TX3 2, w ∈ wsX3_remove := fun _ h => List.mem_cons_of_mem _ (List.mem_append_right _ h)
set_option maxHeartbeats 4000000 in
set_option maxRecDepth 100000 in
theorem w_X3_remove_29 {Z : yZ} (g : yG) (r a N : Nat) (p : Int32) (C : yC Z g cX3_remove 3 wsX3_remove RX3) {post : List va_W → Prop} (HR : yRv Z ({ frames := 0, cells := 0, slots := 0, locals := 0 } : Room) cX3_remove post 0 0) {X29 : Int32 → (Nat → Int32) → Int32 → Prop} (hX29 : ∀ (n : Int32) (f : Nat → Int32) (x2 : Int32), X29 n f x2 → yJ Z ({ frames := 0, cells := 0, slots := 0, locals := 0 } : Room) 0 0 ([[(r, .inr (3, [.ref a, .int n]))], [(a, .inl (g.2.2.1, N, .inl f))]] : List va_W) 29 [(0, .ref r), (2, .int x2)] []) {K : Int32 → (Nat → Int32) → Prop} (hK : ∀ (n : Int32) (f : Nat → Int32), K n f → post ([[(r, .inr (3, [.ref a, .int n]))], [(a, .inl (g.2.2.1, N, .inl f))]] : List va_W)) (n : Int32) (f : Nat → Int32) (x2 : Int32) (h : wp_X3_remove_29 N p X29 K n f x2) : yJ Z ({ frames := 0, cells := 0, slots := 0, locals := 0 } : Room) 0 0 ([[(r, .inr (3, [.ref a, .int n]))], [(a, .inl (g.2.2.1, N, .inl f))]] : List va_W) 29 [(0, .ref r), (2, .int x2)] [] := by
  unfold wp_X3_remove_29 at h
  refine y_iload_n C dX3_remove_29 1 rfl rfl ?_
  refine y_aload_n C dX3_remove_30 0 rfl rfl ?_
  refine y_get (Cn := RX3) (T := TX3) (N := 2) (v := .int n) C dX3_remove_31 hX3_remove_X3 0 (sh_0 g r a N n f) rfl 1 (Nat.le_of_ble_eq_true rfl) kX3_remove_1 rfl ?_
  refine y_icmp_ge (tgt := 57) C dX3_remove_34 rfl h (fun c34 h => ?_) (fun c34 h => ?_)
  · refine y_aload_n C dX3_remove_57 0 rfl rfl ?_
    refine y_dup C dX3_remove_58 rfl ?_
    refine y_get (Cn := RX3) (T := TX3) (N := 2) (v := .int n) C dX3_remove_59 hX3_remove_X3 0 (sh_0 g r a N n f) rfl 1 (Nat.le_of_ble_eq_true rfl) kX3_remove_1 rfl ?_
    refine y_iconst (v := 1) C dX3_remove_62 (by decide) ?_
    refine y_isub C dX3_remove_63 ?_
    refine y_put (Cn := RX3) (T := TX3) (N := 2) (v := .int (n - (1 : Int32))) (ty0 := tyX3) (L1 := ([[(r, .inr (3, [.ref a, .int (n - (1 : Int32))]))], [(a, .inl (g.2.2.1, N, .inl f))]] : List va_W)) C dX3_remove_64 hX3_remove_X3 0 (sh_0 g r a N n f) rfl 1 (Nat.le_of_ble_eq_true rfl) kX3_remove_1 tyX3_ok nmX3 rfl rfl rfl (Nat.le_of_ble_eq_true rfl) rfl ?_
    exact HR 67 dX3_remove_67 _ _ _ _ (Nat.le_of_ble_eq_true rfl) (Nat.le_of_ble_eq_true rfl) (hK _ _  h)
  · refine y_aload_n C dX3_remove_37 0 rfl rfl ?_
    refine y_get (Cn := RX3) (T := TX3) (N := 2) (v := .ref a) C dX3_remove_38 hX3_remove_X3 0 (sh_0 g r a N n f) rfl 0 (Nat.le_of_ble_eq_true rfl) kX3_remove_2 rfl ?_
    refine y_iload_n C dX3_remove_41 1 rfl rfl ?_
    refine y_iconst (v := 1) C dX3_remove_42 (by decide) ?_
    refine y_isub C dX3_remove_43 ?_
    refine y_aload_n C dX3_remove_44 0 rfl rfl ?_
    refine y_get (Cn := RX3) (T := TX3) (N := 2) (v := .ref a) C dX3_remove_45 hX3_remove_X3 0 (sh_0 g r a N n f) rfl 0 (Nat.le_of_ble_eq_true rfl) kX3_remove_2 rfl ?_
    refine y_iload_n C dX3_remove_48 1 rfl rfl ?_
    obtain ⟨hb1, h⟩ := h
    refine y_iald (N := N) (f := f) C dX3_remove_49 1 rfl hb1 ?_
    obtain ⟨hb2, h⟩ := h
    refine y_iast (N := N) (f := f) (L1 := ([[(r, .inr (3, [.ref a, .int n]))], [(a, .inl (g.2.2.1, N, .inl (upd f (x2 - (1 : Int32)).toNatClampNeg (f x2.toNatClampNeg))))]] : List va_W)) C dX3_remove_50 1 rfl hb2 rfl ?_
    refine y_iinc (v := (x2 + (1 : Int32))) (lv' := [(2, .int (x2 + (1 : Int32))), (0, .ref r)]) C dX3_remove_51 1 rfl rfl (Nat.le_of_ble_eq_true rfl) rfl ?_
    refine y_goto (tgt := 29) C dX3_remove_54 rfl ?_
    refine y_sub (lv' := [(0, .ref r), (2, .int (x2 + (1 : Int32)))]) [1, 0] rfl ?_
    exact hX29 _ _ _ h
set_option maxHeartbeats 4000000 in
set_option maxRecDepth 100000 in
theorem l_X3_remove {Z : yZ} (g : yG) (r a N : Nat) (p : Int32) (C : yC Z g cX3_remove 3 wsX3_remove RX3) {post : List va_W → Prop} (HR : yRv Z ({ frames := 0, cells := 0, slots := 0, locals := 0 } : Room) cX3_remove post 0 0) {K : Int32 → (Nat → Int32) → Prop} (hK : ∀ (n : Int32) (f : Nat → Int32), K n f → post ([[(r, .inr (3, [.ref a, .int n]))], [(a, .inl (g.2.2.1, N, .inl f))]] : List va_W)) {I29 : Nat → Int32 → (Nat → Int32) → Int32 → Prop} (o29 : ∀ (w0 : Nat) (n : Int32) (f : Nat → Int32) (x2 : Int32), I29 w0 n f x2 → wp_X3_remove_29 N p (fun (n9 : Int32) (f9 : Nat → Int32) (x29 : Int32) => ∃ w9, w9 < w0 ∧ I29 w9 n9 f9 x29) K n f x2) : ∀ w0 : Nat, (∀ (n : Int32) (f : Nat → Int32) (x2 : Int32), I29 w0 n f x2 → yJ Z ({ frames := 0, cells := 0, slots := 0, locals := 0 } : Room) 0 0 ([[(r, .inr (3, [.ref a, .int n]))], [(a, .inl (g.2.2.1, N, .inl f))]] : List va_W) 29 [(0, .ref r), (2, .int x2)] []) := by
  intro w0
  induction w0 using Nat.strongRecOn with
  | _ w0 ih =>
    exact fun n f x2 hi => w_X3_remove_29 g r a N p C HR (fun n f x2 hq => by obtain ⟨w9, hlt, hi⟩ := hq; exact (ih w9 hlt) n f x2 hi) hK n f x2 (o29 w0 n f x2 hi)
set_option maxHeartbeats 4000000 in
set_option maxRecDepth 100000 in
theorem t_X3_remove (g : yG) (r a N : Nat) (n : Int32) (f : Nat → Int32) (p : Int32) {post : List va_W → Prop} {K : Int32 → (Nat → Int32) → Prop} (hK : ∀ (n : Int32) (f : Nat → Int32), K n f → post ([[(r, .inr (3, [.ref a, .int n]))], [(a, .inl (g.2.2.1, N, .inl f))]] : List va_W)) (hPO : PO_X3_remove N p K n f ) : yMv g yX3_remove wsX3_remove ({ frames := 0, cells := 0, slots := 0, locals := 0 } : Room) [.ref r, .int p] ([[(r, .inr (3, [.ref a, .int n]))], [(a, .inl (g.2.2.1, N, .inl f))]] : List va_W) post 0 0 := by
  refine y_entryV (cc := cX3_remove) (maxL := 3) (by decide +kernel) rfl (Nat.le_of_ble_eq_true rfl) (fun Z C _ HR => ?_)
  have C : yC Z g cX3_remove 3 wsX3_remove RX3 := C
  obtain ⟨I29, o29, h⟩ := hPO
  have hX29 : ∀ (n : Int32) (f : Nat → Int32) (x2 : Int32), (fun (n9 : Int32) (f9 : Nat → Int32) (x29 : Int32) => ∃ w9, I29 w9 n9 f9 x29) n f x2 → yJ Z ({ frames := 0, cells := 0, slots := 0, locals := 0 } : Room) 0 0 ([[(r, .inr (3, [.ref a, .int n]))], [(a, .inl (g.2.2.1, N, .inl f))]] : List va_W) 29 [(0, .ref r), (2, .int x2)] [] := by
    intro n f x2 hq
    obtain ⟨w9, hi⟩ := hq
    exact (l_X3_remove g r a N p C HR hK o29 w9) n f x2 hi
  unfold wp_X3_remove_0 at h
  show yJ Z _ 0 0 _ 0 [(0, .ref r), (1, .int p)] []
  refine y_iload_n C dX3_remove_0 1 rfl rfl ?_
  refine y_if_lt (tgt := 24) C dX3_remove_1 rfl h (fun c1 h => ?_) (fun c1 h => ?_)
  · exact HR 24 dX3_remove_24 _ _ _ _ (Nat.le_of_ble_eq_true rfl) (Nat.le_of_ble_eq_true rfl) (hK _ _  h)
  · refine y_iload_n C dX3_remove_4 1 rfl rfl ?_
    refine y_aload_n C dX3_remove_5 0 rfl rfl ?_
    refine y_get (Cn := RX3) (T := TX3) (N := 2) (v := .int n) C dX3_remove_6 hX3_remove_X3 0 (sh_0 g r a N n f) rfl 1 (Nat.le_of_ble_eq_true rfl) kX3_remove_1 rfl ?_
    refine y_icmp_ge (tgt := 24) C dX3_remove_9 rfl h (fun c9 h => ?_) (fun c9 h => ?_)
    · exact HR 24 dX3_remove_24 _ _ _ _ (Nat.le_of_ble_eq_true rfl) (Nat.le_of_ble_eq_true rfl) (hK _ _  h)
    · refine y_aload_n C dX3_remove_12 0 rfl rfl ?_
      refine y_get (Cn := RX3) (T := TX3) (N := 2) (v := .int n) C dX3_remove_13 hX3_remove_X3 0 (sh_0 g r a N n f) rfl 1 (Nat.le_of_ble_eq_true rfl) kX3_remove_1 rfl ?_
      refine y_aload_n C dX3_remove_16 0 rfl rfl ?_
      refine y_get (Cn := RX3) (T := TX3) (N := 2) (v := .ref a) C dX3_remove_17 hX3_remove_X3 0 (sh_0 g r a N n f) rfl 0 (Nat.le_of_ble_eq_true rfl) kX3_remove_2 rfl ?_
      refine y_alen (N := N) (v := nI N) C dX3_remove_20 1 rfl rfl ?_
      refine y_icmp_le (tgt := 25) C dX3_remove_21 rfl h (fun c21 h => ?_) (fun c21 h => ?_)
      · refine y_iload_n C dX3_remove_25 1 rfl rfl ?_
        refine y_iconst (v := 1) C dX3_remove_26 (by decide) ?_
        refine y_iadd C dX3_remove_27 ?_
        refine y_istore_n (lv' := [(2, .int (p + (1 : Int32))), (0, .ref r), (1, .int p)]) C dX3_remove_28 rfl (Nat.le_of_ble_eq_true rfl) rfl ?_
        refine y_sub (lv' := [(0, .ref r), (2, .int (p + (1 : Int32)))]) [1, 0] rfl ?_
        exact hX29 _ _ _ h
      · exact HR 24 dX3_remove_24 _ _ _ _ (Nat.le_of_ble_eq_true rfl) (Nat.le_of_ble_eq_true rfl) (hK _ _  h)
theorem dX3_clear_0 : decode cX3_clear 0 = .ok (.aload_n 0, 1) := by decide +kernel
theorem dX3_clear_1 : decode cX3_clear 1 = .ok (.iconst 0, 1) := by decide +kernel
theorem dX3_clear_2 : decode cX3_clear 2 = .ok (.putfield 19, 3) := by decide +kernel
theorem dX3_clear_5 : decode cX3_clear 5 = .ok (.return_, 1) := by decide +kernel
theorem kX3_clear_1 : Cond.fieldLink RX3 19 "BookedDetours$Row" "length" "I" ∈ wsX3_clear := List.mem_of_getElem? (i := 1) (by decide +kernel)
theorem hX3_clear_X3 : ∀ w ∈ u_ws RX3 TX3 2, w ∈ wsX3_clear := fun _ h => List.mem_cons_of_mem _ (List.mem_append_right _ h)
set_option maxHeartbeats 4000000 in
set_option maxRecDepth 100000 in
theorem t_X3_clear (g : yG) (r a N : Nat) (n : Int32) (f : Nat → Int32)  {post : List va_W → Prop} {K : Int32 → (Nat → Int32) → Prop} (hK : ∀ (n : Int32) (f : Nat → Int32), K n f → post ([[(r, .inr (3, [.ref a, .int n]))], [(a, .inl (g.2.2.1, N, .inl f))]] : List va_W)) (hPO : PO_X3_clear N K n f ) : yMv g yX3_clear wsX3_clear ({ frames := 0, cells := 0, slots := 0, locals := 0 } : Room) [.ref r] ([[(r, .inr (3, [.ref a, .int n]))], [(a, .inl (g.2.2.1, N, .inl f))]] : List va_W) post 0 0 := by
  refine y_entryV (cc := cX3_clear) (maxL := 1) (by decide +kernel) rfl (Nat.le_of_ble_eq_true rfl) (fun Z C _ HR => ?_)
  have C : yC Z g cX3_clear 1 wsX3_clear RX3 := C
  have h := hPO
  unfold PO_X3_clear wp_X3_clear_0 at h
  show yJ Z _ 0 0 _ 0 [(0, .ref r)] []
  refine y_aload_n C dX3_clear_0 0 rfl rfl ?_
  refine y_iconst (v := 0) C dX3_clear_1 (by decide) ?_
  refine y_put (Cn := RX3) (T := TX3) (N := 2) (v := .int (0 : Int32)) (ty0 := tyX3) (L1 := ([[(r, .inr (3, [.ref a, .int (0 : Int32)]))], [(a, .inl (g.2.2.1, N, .inl f))]] : List va_W)) C dX3_clear_2 hX3_clear_X3 0 (sh_0 g r a N n f) rfl 1 (Nat.le_of_ble_eq_true rfl) kX3_clear_1 tyX3_ok nmX3 rfl rfl rfl (Nat.le_of_ble_eq_true rfl) rfl ?_
  exact HR 5 dX3_clear_5 _ _ _ _ (Nat.le_of_ble_eq_true rfl) (Nat.le_of_ble_eq_true rfl) (hK _ _  h)
theorem dX3_copy_0 : decode cX3_copy 0 = .ok (.aload_n 0, 1) := by decide +kernel
theorem dX3_copy_1 : decode cX3_copy 1 = .ok (.aload_n 1, 1) := by decide +kernel
theorem dX3_copy_2 : decode cX3_copy 2 = .ok (.getfield 19, 3) := by decide +kernel
theorem dX3_copy_5 : decode cX3_copy 5 = .ok (.aload_n 1, 1) := by decide +kernel
theorem dX3_copy_6 : decode cX3_copy 6 = .ok (.getfield 13, 3) := by decide +kernel
theorem dX3_copy_9 : decode cX3_copy 9 = .ok (.arraylength, 1) := by decide +kernel
theorem dX3_copy_10 : decode cX3_copy 10 = .ok (.aload_n 0, 1) := by decide +kernel
theorem dX3_copy_11 : decode cX3_copy 11 = .ok (.getfield 13, 3) := by decide +kernel
theorem dX3_copy_14 : decode cX3_copy 14 = .ok (.arraylength, 1) := by decide +kernel
theorem dX3_copy_15 : decode cX3_copy 15 = .ok (.invokestatic 27, 3) := by decide +kernel
theorem dX3_copy_18 : decode cX3_copy 18 = .ok (.invokestatic 27, 3) := by decide +kernel
theorem dX3_copy_21 : decode cX3_copy 21 = .ok (.putfield 19, 3) := by decide +kernel
theorem dX3_copy_24 : decode cX3_copy 24 = .ok (.iconst 0, 1) := by decide +kernel
theorem dX3_copy_25 : decode cX3_copy 25 = .ok (.istore_n 2, 1) := by decide +kernel
theorem dX3_copy_26 : decode cX3_copy 26 = .ok (.iload_n 2, 1) := by decide +kernel
theorem dX3_copy_27 : decode cX3_copy 27 = .ok (.aload_n 0, 1) := by decide +kernel
theorem dX3_copy_28 : decode cX3_copy 28 = .ok (.getfield 19, 3) := by decide +kernel
theorem dX3_copy_31 : decode cX3_copy 31 = .ok (.if_icmp .ge 21, 3) := by decide +kernel
theorem dX3_copy_34 : decode cX3_copy 34 = .ok (.aload_n 0, 1) := by decide +kernel
theorem dX3_copy_35 : decode cX3_copy 35 = .ok (.getfield 13, 3) := by decide +kernel
theorem dX3_copy_38 : decode cX3_copy 38 = .ok (.iload_n 2, 1) := by decide +kernel
theorem dX3_copy_39 : decode cX3_copy 39 = .ok (.aload_n 1, 1) := by decide +kernel
theorem dX3_copy_40 : decode cX3_copy 40 = .ok (.getfield 13, 3) := by decide +kernel
theorem dX3_copy_43 : decode cX3_copy 43 = .ok (.iload_n 2, 1) := by decide +kernel
theorem dX3_copy_44 : decode cX3_copy 44 = .ok (.iaload, 1) := by decide +kernel
theorem dX3_copy_45 : decode cX3_copy 45 = .ok (.iastore, 1) := by decide +kernel
theorem dX3_copy_46 : decode cX3_copy 46 = .ok (.iinc 2 1, 3) := by decide +kernel
theorem dX3_copy_49 : decode cX3_copy 49 = .ok (.goto (-23), 3) := by decide +kernel
theorem dX3_copy_52 : decode cX3_copy 52 = .ok (.return_, 1) := by decide +kernel
theorem kX3_copy_1 : Cond.fieldLink RX3 19 "BookedDetours$Row" "length" "I" ∈ wsX3_copy := List.mem_of_getElem? (i := 1) (by decide +kernel)
theorem kX3_copy_2 : Cond.fieldLink RX3 13 "BookedDetours$Row" "cells" "[I" ∈ wsX3_copy := List.mem_of_getElem? (i := 2) (by decide +kernel)
theorem kX3_copy_3 : Cond.methodLink RX3 27 Lib.Math.min.name ∈ wsX3_copy := List.mem_of_getElem? (i := 3) (by decide +kernel)
theorem kX3_copy_4 : Cond.static Lib.Math.min.name ∈ wsX3_copy := List.mem_of_getElem? (i := 4) (by decide +kernel)
theorem kX3_copy_5 : Cond.initialized "java/lang/Math" ∈ wsX3_copy := List.mem_of_getElem? (i := 5) (by decide +kernel)
theorem kX3_copy_6 : Cond.code Lib.Math.min.name Lib.Math.min.code 2 (some .int) ∈ wsX3_copy := List.mem_of_getElem? (i := 6) (by decide +kernel)
theorem hX3_copy_X3 : ∀ w ∈ u_ws RX3 TX3 2, w ∈ wsX3_copy := fun _ h => List.mem_cons_of_mem _ (List.mem_append_right _ h)
set_option maxHeartbeats 4000000 in
set_option maxRecDepth 100000 in
theorem w_X3_copy_26 {Z : yZ} (g : yG) (r a N : Nat) (q b M : Nat) (m : Int32) (u : Nat → Int32) (C : yC Z g cX3_copy 3 wsX3_copy RX3) {post : List va_W → Prop} (HR : yRv Z ({ frames := 1, cells := 0, slots := 0, locals := 21 } : Room) cX3_copy post 0 0) {X26 : Int32 → (Nat → Int32) → Int32 → Prop} (hX26 : ∀ (n : Int32) (f : Nat → Int32) (x2 : Int32), X26 n f x2 → yJ Z ({ frames := 1, cells := 0, slots := 0, locals := 21 } : Room) 0 0 ([[(r, .inr (3, [.ref a, .int n]))], [(a, .inl (g.2.2.1, N, .inl f))], [(q, .inr (3, [.ref b, .int m]))], [(b, .inl (g.2.2.1, M, .inl u))]] : List va_W) 26 [(0, .ref r), (1, .ref q), (2, .int x2)] []) {K : Int32 → (Nat → Int32) → Prop} (hK : ∀ (n : Int32) (f : Nat → Int32), K n f → post ([[(r, .inr (3, [.ref a, .int n]))], [(a, .inl (g.2.2.1, N, .inl f))], [(q, .inr (3, [.ref b, .int m]))], [(b, .inl (g.2.2.1, M, .inl u))]] : List va_W)) (n : Int32) (f : Nat → Int32) (x2 : Int32) (h : wp_X3_copy_26 N M m u X26 K n f x2) : yJ Z ({ frames := 1, cells := 0, slots := 0, locals := 21 } : Room) 0 0 ([[(r, .inr (3, [.ref a, .int n]))], [(a, .inl (g.2.2.1, N, .inl f))], [(q, .inr (3, [.ref b, .int m]))], [(b, .inl (g.2.2.1, M, .inl u))]] : List va_W) 26 [(0, .ref r), (1, .ref q), (2, .int x2)] [] := by
  unfold wp_X3_copy_26 at h
  refine y_iload_n C dX3_copy_26 2 rfl rfl ?_
  refine y_aload_n C dX3_copy_27 0 rfl rfl ?_
  refine y_get (Cn := RX3) (T := TX3) (N := 2) (v := .int n) C dX3_copy_28 hX3_copy_X3 0 (sh_1 g r a N n f q b M m u) rfl 1 (Nat.le_of_ble_eq_true rfl) kX3_copy_1 rfl ?_
  refine y_icmp_ge (tgt := 52) C dX3_copy_31 rfl h (fun c31 h => ?_) (fun c31 h => ?_)
  · exact HR 52 dX3_copy_52 _ _ _ _ (Nat.le_of_ble_eq_true rfl) (Nat.le_of_ble_eq_true rfl) (hK _ _  h)
  · refine y_aload_n C dX3_copy_34 0 rfl rfl ?_
    refine y_get (Cn := RX3) (T := TX3) (N := 2) (v := .ref a) C dX3_copy_35 hX3_copy_X3 0 (sh_1 g r a N n f q b M m u) rfl 0 (Nat.le_of_ble_eq_true rfl) kX3_copy_2 rfl ?_
    refine y_iload_n C dX3_copy_38 2 rfl rfl ?_
    refine y_aload_n C dX3_copy_39 1 rfl rfl ?_
    refine y_get (Cn := RX3) (T := TX3) (N := 2) (v := .ref b) C dX3_copy_40 hX3_copy_X3 2 (sh_2 g r a N n f q b M m u) rfl 0 (Nat.le_of_ble_eq_true rfl) kX3_copy_2 rfl ?_
    refine y_iload_n C dX3_copy_43 2 rfl rfl ?_
    obtain ⟨hb1, h⟩ := h
    refine y_iald (N := M) (f := u) C dX3_copy_44 3 rfl hb1 ?_
    obtain ⟨hb2, h⟩ := h
    refine y_iast (N := N) (f := f) (L1 := ([[(r, .inr (3, [.ref a, .int n]))], [(a, .inl (g.2.2.1, N, .inl (upd f x2.toNatClampNeg (u x2.toNatClampNeg))))], [(q, .inr (3, [.ref b, .int m]))], [(b, .inl (g.2.2.1, M, .inl u))]] : List va_W)) C dX3_copy_45 1 rfl hb2 rfl ?_
    refine y_iinc (v := (x2 + (1 : Int32))) (lv' := [(2, .int (x2 + (1 : Int32))), (0, .ref r), (1, .ref q)]) C dX3_copy_46 2 rfl rfl (Nat.le_of_ble_eq_true rfl) rfl ?_
    refine y_goto (tgt := 26) C dX3_copy_49 rfl ?_
    refine y_sub (lv' := [(0, .ref r), (1, .ref q), (2, .int (x2 + (1 : Int32)))]) [1, 2, 0] rfl ?_
    exact hX26 _ _ _ h
set_option maxHeartbeats 4000000 in
set_option maxRecDepth 100000 in
theorem l_X3_copy {Z : yZ} (g : yG) (r a N : Nat) (q b M : Nat) (m : Int32) (u : Nat → Int32) (C : yC Z g cX3_copy 3 wsX3_copy RX3) {post : List va_W → Prop} (HR : yRv Z ({ frames := 1, cells := 0, slots := 0, locals := 21 } : Room) cX3_copy post 0 0) {K : Int32 → (Nat → Int32) → Prop} (hK : ∀ (n : Int32) (f : Nat → Int32), K n f → post ([[(r, .inr (3, [.ref a, .int n]))], [(a, .inl (g.2.2.1, N, .inl f))], [(q, .inr (3, [.ref b, .int m]))], [(b, .inl (g.2.2.1, M, .inl u))]] : List va_W)) {I26 : Nat → Int32 → (Nat → Int32) → Int32 → Prop} (o26 : ∀ (w0 : Nat) (n : Int32) (f : Nat → Int32) (x2 : Int32), I26 w0 n f x2 → wp_X3_copy_26 N M m u (fun (n9 : Int32) (f9 : Nat → Int32) (x29 : Int32) => ∃ w9, w9 < w0 ∧ I26 w9 n9 f9 x29) K n f x2) : ∀ w0 : Nat, (∀ (n : Int32) (f : Nat → Int32) (x2 : Int32), I26 w0 n f x2 → yJ Z ({ frames := 1, cells := 0, slots := 0, locals := 21 } : Room) 0 0 ([[(r, .inr (3, [.ref a, .int n]))], [(a, .inl (g.2.2.1, N, .inl f))], [(q, .inr (3, [.ref b, .int m]))], [(b, .inl (g.2.2.1, M, .inl u))]] : List va_W) 26 [(0, .ref r), (1, .ref q), (2, .int x2)] []) := by
  intro w0
  induction w0 using Nat.strongRecOn with
  | _ w0 ih =>
    exact fun n f x2 hi => w_X3_copy_26 g r a N q b M m u C HR (fun n f x2 hq => by obtain ⟨w9, hlt, hi⟩ := hq; exact (ih w9 hlt) n f x2 hi) hK n f x2 (o26 w0 n f x2 hi)
set_option maxHeartbeats 4000000 in
set_option maxRecDepth 100000 in
theorem t_X3_copy (g : yG) (r a N : Nat) (n : Int32) (f : Nat → Int32) (q b M : Nat) (m : Int32) (u : Nat → Int32)  {post : List va_W → Prop} {K : Int32 → (Nat → Int32) → Prop} (hK : ∀ (n : Int32) (f : Nat → Int32), K n f → post ([[(r, .inr (3, [.ref a, .int n]))], [(a, .inl (g.2.2.1, N, .inl f))], [(q, .inr (3, [.ref b, .int m]))], [(b, .inl (g.2.2.1, M, .inl u))]] : List va_W)) (hPO : PO_X3_copy N M m u K n f ) : yMv g yX3_copy wsX3_copy ({ frames := 1, cells := 0, slots := 0, locals := 21 } : Room) [.ref r, .ref q] ([[(r, .inr (3, [.ref a, .int n]))], [(a, .inl (g.2.2.1, N, .inl f))], [(q, .inr (3, [.ref b, .int m]))], [(b, .inl (g.2.2.1, M, .inl u))]] : List va_W) post 0 0 := by
  refine y_entryV (cc := cX3_copy) (maxL := 3) (by decide +kernel) rfl (Nat.le_of_ble_eq_true rfl) (fun Z C _ HR => ?_)
  have C : yC Z g cX3_copy 3 wsX3_copy RX3 := C
  obtain ⟨I26, o26, h⟩ := hPO
  have hX26 : ∀ (n : Int32) (f : Nat → Int32) (x2 : Int32), (fun (n9 : Int32) (f9 : Nat → Int32) (x29 : Int32) => ∃ w9, I26 w9 n9 f9 x29) n f x2 → yJ Z ({ frames := 1, cells := 0, slots := 0, locals := 21 } : Room) 0 0 ([[(r, .inr (3, [.ref a, .int n]))], [(a, .inl (g.2.2.1, N, .inl f))], [(q, .inr (3, [.ref b, .int m]))], [(b, .inl (g.2.2.1, M, .inl u))]] : List va_W) 26 [(0, .ref r), (1, .ref q), (2, .int x2)] [] := by
    intro n f x2 hq
    obtain ⟨w9, hi⟩ := hq
    exact (l_X3_copy g r a N q b M m u C HR hK o26 w9) n f x2 hi
  unfold wp_X3_copy_0 at h
  show yJ Z _ 0 0 _ 0 [(0, .ref r), (1, .ref q)] []
  refine y_aload_n C dX3_copy_0 0 rfl rfl ?_
  refine y_aload_n C dX3_copy_1 1 rfl rfl ?_
  refine y_get (Cn := RX3) (T := TX3) (N := 2) (v := .int m) C dX3_copy_2 hX3_copy_X3 2 (sh_2 g r a N n f q b M m u) rfl 1 (Nat.le_of_ble_eq_true rfl) kX3_copy_1 rfl ?_
  refine y_aload_n C dX3_copy_5 1 rfl rfl ?_
  refine y_get (Cn := RX3) (T := TX3) (N := 2) (v := .ref b) C dX3_copy_6 hX3_copy_X3 2 (sh_2 g r a N n f q b M m u) rfl 0 (Nat.le_of_ble_eq_true rfl) kX3_copy_2 rfl ?_
  refine y_alen (N := M) (v := nI M) C dX3_copy_9 3 rfl rfl ?_
  refine y_aload_n C dX3_copy_10 0 rfl rfl ?_
  refine y_get (Cn := RX3) (T := TX3) (N := 2) (v := .ref a) C dX3_copy_11 hX3_copy_X3 0 (sh_1 g r a N n f q b M m u) rfl 0 (Nat.le_of_ble_eq_true rfl) kX3_copy_2 rfl ?_
  refine y_alen (N := N) (v := nI N) C dX3_copy_14 1 rfl rfl ?_
  refine y_mmin C dX3_copy_15 kX3_copy_3 kX3_copy_4 kX3_copy_5 kX3_copy_6 (Nat.le_of_ble_eq_true rfl) (Nat.le_of_ble_eq_true rfl) (Nat.le_of_ble_eq_true rfl) (Nat.le_of_ble_eq_true rfl) ?_
  refine y_topi (fun m1 em1 => ?_)
  have h := y_letP h em1
  refine y_mmin C dX3_copy_18 kX3_copy_3 kX3_copy_4 kX3_copy_5 kX3_copy_6 (Nat.le_of_ble_eq_true rfl) (Nat.le_of_ble_eq_true rfl) (Nat.le_of_ble_eq_true rfl) (Nat.le_of_ble_eq_true rfl) ?_
  refine y_topi (fun m2 em2 => ?_)
  have h := y_letP h em2
  refine y_put (Cn := RX3) (T := TX3) (N := 2) (v := .int m2) (ty0 := tyX3) (L1 := ([[(r, .inr (3, [.ref a, .int m2]))], [(a, .inl (g.2.2.1, N, .inl f))], [(q, .inr (3, [.ref b, .int m]))], [(b, .inl (g.2.2.1, M, .inl u))]] : List va_W)) C dX3_copy_21 hX3_copy_X3 0 (sh_1 g r a N n f q b M m u) rfl 1 (Nat.le_of_ble_eq_true rfl) kX3_copy_1 tyX3_ok nmX3 rfl rfl rfl (Nat.le_of_ble_eq_true rfl) rfl ?_
  refine y_iconst (v := 0) C dX3_copy_24 (by decide) ?_
  refine y_istore_n (lv' := [(2, .int (0 : Int32)), (0, .ref r), (1, .ref q)]) C dX3_copy_25 rfl (Nat.le_of_ble_eq_true rfl) rfl ?_
  refine y_sub (lv' := [(0, .ref r), (1, .ref q), (2, .int (0 : Int32))]) [1, 2, 0] rfl ?_
  exact hX26 _ _ _ h
