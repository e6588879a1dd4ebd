theorem dX1_dropOldest_0 : decode cX1_dropOldest 0 = .ok (.aload_n 0, 1) := by decide +kernel
theorem dX1_dropOldest_1 : decode cX1_dropOldest 1 = .ok (.getfield 11, 3) := by decide +kernel
theorem dX1_dropOldest_4 : decode cX1_dropOldest 4 = .ok (.iconst 0, 1) := by decide +kernel
theorem dX1_dropOldest_5 : decode cX1_dropOldest 5 = .ok (.aaload, 1) := by decide +kernel
theorem dX1_dropOldest_6 : decode cX1_dropOldest 6 = .ok (.astore_n 1, 1) := by decide +kernel
theorem dX1_dropOldest_7 : decode cX1_dropOldest 7 = .ok (.iconst 1, 1) := by decide +kernel
theorem dX1_dropOldest_8 : decode cX1_dropOldest 8 = .ok (.istore_n 2, 1) := by decide +kernel
theorem dX1_dropOldest_9 : decode cX1_dropOldest 9 = .ok (.iload_n 2, 1) := by decide +kernel
theorem dX1_dropOldest_10 : decode cX1_dropOldest 10 = .ok (.aload_n 0, 1) := by decide +kernel
theorem dX1_dropOldest_11 : decode cX1_dropOldest 11 = .ok (.getfield 11, 3) := by decide +kernel
theorem dX1_dropOldest_14 : decode cX1_dropOldest 14 = .ok (.arraylength, 1) := by decide +kernel
theorem dX1_dropOldest_15 : decode cX1_dropOldest 15 = .ok (.if_icmp .ge 23, 3) := by decide +kernel
theorem dX1_dropOldest_18 : decode cX1_dropOldest 18 = .ok (.aload_n 0, 1) := by decide +kernel
theorem dX1_dropOldest_19 : decode cX1_dropOldest 19 = .ok (.getfield 11, 3) := by decide +kernel
theorem dX1_dropOldest_22 : decode cX1_dropOldest 22 = .ok (.iload_n 2, 1) := by decide +kernel
theorem dX1_dropOldest_23 : decode cX1_dropOldest 23 = .ok (.iconst 1, 1) := by decide +kernel
theorem dX1_dropOldest_24 : decode cX1_dropOldest 24 = .ok (.isub, 1) := by decide +kernel
theorem dX1_dropOldest_25 : decode cX1_dropOldest 25 = .ok (.aload_n 0, 1) := by decide +kernel
theorem dX1_dropOldest_26 : decode cX1_dropOldest 26 = .ok (.getfield 11, 3) := by decide +kernel
theorem dX1_dropOldest_29 : decode cX1_dropOldest 29 = .ok (.iload_n 2, 1) := by decide +kernel
theorem dX1_dropOldest_30 : decode cX1_dropOldest 30 = .ok (.aaload, 1) := by decide +kernel
theorem dX1_dropOldest_31 : decode cX1_dropOldest 31 = .ok (.aastore, 1) := by decide +kernel
theorem dX1_dropOldest_32 : decode cX1_dropOldest 32 = .ok (.iinc 2 1, 3) := by decide +kernel
theorem dX1_dropOldest_35 : decode cX1_dropOldest 35 = .ok (.goto (-26), 3) := by decide +kernel
theorem dX1_dropOldest_38 : decode cX1_dropOldest 38 = .ok (.aload_n 0, 1) := by decide +kernel
theorem dX1_dropOldest_39 : decode cX1_dropOldest 39 = .ok (.getfield 11, 3) := by decide +kernel
theorem dX1_dropOldest_42 : decode cX1_dropOldest 42 = .ok (.aload_n 0, 1) := by decide +kernel
theorem dX1_dropOldest_43 : decode cX1_dropOldest 43 = .ok (.getfield 11, 3) := by decide +kernel
theorem dX1_dropOldest_46 : decode cX1_dropOldest 46 = .ok (.arraylength, 1) := by decide +kernel
theorem dX1_dropOldest_47 : decode cX1_dropOldest 47 = .ok (.iconst 1, 1) := by decide +kernel
theorem dX1_dropOldest_48 : decode cX1_dropOldest 48 = .ok (.isub, 1) := by decide +kernel
theorem dX1_dropOldest_49 : decode cX1_dropOldest 49 = .ok (.aload_n 1, 1) := by decide +kernel
theorem dX1_dropOldest_50 : decode cX1_dropOldest 50 = .ok (.aastore, 1) := by decide +kernel
theorem dX1_dropOldest_51 : decode cX1_dropOldest 51 = .ok (.aload_n 0, 1) := by decide +kernel
theorem dX1_dropOldest_52 : decode cX1_dropOldest 52 = .ok (.aload_n 0, 1) := by decide +kernel
theorem dX1_dropOldest_53 : decode cX1_dropOldest 53 = .ok (.getfield 11, 3) := by decide +kernel
theorem dX1_dropOldest_56 : decode cX1_dropOldest 56 = .ok (.arraylength, 1) := by decide +kernel
theorem dX1_dropOldest_57 : decode cX1_dropOldest 57 = .ok (.iconst 1, 1) := by decide +kernel
theorem dX1_dropOldest_58 : decode cX1_dropOldest 58 = .ok (.isub, 1) := by decide +kernel
theorem dX1_dropOldest_59 : decode cX1_dropOldest 59 = .ok (.putfield 17, 3) := by decide +kernel
theorem dX1_dropOldest_62 : decode cX1_dropOldest 62 = .ok (.return_, 1) := by decide +kernel
theorem kX1_dropOldest_1 : Cond.fieldLink RX1 11 "BookedDetours$History" "days" "[LBookedDetours$Day;" ∈ wsX1_dropOldest := List.mem_of_getElem? (i := 1) (by decide +kernel)
theorem kX1_dropOldest_2 : Cond.fieldLink RX1 17 "BookedDetours$History" "length" "I" ∈ wsX1_dropOldest := List.mem_of_getElem? (i := 2) (by decide +kernel)
theorem hX1_dropOldest_X1 : ∀ w ∈ u_ws RX1 TX1 2, w ∈ wsX1_dropOldest := fun _ h => List.mem_cons_of_mem _ (List.mem_append_right _ h)
/-- behind i - 1 moves -/
def mvF (f : Nat → Option Nat) (i : Nat) : Nat → Option Nat := fun j => if j + 1 < i then f (j + 1) else f j
theorem mvF_1 (f : Nat → Option Nat) : mvF f 1 = f := by
  funext j
  unfold mvF
  rw [if_neg (by omega)]
theorem mvF_step (f : Nat → Option Nat) {i v : Nat} (hi : 1 ≤ i) (h : f i = some v) : va_up (mvF f i) (i - 1) (some v) = mvF f (i + 1) := by
  funext j
  unfold va_up mvF
  by_cases e : j = i - 1
  · rw [if_pos e, if_pos (by omega), ← h]; congr 1; omega
  · rw [if_neg e]
    by_cases c : j + 1 < i
    · rw [if_pos c, if_pos (by omega)]
    · rw [if_neg c, if_neg (by omega)]
set_option maxHeartbeats 4000000 in
set_option maxRecDepth 100000 in
theorem w_dropOldest {Z : yZ} (g : yG) (h arr : Nat) (n : Int32) (f : Nat → Option Nat) (Ws : List va_W) (C : yC Z g cX1_dropOldest 3 wsX1_dropOldest RX1) {post : List va_W → Prop} (HRv : yRv Z ({ frames := 0, cells := 0, slots := 0, locals := 0 } : Room) cX1_dropOldest post 0 0) (hf : ∀ j, j < 6 → ∃ v vs, f j = some v ∧ (v, (.inr (0, vs) : va_E)) ∈ Ws.flatten) (v0 : Nat) (hv0 : f 0 = some v0) (hpost : post ([hcC h arr 5, acC g arr 6 (va_up (mvF f 6) 5 (some v0))] ++ Ws)) : ∀ (m i : Nat), i + m = 6 → 1 ≤ i → yJ Z ({ frames := 0, cells := 0, slots := 0, locals := 0 } : Room) 0 0 ([hcC h arr n, acC g arr 6 (mvF f i)] ++ Ws) 9 [(0, .ref h), (1, .ref v0), (2, .int (nI i))] [] := by
  intro m
  induction m with
  | zero =>
    intro i hi h1
    obtain rfl : i = 6 := by omega
    refine y_iload_n C dX1_dropOldest_9 2 rfl rfl ?_
    refine y_aload_n C dX1_dropOldest_10 0 rfl rfl ?_
    refine y_get (Cn := RX1) (T := TX1) (N := 2) (ci := 1) (v := .ref arr) C dX1_dropOldest_11 hX1_dropOldest_X1 0 rfl rfl 0 (Nat.le_of_ble_eq_true rfl) kX1_dropOldest_1 rfl ?_
    refine y_alenO (N := 6) (f := mvF f 6) (v := 6) C dX1_dropOldest_14 1 rfl (by decide) ?_
    refine y_icmp_ge (tgt := 38) C dX1_dropOldest_15 rfl (y_same (c := (6 : Int32) ≤ nI 6) trivial) (fun c15 _ => ?_) (fun c15 _ => absurd (show (6 : Int32) ≤ nI 6 by decide) c15)
    refine y_aload_n C dX1_dropOldest_38 0 rfl rfl ?_
    refine y_get (Cn := RX1) (T := TX1) (N := 2) (ci := 1) (v := .ref arr) C dX1_dropOldest_39 hX1_dropOldest_X1 0 rfl rfl 0 (Nat.le_of_ble_eq_true rfl) kX1_dropOldest_1 rfl ?_
    refine y_aload_n C dX1_dropOldest_42 0 rfl rfl ?_
    refine y_get (Cn := RX1) (T := TX1) (N := 2) (ci := 1) (v := .ref arr) C dX1_dropOldest_43 hX1_dropOldest_X1 0 rfl rfl 0 (Nat.le_of_ble_eq_true rfl) kX1_dropOldest_1 rfl ?_
    refine y_alenO (N := 6) (f := mvF f 6) (v := 6) C dX1_dropOldest_46 1 rfl (by decide) ?_
    refine y_iconst (v := 1) C dX1_dropOldest_47 (by decide) ?_
    refine y_isub C dX1_dropOldest_48 ?_
    refine y_aload_n C dX1_dropOldest_49 1 rfl rfl ?_
    obtain ⟨v, vs, e1, e2⟩ := hf 0 (by omega)
    have e3 : v = v0 := Option.some.inj (e1.symm.trans hv0)
    subst e3
    refine y_aastM (N := 6) (f := mvF f 6) (L1 := ([hcC h arr n, acC g arr 6 (va_up (mvF f 6) 5 (some v))] ++ Ws : List va_W)) C dX1_dropOldest_50 1 rfl (by rw [List.flatten_append]; exact List.mem_append_right _ e2) (by unfold vp_in; decide) rfl ?_
    refine y_aload_n C dX1_dropOldest_51 0 rfl rfl ?_
    refine y_aload_n C dX1_dropOldest_52 0 rfl rfl ?_
    refine y_get (Cn := RX1) (T := TX1) (N := 2) (ci := 1) (v := .ref arr) C dX1_dropOldest_53 hX1_dropOldest_X1 0 rfl rfl 0 (Nat.le_of_ble_eq_true rfl) kX1_dropOldest_1 rfl ?_
    refine y_alenO (N := 6) (f := va_up (mvF f 6) 5 (some v)) (v := 6) C dX1_dropOldest_56 1 rfl (by decide) ?_
    refine y_iconst (v := 1) C dX1_dropOldest_57 (by decide) ?_
    refine y_isub C dX1_dropOldest_58 ?_
    refine y_put (Cn := RX1) (T := TX1) (N := 2) (ci := 1) (v := .int (6 - 1)) (ty0 := tyX1) (L1 := ([hcC h arr 5, acC g arr 6 (va_up (mvF f 6) 5 (some v))] ++ Ws : List va_W)) C dX1_dropOldest_59 hX1_dropOldest_X1 0 rfl rfl 1 (Nat.le_of_ble_eq_true rfl) kX1_dropOldest_2 tyX1_ok nmX1 rfl rfl rfl (Nat.le_of_ble_eq_true rfl) rfl ?_
    exact HRv 62 dX1_dropOldest_62 _ _ _ _ (Nat.le_of_ble_eq_true rfl) (Nat.le_of_ble_eq_true rfl) hpost
  | succ m ih =>
    intro i hi h1
    have hi6 : i < 6 := by omega
    refine y_iload_n C dX1_dropOldest_9 2 rfl rfl ?_
    refine y_aload_n C dX1_dropOldest_10 0 rfl rfl ?_
    refine y_get (Cn := RX1) (T := TX1) (N := 2) (ci := 1) (v := .ref arr) C dX1_dropOldest_11 hX1_dropOldest_X1 0 rfl rfl 0 (Nat.le_of_ble_eq_true rfl) kX1_dropOldest_1 rfl ?_
    refine y_alenO (N := 6) (f := mvF f i) (v := 6) C dX1_dropOldest_14 1 rfl (by decide) ?_
    refine y_icmp_ge (tgt := 38) C dX1_dropOldest_15 rfl (y_same (c := (6 : Int32) ≤ nI i) trivial) (fun c15 _ => absurd c15 (nI_ge (a := i) (b := 6) hi6 (by decide))) (fun c15 _ => ?_)
    refine y_aload_n C dX1_dropOldest_18 0 rfl rfl ?_
    refine y_get (Cn := RX1) (T := TX1) (N := 2) (ci := 1) (v := .ref arr) C dX1_dropOldest_19 hX1_dropOldest_X1 0 rfl rfl 0 (Nat.le_of_ble_eq_true rfl) kX1_dropOldest_1 rfl ?_
    refine y_iload_n C dX1_dropOldest_22 2 rfl rfl ?_
    refine y_iconst (v := 1) C dX1_dropOldest_23 (by decide) ?_
    refine y_isub C dX1_dropOldest_24 ?_
    refine y_aload_n C dX1_dropOldest_25 0 rfl rfl ?_
    refine y_get (Cn := RX1) (T := TX1) (N := 2) (ci := 1) (v := .ref arr) C dX1_dropOldest_26 hX1_dropOldest_X1 0 rfl rfl 0 (Nat.le_of_ble_eq_true rfl) kX1_dropOldest_1 rfl ?_
    refine y_iload_n C dX1_dropOldest_29 2 rfl rfl ?_
    obtain ⟨v, vs, e1, e2⟩ := hf i hi6
    refine y_aaldS (N := 6) (f := mvF f i) (v := v) C dX1_dropOldest_30 1 rfl (vp_in_nI hi6 (by decide)) (by rw [nI_clamp (by omega)]; unfold mvF; rw [if_neg (by omega)]; exact e1) ?_
    have em : nI i - 1 = nI (i - 1) := by
      obtain ⟨k, rfl⟩ : ∃ k, i = k + 1 := ⟨i - 1, by omega⟩
      rw [nI_pred]; rfl
    rw [em]
    refine y_aastM (N := 6) (f := mvF f i) (L1 := ([hcC h arr n, acC g arr 6 (mvF f (i + 1))] ++ Ws : List va_W)) C dX1_dropOldest_31 1 rfl (by rw [List.flatten_append]; exact List.mem_append_right _ e2) (vp_in_nI (by omega) (by decide)) (by rw [nI_clamp (by omega), mvF_step f h1 e1]; rfl) ?_
    refine y_iinc (v := nI i + 1) (lv' := [(2, .int (nI i + 1)), (0, .ref h), (1, .ref v0)]) C dX1_dropOldest_32 2 rfl rfl (Nat.le_of_ble_eq_true rfl) rfl ?_
    refine y_goto (tgt := 9) C dX1_dropOldest_35 rfl ?_
    refine y_sub (lv' := [(0, .ref h), (1, .ref v0), (2, .int (nI i + 1))]) [1, 2, 0] rfl ?_
    rw [nI_1]
    exact ih (i + 1) (by omega) (by omega)
set_option maxHeartbeats 4000000 in
set_option maxRecDepth 100000 in
theorem c_X1_dropOldest (g : yG) (h arr : Nat) (n : Int32) (f : Nat → Option Nat) (Ws : List va_W) (hf : ∀ j, j < 6 → ∃ v vs, f j = some v ∧ (v, (.inr (0, vs) : va_E)) ∈ Ws.flatten) (v0 : Nat) (hv0 : f 0 = some v0) : yMv g yX1_dropOldest wsX1_dropOldest ({ frames := 0, cells := 0, slots := 0, locals := 0 } : Room) [.ref h] ([hcC h arr n, acC g arr 6 f] ++ Ws) (fun w => w = ([hcC h arr 5, acC g arr 6 (va_up (mvF f 6) 5 (some v0))] ++ Ws : List va_W)) 0 0 := by
  refine y_entryV (cc := cX1_dropOldest) (maxL := 3) (by decide +kernel) rfl (Nat.le_of_ble_eq_true rfl) (fun Z C _ HRv => ?_)
  have C : yC Z g cX1_dropOldest 3 wsX1_dropOldest RX1 := C
  show yJ Z _ 0 0 _ 0 [(0, .ref h)] []
  refine y_aload_n C dX1_dropOldest_0 0 rfl rfl ?_
  refine y_get (Cn := RX1) (T := TX1) (N := 2) (ci := 1) (v := .ref arr) C dX1_dropOldest_1 hX1_dropOldest_X1 0 rfl rfl 0 (Nat.le_of_ble_eq_true rfl) kX1_dropOldest_1 rfl ?_
  refine y_iconst (v := 0) C dX1_dropOldest_4 (by decide) ?_
  refine y_aaldS (N := 6) (f := f) (v := v0) C dX1_dropOldest_5 1 rfl (by unfold vp_in; decide) hv0 ?_
  refine y_astore_n (lv' := [(1, .ref v0), (0, .ref h)]) C dX1_dropOldest_6 rfl (Nat.le_of_ble_eq_true rfl) rfl ?_
  refine y_iconst (v := 1) C dX1_dropOldest_7 (by decide) ?_
  refine y_istore_n (lv' := [(2, .int 1), (1, .ref v0), (0, .ref h)]) C dX1_dropOldest_8 rfl (Nat.le_of_ble_eq_true rfl) rfl ?_
  refine y_sub (lv' := [(0, .ref h), (1, .ref v0), (2, .int 1)]) [2, 1, 0] rfl ?_
  have key := w_dropOldest g h arr n f Ws C HRv hf v0 hv0 rfl 5 1 (by omega) (by omega)
  rw [mvF_1] at key
  exact key
