theorem dX1_dropOldest_0 : decode cX1_dropOldest 0 = .ok (.iconst 1, 1) := by decide +kernel
theorem dX1_dropOldest_1 : decode cX1_dropOldest 1 = .ok (.istore_n 1, 1) := by decide +kernel
theorem dX1_dropOldest_2 : decode cX1_dropOldest 2 = .ok (.iload_n 1, 1) := by decide +kernel
theorem dX1_dropOldest_3 : decode cX1_dropOldest 3 = .ok (.aload_n 0, 1) := by decide +kernel
theorem dX1_dropOldest_4 : decode cX1_dropOldest 4 = .ok (.getfield 11, 3) := by decide +kernel
theorem dX1_dropOldest_7 : decode cX1_dropOldest 7 = .ok (.arraylength, 1) := by decide +kernel
theorem dX1_dropOldest_8 : decode cX1_dropOldest 8 = .ok (.if_icmp .ge 39, 3) := by decide +kernel
theorem dX1_dropOldest_11 : decode cX1_dropOldest 11 = .ok (.aload_n 0, 1) := by decide +kernel
theorem dX1_dropOldest_12 : decode cX1_dropOldest 12 = .ok (.getfield 11, 3) := by decide +kernel
theorem dX1_dropOldest_15 : decode cX1_dropOldest 15 = .ok (.iload_n 1, 1) := by decide +kernel
theorem dX1_dropOldest_16 : decode cX1_dropOldest 16 = .ok (.iconst 1, 1) := by decide +kernel
theorem dX1_dropOldest_17 : decode cX1_dropOldest 17 = .ok (.isub, 1) := by decide +kernel
theorem dX1_dropOldest_18 : decode cX1_dropOldest 18 = .ok (.aaload, 1) := by decide +kernel
theorem dX1_dropOldest_19 : decode cX1_dropOldest 19 = .ok (.astore_n 2, 1) := by decide +kernel
theorem dX1_dropOldest_20 : decode cX1_dropOldest 20 = .ok (.aload_n 0, 1) := by decide +kernel
theorem dX1_dropOldest_21 : decode cX1_dropOldest 21 = .ok (.getfield 11, 3) := by decide +kernel
theorem dX1_dropOldest_24 : decode cX1_dropOldest 24 = .ok (.iload_n 1, 1) := by decide +kernel
theorem dX1_dropOldest_25 : decode cX1_dropOldest 25 = .ok (.iconst 1, 1) := by decide +kernel
theorem dX1_dropOldest_26 : decode cX1_dropOldest 26 = .ok (.isub, 1) := by decide +kernel
theorem dX1_dropOldest_27 : decode cX1_dropOldest 27 = .ok (.aload_n 0, 1) := by decide +kernel
theorem dX1_dropOldest_28 : decode cX1_dropOldest 28 = .ok (.getfield 11, 3) := by decide +kernel
theorem dX1_dropOldest_31 : decode cX1_dropOldest 31 = .ok (.iload_n 1, 1) := by decide +kernel
theorem dX1_dropOldest_32 : decode cX1_dropOldest 32 = .ok (.aaload, 1) := by decide +kernel
theorem dX1_dropOldest_33 : decode cX1_dropOldest 33 = .ok (.aastore, 1) := by decide +kernel
theorem dX1_dropOldest_34 : decode cX1_dropOldest 34 = .ok (.aload_n 0, 1) := by decide +kernel
theorem dX1_dropOldest_35 : decode cX1_dropOldest 35 = .ok (.getfield 11, 3) := by decide +kernel
theorem dX1_dropOldest_38 : decode cX1_dropOldest 38 = .ok (.iload_n 1, 1) := by decide +kernel
theorem dX1_dropOldest_39 : decode cX1_dropOldest 39 = .ok (.aload_n 2, 1) := by decide +kernel
theorem dX1_dropOldest_40 : decode cX1_dropOldest 40 = .ok (.aastore, 1) := by decide +kernel
theorem dX1_dropOldest_41 : decode cX1_dropOldest 41 = .ok (.iinc 1 1, 3) := by decide +kernel
theorem dX1_dropOldest_44 : decode cX1_dropOldest 44 = .ok (.goto (-42), 3) := by decide +kernel
theorem dX1_dropOldest_47 : decode cX1_dropOldest 47 = .ok (.aload_n 0, 1) := by decide +kernel
theorem dX1_dropOldest_48 : decode cX1_dropOldest 48 = .ok (.aload_n 0, 1) := by decide +kernel
theorem dX1_dropOldest_49 : decode cX1_dropOldest 49 = .ok (.getfield 11, 3) := by decide +kernel
theorem dX1_dropOldest_52 : decode cX1_dropOldest 52 = .ok (.arraylength, 1) := by decide +kernel
theorem dX1_dropOldest_53 : decode cX1_dropOldest 53 = .ok (.iconst 1, 1) := by decide +kernel
theorem dX1_dropOldest_54 : decode cX1_dropOldest 54 = .ok (.isub, 1) := by decide +kernel
theorem dX1_dropOldest_55 : decode cX1_dropOldest 55 = .ok (.putfield 17, 3) := by decide +kernel
theorem dX1_dropOldest_58 : decode cX1_dropOldest 58 = .ok (.return_, 1) := by decide +kernel
theorem kX1_dropOldest_1 : Cond.fieldLink RX1 11 "BookedDetours$History" "days" "[LBookedDetours$Day;" ∈ wsX1_dropOldest := List.mem_of_getElem? (i := 1) (by decide +kernel)
theorem kX1_dropOldest_2 : Cond.fieldLink RX1 17 "BookedDetours$History" "length" "I" ∈ wsX1_dropOldest := List.mem_of_getElem? (i := 2) (by decide +kernel)
theorem hX1_dropOldest_X1 : ∀ w ∈ u_ws RX1 TX1 2, w ∈ wsX1_dropOldest := fun _ h => List.mem_cons_of_mem _ (List.mem_append_right _ h)
/-- behind i - 1 moves -/
def mvF (f : Nat → Option Nat) (i : Nat) : Nat → Option Nat := fun j => if j + 1 < i then f (j + 1) else f j
theorem mvF_1 (f : Nat → Option Nat) : mvF f 1 = f := by
  funext j
  unfold mvF
  rw [if_neg (by omega)]
theorem mvF_step (f : Nat → Option Nat) {i v : Nat} (hi : 1 ≤ i) (h : f i = some v) : va_up (mvF f i) (i - 1) (some v) = mvF f (i + 1) := by
  funext j
  unfold va_up mvF
  by_cases e : j = i - 1
  · rw [if_pos e, if_pos (by omega), ← h]; congr 1; omega
  · rw [if_neg e]
    by_cases c : j + 1 < i
    · rw [if_pos c, if_pos (by omega)]
    · rw [if_neg c, if_neg (by omega)]
theorem mvF_over (f : Nat → Option Nat) (k : Nat) (a b : Option Nat) : va_up (va_up f k a) k b = va_up f k b := by
  funext j
  unfold va_up
  by_cases e : j = k
  · rw [if_pos e, if_pos e]
  · rw [if_neg e, if_neg e, if_neg e]
theorem mvF_start (f : Nat → Option Nat) {v : Nat} (h : f 0 = some v) : va_up (mvF f 1) (1 - 1) (some v) = f := by
  rw [mvF_1]
  funext j
  unfold va_up
  by_cases e : j = 0
  · rw [if_pos e, e, h]
  · rw [if_neg e]
set_option maxHeartbeats 4000000 in
set_option maxRecDepth 100000 in
theorem w_dropOldest {Z : yZ} (g : yG) (h arr : Nat) (n : Int32) (f : Nat → Option Nat) (Ws : List va_W) (C : yC Z g cX1_dropOldest 3 wsX1_dropOldest RX1) {post : List va_W → Prop} (HRv : yRv Z ({ frames := 0, cells := 0, slots := 0, locals := 0 } : Room) cX1_dropOldest post 0 0) (hf : ∀ j, j < 6 → ∃ v vs, f j = some v ∧ (v, (.inr (0, vs) : va_E)) ∈ Ws.flatten) (v0 : Nat) (hv0 : f 0 = some v0) (hpost : post ([hcC h arr 5, acC g arr 6 (va_up (mvF f 6) 5 (some v0))] ++ Ws)) : ∀ (m i : Nat), i + m = 6 → 1 ≤ i → yJ Z ({ frames := 0, cells := 0, slots := 0, locals := 0 } : Room) 0 0 ([hcC h arr n, acC g arr 6 (va_up (mvF f i) (i - 1) (some v0))] ++ Ws) 2 [(0, .ref h), (1, .int (nI i))] [] := by
  intro m
  induction m with
  | zero =>
    intro i hi h1
    obtain rfl : i = 6 := by omega
    refine y_iload_n C dX1_dropOldest_2 1 rfl rfl ?_
    refine y_aload_n C dX1_dropOldest_3 0 rfl rfl ?_
    refine y_get (Cn := RX1) (T := TX1) (N := 2) (ci := 1) (v := .ref arr) C dX1_dropOldest_4 hX1_dropOldest_X1 0 rfl rfl 0 (Nat.le_of_ble_eq_true rfl) kX1_dropOldest_1 rfl ?_
    refine y_alenO (N := 6) (f := va_up (mvF f 6) 5 (some v0)) (v := 6) C dX1_dropOldest_7 1 rfl (by decide) ?_
    refine y_icmp_ge (tgt := 47) C dX1_dropOldest_8 rfl (y_same (c := (6 : Int32) ≤ nI 6) trivial) (fun c8 _ => ?_) (fun c8 _ => absurd (show (6 : Int32) ≤ nI 6 by decide) c8)
    refine y_aload_n C dX1_dropOldest_47 0 rfl rfl ?_
    refine y_aload_n C dX1_dropOldest_48 0 rfl rfl ?_
    refine y_get (Cn := RX1) (T := TX1) (N := 2) (ci := 1) (v := .ref arr) C dX1_dropOldest_49 hX1_dropOldest_X1 0 rfl rfl 0 (Nat.le_of_ble_eq_true rfl) kX1_dropOldest_1 rfl ?_
    refine y_alenO (N := 6) (f := va_up (mvF f 6) 5 (some v0)) (v := 6) C dX1_dropOldest_52 1 rfl (by decide) ?_
    refine y_iconst (v := 1) C dX1_dropOldest_53 (by decide) ?_
    refine y_isub C dX1_dropOldest_54 ?_
    refine y_put (Cn := RX1) (T := TX1) (N := 2) (ci := 1) (v := .int (6 - 1)) (ty0 := tyX1) (L1 := ([hcC h arr 5, acC g arr 6 (va_up (mvF f 6) 5 (some v0))] ++ Ws : List va_W)) C dX1_dropOldest_55 hX1_dropOldest_X1 0 rfl rfl 1 (Nat.le_of_ble_eq_true rfl) kX1_dropOldest_2 tyX1_ok nmX1 rfl rfl rfl (Nat.le_of_ble_eq_true rfl) rfl ?_
    exact HRv 58 dX1_dropOldest_58 _ _ _ _ (Nat.le_of_ble_eq_true rfl) (Nat.le_of_ble_eq_true rfl) hpost
  | succ m ih =>
    intro i hi h1
    have hi6 : i < 6 := by omega
    have em : nI i - 1 = nI (i - 1) := by
      obtain ⟨k, rfl⟩ : ∃ k, i = k + 1 := ⟨i - 1, by omega⟩
      rw [nI_pred]; rfl
    refine y_iload_n C dX1_dropOldest_2 1 rfl rfl ?_
    refine y_aload_n C dX1_dropOldest_3 0 rfl rfl ?_
    refine y_get (Cn := RX1) (T := TX1) (N := 2) (ci := 1) (v := .ref arr) C dX1_dropOldest_4 hX1_dropOldest_X1 0 rfl rfl 0 (Nat.le_of_ble_eq_true rfl) kX1_dropOldest_1 rfl ?_
    refine y_alenO (N := 6) (f := va_up (mvF f i) (i - 1) (some v0)) (v := 6) C dX1_dropOldest_7 1 rfl (by decide) ?_
    refine y_icmp_ge (tgt := 47) C dX1_dropOldest_8 rfl (y_same (c := (6 : Int32) ≤ nI i) trivial) (fun c8 _ => absurd c8 (nI_ge (a := i) (b := 6) hi6 (by decide))) (fun c8 _ => ?_)
    refine y_aload_n C dX1_dropOldest_11 0 rfl rfl ?_
    refine y_get (Cn := RX1) (T := TX1) (N := 2) (ci := 1) (v := .ref arr) C dX1_dropOldest_12 hX1_dropOldest_X1 0 rfl rfl 0 (Nat.le_of_ble_eq_true rfl) kX1_dropOldest_1 rfl ?_
    refine y_iload_n C dX1_dropOldest_15 1 rfl rfl ?_
    refine y_iconst (v := 1) C dX1_dropOldest_16 (by decide) ?_
    refine y_isub C dX1_dropOldest_17 ?_
    rw [em]
    refine y_aaldS (N := 6) (f := va_up (mvF f i) (i - 1) (some v0)) (v := v0) C dX1_dropOldest_18 1 rfl (vp_in_nI (by omega) (by decide)) (by rw [nI_clamp (by omega)]; exact if_pos rfl) ?_
    refine y_astore_n (lv' := [(2, .ref v0), (0, .ref h), (1, .int (nI i))]) C dX1_dropOldest_19 rfl (Nat.le_of_ble_eq_true rfl) rfl ?_
    refine y_aload_n C dX1_dropOldest_20 1 rfl rfl ?_
    refine y_get (Cn := RX1) (T := TX1) (N := 2) (ci := 1) (v := .ref arr) C dX1_dropOldest_21 hX1_dropOldest_X1 0 rfl rfl 0 (Nat.le_of_ble_eq_true rfl) kX1_dropOldest_1 rfl ?_
    refine y_iload_n C dX1_dropOldest_24 2 rfl rfl ?_
    refine y_iconst (v := 1) C dX1_dropOldest_25 (by decide) ?_
    refine y_isub C dX1_dropOldest_26 ?_
    refine y_aload_n C dX1_dropOldest_27 1 rfl rfl ?_
    refine y_get (Cn := RX1) (T := TX1) (N := 2) (ci := 1) (v := .ref arr) C dX1_dropOldest_28 hX1_dropOldest_X1 0 rfl rfl 0 (Nat.le_of_ble_eq_true rfl) kX1_dropOldest_1 rfl ?_
    refine y_iload_n C dX1_dropOldest_31 2 rfl rfl ?_
    obtain ⟨v, vs, e1, e2⟩ := hf i hi6
    refine y_aaldS (N := 6) (f := va_up (mvF f i) (i - 1) (some v0)) (v := v) C dX1_dropOldest_32 1 rfl (vp_in_nI hi6 (by decide)) (by rw [nI_clamp (by omega)]; unfold va_up mvF; rw [if_neg (by omega), if_neg (by omega)]; exact e1) ?_
    rw [em]
    refine y_aastM (N := 6) (f := va_up (mvF f i) (i - 1) (some v0)) (L1 := ([hcC h arr n, acC g arr 6 (mvF f (i + 1))] ++ Ws : List va_W)) C dX1_dropOldest_33 1 rfl (by rw [List.flatten_append]; exact List.mem_append_right _ e2) (vp_in_nI (by omega) (by decide)) (by rw [nI_clamp (by omega), mvF_over, mvF_step f h1 e1]; rfl) ?_
    refine y_aload_n C dX1_dropOldest_34 1 rfl rfl ?_
    refine y_get (Cn := RX1) (T := TX1) (N := 2) (ci := 1) (v := .ref arr) C dX1_dropOldest_35 hX1_dropOldest_X1 0 rfl rfl 0 (Nat.le_of_ble_eq_true rfl) kX1_dropOldest_1 rfl ?_
    refine y_iload_n C dX1_dropOldest_38 2 rfl rfl ?_
    refine y_aload_n C dX1_dropOldest_39 0 rfl rfl ?_
    obtain ⟨v2, vs2, e3, e4⟩ := hf 0 (by omega)
    have e5 : v2 = v0 := Option.some.inj (e3.symm.trans hv0)
    subst e5
    refine y_aastM (N := 6) (f := mvF f (i + 1)) (L1 := ([hcC h arr n, acC g arr 6 (va_up (mvF f (i + 1)) i (some v2))] ++ Ws : List va_W)) C dX1_dropOldest_40 1 rfl (by rw [List.flatten_append]; exact List.mem_append_right _ e4) (vp_in_nI hi6 (by decide)) (by rw [nI_clamp (by omega)]; rfl) ?_
    refine y_iinc (v := nI i + 1) (lv' := [(1, .int (nI i + 1)), (2, .ref v2), (0, .ref h)]) C dX1_dropOldest_41 2 rfl rfl (Nat.le_of_ble_eq_true rfl) rfl ?_
    refine y_goto (tgt := 2) C dX1_dropOldest_44 rfl ?_
    refine y_sub (lv' := [(0, .ref h), (1, .int (nI i + 1))]) [2, 0] rfl ?_
    rw [nI_1]
    exact ih (i + 1) (by omega) (by omega)
set_option maxHeartbeats 4000000 in
set_option maxRecDepth 100000 in
theorem c_X1_dropOldest (g : yG) (h arr : Nat) (n : Int32) (f : Nat → Option Nat) (Ws : List va_W) (hf : ∀ j, j < 6 → ∃ v vs, f j = some v ∧ (v, (.inr (0, vs) : va_E)) ∈ Ws.flatten) (v0 : Nat) (hv0 : f 0 = some v0) : yMv g yX1_dropOldest wsX1_dropOldest ({ frames := 0, cells := 0, slots := 0, locals := 0 } : Room) [.ref h] ([hcC h arr n, acC g arr 6 f] ++ Ws) (fun w => w = ([hcC h arr 5, acC g arr 6 (va_up (mvF f 6) 5 (some v0))] ++ Ws : List va_W)) 0 0 := by
  refine y_entryV (cc := cX1_dropOldest) (maxL := 3) (by decide +kernel) rfl (Nat.le_of_ble_eq_true rfl) (fun Z C _ HRv => ?_)
  have C : yC Z g cX1_dropOldest 3 wsX1_dropOldest RX1 := C
  show yJ Z _ 0 0 _ 0 [(0, .ref h)] []
  refine y_iconst (v := 1) C dX1_dropOldest_0 (by decide) ?_
  refine y_istore_n (lv' := [(1, .int 1), (0, .ref h)]) C dX1_dropOldest_1 rfl (Nat.le_of_ble_eq_true rfl) rfl ?_
  refine y_sub (lv' := [(0, .ref h), (1, .int 1)]) [1, 0] rfl ?_
  have key := w_dropOldest g h arr n f Ws C HRv hf v0 hv0 rfl 5 1 (by omega) (by omega)
  rw [mvF_start f hv0] at key
  exact key
