theorem dX1_takeLatest_0 : decode cX1_takeLatest 0 = .ok (.aload_n 0, 1) := by decide +kernel
theorem dX1_takeLatest_1 : decode cX1_takeLatest 1 = .ok (.getfield 17, 3) := by decide +kernel
theorem dX1_takeLatest_4 : decode cX1_takeLatest 4 = .ok (.iconst 1, 1) := by decide +kernel
theorem dX1_takeLatest_5 : decode cX1_takeLatest 5 = .ok (.if_icmp .lt 15, 3) := by decide +kernel
theorem dX1_takeLatest_8 : decode cX1_takeLatest 8 = .ok (.aload_n 0, 1) := by decide +kernel
theorem dX1_takeLatest_9 : decode cX1_takeLatest 9 = .ok (.getfield 17, 3) := by decide +kernel
theorem dX1_takeLatest_12 : decode cX1_takeLatest 12 = .ok (.aload_n 0, 1) := by decide +kernel
theorem dX1_takeLatest_13 : decode cX1_takeLatest 13 = .ok (.getfield 11, 3) := by decide +kernel
theorem dX1_takeLatest_16 : decode cX1_takeLatest 16 = .ok (.arraylength, 1) := by decide +kernel
theorem dX1_takeLatest_17 : decode cX1_takeLatest 17 = .ok (.if_icmp .le 5, 3) := by decide +kernel
theorem dX1_takeLatest_20 : decode cX1_takeLatest 20 = .ok (.iconst 0, 1) := by decide +kernel
theorem dX1_takeLatest_21 : decode cX1_takeLatest 21 = .ok (.ireturn, 1) := by decide +kernel
theorem dX1_takeLatest_22 : decode cX1_takeLatest 22 = .ok (.aload_n 0, 1) := by decide +kernel
theorem dX1_takeLatest_23 : decode cX1_takeLatest 23 = .ok (.getfield 11, 3) := by decide +kernel
theorem dX1_takeLatest_26 : decode cX1_takeLatest 26 = .ok (.aload_n 0, 1) := by decide +kernel
theorem dX1_takeLatest_27 : decode cX1_takeLatest 27 = .ok (.getfield 17, 3) := by decide +kernel
theorem dX1_takeLatest_30 : decode cX1_takeLatest 30 = .ok (.iconst 1, 1) := by decide +kernel
theorem dX1_takeLatest_31 : decode cX1_takeLatest 31 = .ok (.isub, 1) := by decide +kernel
theorem dX1_takeLatest_32 : decode cX1_takeLatest 32 = .ok (.aaload, 1) := by decide +kernel
theorem dX1_takeLatest_33 : decode cX1_takeLatest 33 = .ok (.astore_n 2, 1) := by decide +kernel
theorem dX1_takeLatest_34 : decode cX1_takeLatest 34 = .ok (.aload_n 2, 1) := by decide +kernel
theorem dX1_takeLatest_35 : decode cX1_takeLatest 35 = .ok (.ifnonnull 5, 3) := by decide +kernel
theorem dX1_takeLatest_38 : decode cX1_takeLatest 38 = .ok (.iconst 0, 1) := by decide +kernel
theorem dX1_takeLatest_39 : decode cX1_takeLatest 39 = .ok (.ireturn, 1) := by decide +kernel
theorem dX1_takeLatest_40 : decode cX1_takeLatest 40 = .ok (.aload_n 1, 1) := by decide +kernel
theorem dX1_takeLatest_41 : decode cX1_takeLatest 41 = .ok (.aload_n 2, 1) := by decide +kernel
theorem dX1_takeLatest_42 : decode cX1_takeLatest 42 = .ok (.invokevirtual 25, 3) := by decide +kernel
theorem dX1_takeLatest_45 : decode cX1_takeLatest 45 = .ok (.aload_n 0, 1) := by decide +kernel
theorem dX1_takeLatest_46 : decode cX1_takeLatest 46 = .ok (.dup, 1) := by decide +kernel
theorem dX1_takeLatest_47 : decode cX1_takeLatest 47 = .ok (.getfield 17, 3) := by decide +kernel
theorem dX1_takeLatest_50 : decode cX1_takeLatest 50 = .ok (.iconst 1, 1) := by decide +kernel
theorem dX1_takeLatest_51 : decode cX1_takeLatest 51 = .ok (.isub, 1) := by decide +kernel
theorem dX1_takeLatest_52 : decode cX1_takeLatest 52 = .ok (.putfield 17, 3) := by decide +kernel
theorem dX1_takeLatest_55 : decode cX1_takeLatest 55 = .ok (.iconst 1, 1) := by decide +kernel
theorem dX1_takeLatest_56 : decode cX1_takeLatest 56 = .ok (.ireturn, 1) := by decide +kernel
set_option maxRecDepth 20000 in
theorem ggX1_takeLatest_X0_copy : GoodIn wsX1_takeLatest wsX0_copy := goodIn_r _ [7, 8, 9, 10, 11, 12, 13, 14, 15, 16, 17, 18, 19, 20, 21, 22, 23, 24, 25, 26, 27, 28, 29, 30, 31, 32, 33, 36, 37, 38, 39, 40, 41, 42, 43, 44, 45, 46, 47, 48, 49, 50, 51, 52] (by decide +kernel) (by decide +kernel)
set_option maxRecDepth 20000 in
theorem gX1_takeLatest_X0_copy : GoodIn wsX1_takeLatest (wsV RX1 25 RX0 yX0_copy wsX0_copy) := goodIn_app (goodIn_of _ (by decide +kernel)) ggX1_takeLatest_X0_copy
theorem kX1_takeLatest_2 : Cond.fieldLink RX1 11 "BookedDetours$History" "days" "[LBookedDetours$Day;" ∈ wsX1_takeLatest := List.mem_of_getElem? (i := 2) (by decide +kernel)
theorem kX1_takeLatest_1 : Cond.fieldLink RX1 17 "BookedDetours$History" "length" "I" ∈ wsX1_takeLatest := List.mem_of_getElem? (i := 1) (by decide +kernel)
theorem hX1_takeLatest_X1 : ∀ w ∈ u_ws RX1 TX1 2, w ∈ wsX1_takeLatest := fun _ h => List.mem_cons_of_mem _ (List.mem_append_left _ (List.mem_append_left _ (List.mem_append_right _ h)))
def takePost (g : yG) (h arr : Nat) (xs : List RV) (A : Nat → Nat) (d : RV) : Int32 → List va_W → Prop := (fun r w => r = (if xs.length = 0 then 0 else 1) ∧ ∃ (xs' : List RV) (d' : RV), ∃ (R' : HR) (G' : Nat → Nat → Int32), xs' = xs.dropLast ∧ d' = (xs.getLast?).getD d ∧ w = ([dayC A d'] ++ ([histW g h arr xs' R'] ++ dayR g A d' G') : List va_W))
theorem sh_h6 (g : yG) (h arr : Nat) (n : Int32) (f : Nat → Option Nat) (A Ax : Nat → Nat) (d dx : RV) (G Gx : Nat → Nat → Int32) (r : va_W) : yPick ([hcC h arr n, acC g arr 6 f, dayC A d, dayC Ax dx] ++ (dayR g A d G ++ (dayR g Ax dx Gx ++ [r])) : List va_W) [2, 3, 4, 5, 6, 7, 8, 9, 10, 11, 12, 13, 14, 15, 16, 17, 18, 19, 20, 21, 22, 23, 24, 25, 26, 27] = ([dayC A d, dayC Ax dx] ++ (dayR g A d G ++ dayR g Ax dx Gx) : List va_W) := rfl
theorem hOk_pop {xs : List RV} {P S : HR} {x : (Nat → Nat) × RV × (Nat → Nat → Int32)} (h1 : xs = P.map (fun x => x.2.1)) (h2 : (P ++ x :: S).length ≤ 6) : hOk xs (P ++ x :: S) := by
  subst h1
  refine ⟨by simp, h2, ?_⟩
  rw [List.length_map, List.take_append, List.take_of_length_le (Nat.le_refl _)]
  simp
set_option maxHeartbeats 4000000 in
set_option maxRecDepth 100000 in
theorem take_some {Z : yZ} (g : yG) (h arr : Nat) (n : Nat) (hn : n < 6) (f : Nat → Option Nat) (A Ax : Nat → Nat) (d dx : RV) (G Gx : Nat → Nat → Int32) (r : va_W) (hf : f n = some (Ax 0)) (C : yC Z g cX1_takeLatest 3 wsX1_takeLatest RX1) {post : Int32 → List va_W → Prop} (HRv : yRi Z ({ frames := 3, cells := 0, slots := 0, locals := 64 } : Room) cX1_takeLatest .boolean post 0 0) (hfin : ∀ G' : Nat → Nat → Int32, ∃ w, ([hcC h arr (nI n), acC g arr 6 f, dayC A dx, dayC Ax dx] ++ (dayR g A dx G' ++ (dayR g Ax dx Gx ++ [r])) : List va_W).flatten.Perm w.flatten ∧ post 1 w) : yJ Z ({ frames := 3, cells := 0, slots := 0, locals := 64 } : Room) 0 0 ([hcC h arr (nI (n + 1)), acC g arr 6 f, dayC A d, dayC Ax dx] ++ (dayR g A d G ++ (dayR g Ax dx Gx ++ [r])) : List va_W) 0 [(0, .ref h), (1, .ref (A 0))] [] := by
  refine y_aload_n C dX1_takeLatest_0 0 rfl rfl ?_
  refine y_get (Cn := RX1) (T := TX1) (N := 2) (ci := 1) (v := .int (nI (n + 1))) C dX1_takeLatest_1 hX1_takeLatest_X1 0 rfl rfl 1 (Nat.le_of_ble_eq_true rfl) kX1_takeLatest_1 rfl ?_
  refine y_iconst (v := 1) C dX1_takeLatest_4 (by decide) ?_
  refine y_icmp_lt (tgt := 20) C dX1_takeLatest_5 rfl (y_same (c := nI (n + 1) < 1) trivial) (fun c _ => absurd c (nI_nlt (a := n + 1) (b := 1) (by omega) (by omega))) (fun _ _ => ?_)
  refine y_aload_n C dX1_takeLatest_8 0 rfl rfl ?_
  refine y_get (Cn := RX1) (T := TX1) (N := 2) (ci := 1) (v := .int (nI (n + 1))) C dX1_takeLatest_9 hX1_takeLatest_X1 0 rfl rfl 1 (Nat.le_of_ble_eq_true rfl) kX1_takeLatest_1 rfl ?_
  refine y_aload_n C dX1_takeLatest_12 0 rfl rfl ?_
  refine y_get (Cn := RX1) (T := TX1) (N := 2) (ci := 1) (v := .ref arr) C dX1_takeLatest_13 hX1_takeLatest_X1 0 rfl rfl 0 (Nat.le_of_ble_eq_true rfl) kX1_takeLatest_2 rfl ?_
  refine y_alenO (N := 6) (f := f) (v := nI 6) C dX1_takeLatest_16 1 rfl rfl ?_
  refine y_icmp_le (tgt := 22) C dX1_takeLatest_17 rfl (y_same (c := nI (n + 1) ≤ nI 6) trivial) (fun _ _ => ?_) (fun c _ => absurd (nI_le (by omega) (by omega)) c)
  refine y_aload_n C dX1_takeLatest_22 0 rfl rfl ?_
  refine y_get (Cn := RX1) (T := TX1) (N := 2) (ci := 1) (v := .ref arr) C dX1_takeLatest_23 hX1_takeLatest_X1 0 rfl rfl 0 (Nat.le_of_ble_eq_true rfl) kX1_takeLatest_2 rfl ?_
  refine y_aload_n C dX1_takeLatest_26 0 rfl rfl ?_
  refine y_get (Cn := RX1) (T := TX1) (N := 2) (ci := 1) (v := .int (nI (n + 1))) C dX1_takeLatest_27 hX1_takeLatest_X1 0 rfl rfl 1 (Nat.le_of_ble_eq_true rfl) kX1_takeLatest_1 rfl ?_
  refine y_iconst (v := 1) C dX1_takeLatest_30 (by decide) ?_
  refine y_isub C dX1_takeLatest_31 ?_
  rw [nI_pred]
  refine y_aaldS (N := 6) (f := f) (v := Ax 0) C dX1_takeLatest_32 1 rfl (vp_in_nI hn (by decide)) (by rw [nI_clamp (by omega)]; exact hf) ?_
  refine y_astore_n (lv' := [(2, .ref (Ax 0)), (0, .ref h), (1, .ref (A 0))]) C dX1_takeLatest_33 rfl (Nat.le_of_ble_eq_true rfl) rfl ?_
  refine y_aload_n C dX1_takeLatest_34 0 rfl rfl ?_
  refine y_ifnonnull (tgt := 40) C dX1_takeLatest_35 rfl ?_
  refine y_aload_n C dX1_takeLatest_40 2 rfl rfl ?_
  refine y_aload_n C dX1_takeLatest_41 0 rfl rfl ?_
  refine y_callVv (As := [.ref (Ax 0)]) (rest := []) C dX1_takeLatest_42 (k_X0_copy g A d G Ax dx Gx) rfl rfl rfl rfl ⟨Nat.le_of_ble_eq_true rfl, Nat.le_of_ble_eq_true rfl⟩ gX1_takeLatest_X0_copy (nA := 1) (by decide +kernel) rfl (yRecv.of (q0 := 0) (ci := 0) rfl rfl) (Nat.le_of_ble_eq_true rfl) ⟨Nat.le_of_ble_eq_true rfl, Nat.le_of_ble_eq_true rfl⟩ [2, 3, 4, 5, 6, 7, 8, 9, 10, 11, 12, 13, 14, 15, 16, 17, 18, 19, 20, 21, 22, 23, 24, 25, 26, 27] [0, 1, 28] (nB := 29) rfl (by decide +kernel) (sh_h6 g h arr (nI (n + 1)) f A Ax d dx G Gx r) (fun w9 hw => ?_)
  obtain ⟨d', G', e1, rfl⟩ := hw
  have e1 := e1.symm
  subst e1
  refine ⟨([hcC h arr (nI (n + 1)), acC g arr 6 f, dayC A dx, dayC Ax dx] ++ (dayR g A dx G' ++ (dayR g Ax dx Gx ++ [r])) : List va_W), ⟨sh_h6 g h arr (nI (n + 1)) f A Ax dx dx G' Gx r, (sh_h2 g h arr (nI (n + 1)) f A Ax dx dx G' Gx r).trans (sh_h2 g h arr (nI (n + 1)) f A Ax d dx G Gx r).symm, rfl⟩, ?_⟩
  refine y_aload_n C dX1_takeLatest_45 1 rfl rfl ?_
  refine y_dup C dX1_takeLatest_46 rfl ?_
  refine y_get (Cn := RX1) (T := TX1) (N := 2) (ci := 1) (v := .int (nI (n + 1))) C dX1_takeLatest_47 hX1_takeLatest_X1 0 rfl rfl 1 (Nat.le_of_ble_eq_true rfl) kX1_takeLatest_1 rfl ?_
  refine y_iconst (v := 1) C dX1_takeLatest_50 (by decide) ?_
  refine y_isub C dX1_takeLatest_51 ?_
  rw [nI_pred]
  obtain ⟨w, hw1, hw2⟩ := hfin G'
  refine y_put (Cn := RX1) (T := TX1) (N := 2) (ci := 1) (v := .int (nI n)) (ty0 := tyX1) (L1 := ([hcC h arr (nI n), acC g arr 6 f, dayC A dx, dayC Ax dx] ++ (dayR g A dx G' ++ (dayR g Ax dx Gx ++ [r])) : List va_W)) C dX1_takeLatest_52 hX1_takeLatest_X1 0 rfl rfl 1 (Nat.le_of_ble_eq_true rfl) kX1_takeLatest_1 tyX1_ok nmX1 rfl rfl rfl (Nat.le_of_ble_eq_true rfl) rfl ?_
  refine y_iconst (v := 1) C dX1_takeLatest_55 (by decide) ?_
  refine y_perm hw1 ?_
  exact HRv 56 dX1_takeLatest_56 1 _ _ _ _ rfl (Nat.le_of_ble_eq_true rfl) (Nat.le_of_ble_eq_true rfl) hw2
set_option maxHeartbeats 4000000 in
set_option maxRecDepth 100000 in
theorem c_X1_takeLatest (g : yG) (h arr : Nat) (xs : List RV) (R : HR) (A : Nat → Nat) (d : RV) (G : Nat → Nat → Int32) : yM g yX1_takeLatest wsX1_takeLatest ({ frames := 3, cells := 0, slots := 0, locals := 64 } : Room) [.ref h, .ref (A 0)] ([dayC A d] ++ ([histW g h arr xs R] ++ dayR g A d G) : List va_W) (fun r w => r = (if xs.length = 0 then 0 else 1) ∧ ∃ (xs' : List RV) (d' : RV), ∃ (R' : HR) (G' : Nat → Nat → Int32), xs' = xs.dropLast ∧ d' = (xs.getLast?).getD d ∧ w = ([dayC A d'] ++ ([histW g h arr xs' R'] ++ dayR g A d' G') : List va_W)) 0 0 := by
  refine yM_fact (F := hOk xs R) (fun A9 hD => hist_mem (g := g) (h := h) (arr := arr) (by simp) hD) (fun ok => ?_)
  have ok0 := ok
  obtain ⟨o1, o2, o3⟩ := ok
  refine y_entryI (cc := cX1_takeLatest) (maxL := 3) (by decide +kernel) rfl (Nat.le_of_ble_eq_true rfl) (fun Z C HRv => ?_)
  have C : yC Z g cX1_takeLatest 3 wsX1_takeLatest RX1 := C
  show yJ Z _ 0 0 _ 0 [(0, .ref h), (1, .ref (A 0))] []
  by_cases c0 : xs.length = 0
  · obtain rfl : xs = [] := List.length_eq_zero_iff.mp c0
    refine y_perm (hist_open ok0) ?_
    refine y_aload_n C dX1_takeLatest_0 0 rfl rfl ?_
    refine y_get (Cn := RX1) (T := TX1) (N := 2) (ci := 1) (v := .int (nI 0)) C dX1_takeLatest_1 hX1_takeLatest_X1 0 rfl rfl 1 (Nat.le_of_ble_eq_true rfl) kX1_takeLatest_1 rfl ?_
    refine y_iconst (v := 1) C dX1_takeLatest_4 (by decide) ?_
    refine y_icmp_lt (tgt := 20) C dX1_takeLatest_5 rfl (y_same (c := nI 0 < 1) trivial) (fun _ _ => ?_) (fun c _ => absurd (by decide) c)
    refine y_iconst (v := 0) C dX1_takeLatest_20 (by decide) ?_
    refine y_perm (hist_open ok0).symm ?_
    exact HRv 21 dX1_takeLatest_21 0 _ _ _ _ rfl (Nat.le_of_ble_eq_true rfl) (Nat.le_of_ble_eq_true rfl) ⟨rfl, [], d, R, G, rfl, rfl, rfl⟩
  · obtain ⟨n, hn⟩ : ∃ n, xs.length = n + 1 := ⟨xs.length - 1, by omega⟩
    have cR : n < R.length := by omega
    obtain ⟨P1, y, S1, e1, e2⟩ : ∃ P1 y S1, R = P1 ++ y :: S1 ∧ P1.length = n := ⟨R.take n, R[n], R.drop (n + 1), by rw [← List.drop_eq_getElem_cons cR, List.take_append_drop], by simp; omega⟩
    obtain ⟨Ax, dx, Gx⟩ := y
    subst e1
    have hxs : xs = P1.map (fun x => x.2.1) ++ [dx] := by
      rw [hn, ← e2] at o3
      rw [o3, List.take_append, List.take_of_length_le (by omega)]
      simp
    have hdl : xs.dropLast = P1.map (fun x => x.2.1) := by rw [hxs]; simp
    have hgl : (xs.getLast?).getD d = dx := by rw [hxs]; simp
    refine y_perm (hist_openX (P := P1) (S := S1) (Ax := Ax) (dx := dx) (Gx := Gx) ok0) ?_
    rw [hn]
    have hat := rmF_at P1 S1 (Ax, dx, Gx)
    rw [e2] at hat
    have hfin : ∀ G' : Nat → Nat → Int32, ∃ w, ([hcC h arr (nI n), acC g arr 6 (rmF (P1 ++ (Ax, dx, Gx) :: S1)), dayC A dx, dayC Ax dx] ++ (dayR g A dx G' ++ (dayR g Ax dx Gx ++ [rmW g P1 ++ rmW g S1])) : List va_W).flatten.Perm w.flatten ∧ takePost g h arr xs A d 1 w := by
      intro G'
      refine ⟨_, ?_, by rw [if_neg c0], xs.dropLast, dx, P1 ++ (Ax, dx, Gx) :: S1, G', rfl, hgl.symm, rfl⟩
      have hp := hist_openX (g := g) (h := h) (arr := arr) (A := A) (d := dx) (G := G') (hOk_pop (x := (Ax, dx, Gx)) hdl o2)
      rw [show xs.dropLast.length = n by rw [hdl]; simp [e2]] at hp
      exact hp.symm
    exact take_some g h arr n (by omega) (rmF (P1 ++ (Ax, dx, Gx) :: S1)) A Ax d dx G Gx (rmW g P1 ++ rmW g S1) hat C HRv hfin
