def fUndo (d : RV) (xs : List RV) : Int32 × RV × List RV := if xs.length = 0 then (-5, d, xs) else (nI xs.dropLast.length, (xs.getLast?).getD d, xs.dropLast)
theorem sh_6013 (g : yG) (x0 ua0 ut0 us0 up0 uh0 ul0 : Nat) (A1 : Nat → Nat) (d1 : RV) (G1 : Nat → Nat → Int32) (h2 r2 : Nat) (d2 : List RV) (R2 : List ((Nat → Nat) × RV × (Nat → Nat → Int32))) : ([mnC x0 ua0 ut0 us0 up0 uh0 ul0, dayC A1 d1] ++ (dayR g A1 d1 G1 ++ [histW g h2 r2 d2 R2]) : List va_W).flatten[0]? = some (x0, .inr (6, [.ref ua0, .ref ut0, .ref us0, .ref up0, .ref uh0, .ref ul0])) := rfl
theorem sh_6014 (g : yG) (x0 ua0 ut0 us0 up0 uh0 ul0 : Nat) (A1 : Nat → Nat) (d1 : RV) (G1 : Nat → Nat → Int32) (h2 r2 : Nat) (d2 : List RV) (R2 : List ((Nat → Nat) × RV × (Nat → Nat → Int32))) : yPick ([mnC x0 ua0 ut0 us0 up0 uh0 ul0, dayC A1 d1] ++ (dayR g A1 d1 G1 ++ [histW g h2 r2 d2 R2]) : List va_W) [1, 14, 2, 3, 4, 5, 6, 7, 8, 9, 10, 11, 12, 13] = ([dayC A1 d1] ++ ([histW g h2 r2 d2 R2] ++ dayR g A1 d1 G1) : List va_W) := rfl
theorem sh_6015 (g : yG) (x0 ua0 ut0 us0 up0 uh0 ul0 : Nat) (A1 : Nat → Nat) (d1 : RV) (G1 : Nat → Nat → Int32) (h2 r2 : Nat) (d2 : List RV) (R2 : List ((Nat → Nat) × RV × (Nat → Nat → Int32))) (n2 : List RV) (k2 : List ((Nat → Nat) × RV × (Nat → Nat → Int32))) (n1 : RV) (k1 : Nat → Nat → Int32) : yPick ([mnC x0 ua0 ut0 us0 up0 uh0 ul0, dayC A1 n1] ++ (dayR g A1 n1 k1 ++ [histW g h2 r2 n2 k2]) : List va_W) [1, 14, 2, 3, 4, 5, 6, 7, 8, 9, 10, 11, 12, 13] = ([dayC A1 n1] ++ ([histW g h2 r2 n2 k2] ++ dayR g A1 n1 k1) : List va_W) ∧ yPick ([mnC x0 ua0 ut0 us0 up0 uh0 ul0, dayC A1 n1] ++ (dayR g A1 n1 k1 ++ [histW g h2 r2 n2 k2]) : List va_W) [0] = yPick ([mnC x0 ua0 ut0 us0 up0 uh0 ul0, dayC A1 d1] ++ (dayR g A1 d1 G1 ++ [histW g h2 r2 d2 R2]) : List va_W) [0] ∧ ([mnC x0 ua0 ut0 us0 up0 uh0 ul0, dayC A1 n1] ++ (dayR g A1 n1 k1 ++ [histW g h2 r2 n2 k2]) : List va_W).length = ([mnC x0 ua0 ut0 us0 up0 uh0 ul0, dayC A1 d1] ++ (dayR g A1 d1 G1 ++ [histW g h2 r2 d2 R2]) : List va_W).length := by
  skip; exact ⟨rfl, Eq.trans (b := ([mnC x0 ua0 ut0 us0 up0 uh0 ul0] : List va_W)) rfl rfl, rfl⟩
theorem dX6_undo_0 : decode cX6_undo 0 = .ok (.aload_n 0, 1) := by decide +kernel
theorem dX6_undo_1 : decode cX6_undo 1 = .ok (.getfield 40, 3) := by decide +kernel
theorem dX6_undo_4 : decode cX6_undo 4 = .ok (.aload_n 0, 1) := by decide +kernel
theorem dX6_undo_5 : decode cX6_undo 5 = .ok (.getfield 12, 3) := by decide +kernel
theorem dX6_undo_8 : decode cX6_undo 8 = .ok (.invokevirtual 216, 3) := by decide +kernel
theorem dX6_undo_11 : decode cX6_undo 11 = .ok (.ifCond .eq 13, 3) := by decide +kernel
theorem dX6_undo_14 : decode cX6_undo 14 = .ok (.aload_n 0, 1) := by decide +kernel
theorem dX6_undo_15 : decode cX6_undo 15 = .ok (.getfield 40, 3) := by decide +kernel
theorem dX6_undo_18 : decode cX6_undo 18 = .ok (.getfield 184, 3) := by decide +kernel
theorem dX6_undo_21 : decode cX6_undo 21 = .ok (.goto 5, 3) := by decide +kernel
theorem dX6_undo_24 : decode cX6_undo 24 = .ok (.bipush (-5), 2) := by decide +kernel
theorem dX6_undo_26 : decode cX6_undo 26 = .ok (.ireturn, 1) := by decide +kernel
set_option maxRecDepth 20000 in
theorem ggX6_undo_X1_takeLatest : GoodIn wsX6_undo wsX1_takeLatest := goodIn_r _ [8, 9, 10, 11, 12, 13, 14, 15, 16, 17, 18, 19, 20, 21, 22, 23, 24, 25, 26, 27, 28, 29, 30, 31, 32, 33, 34, 35, 36, 37, 38, 39, 40, 41, 48, 49, 50, 51, 52, 53, 54, 55, 56, 57, 58, 59, 60, 61, 62, 63, 64, 65, 66] (by decide +kernel) (by decide +kernel)
set_option maxRecDepth 20000 in
theorem gX6_undo_X1_takeLatest : GoodIn wsX6_undo (wsV RX6 216 RX1 yX1_takeLatest wsX1_takeLatest) := goodIn_app (goodIn_of _ (by decide +kernel)) ggX6_undo_X1_takeLatest
theorem kX6_undo_1 : Cond.fieldLink RX6 40 "BookedDetours" "history" "LBookedDetours$History;" ∈ wsX6_undo := List.mem_of_getElem? (i := 1) (by decide +kernel)
theorem kX6_undo_2 : Cond.fieldLink RX6 12 "BookedDetours" "day" "LBookedDetours$Day;" ∈ wsX6_undo := List.mem_of_getElem? (i := 2) (by decide +kernel)
theorem kX6_undo_3 : Cond.fieldLink RX6 184 "BookedDetours$History" "length" "I" ∈ wsX6_undo := List.mem_of_getElem? (i := 3) (by decide +kernel)
theorem hX6_undo_X6 : ∀ w ∈ u_ws RX6 TX6 6, w ∈ wsX6_undo := fun _ h => List.mem_cons_of_mem _ (List.mem_append_left _ (List.mem_append_left _ (List.mem_append_left _ (List.mem_append_right _ h))))
theorem hX6_undo_X1 : ∀ w ∈ u_ws RX1 TX1 2, w ∈ wsX6_undo := fun _ h => List.mem_cons_of_mem _ (List.mem_append_left _ (List.mem_append_left _ (List.mem_append_right _ h)))
set_option maxHeartbeats 4000000 in
set_option maxRecDepth 100000 in
theorem w_undo_14 {Z : yZ} (g : yG) (x rt rs rp rl : Nat) (A : Nat → Nat) (d : RV) (G : Nat → Nat → Int32) (hst arr : Nat) (xs : List RV) (R : HRt) (C : yC Z g cX6_undo 1 wsX6_undo RX6) {post : Int32 → List va_W → Prop} (HR : yRi Z ({ frames := 4, cells := 0, slots := 0, locals := 86 } : Room) cX6_undo .int post 0 0) (hfin : ∀ (xs9 : List RV) (R9 : HRt), post (nI xs.length) ([mnC x (A 0) rt rs rp hst rl, dayC A d] ++ (dayR g A d G ++ [histW g hst arr xs R]) : List va_W)) : yJ Z ({ frames := 4, cells := 0, slots := 0, locals := 86 } : Room) 0 0 ([mnC x (A 0) rt rs rp hst rl, dayC A d] ++ (dayR g A d G ++ [histW g hst arr xs R]) : List va_W) 14 [(0, .ref x)] [] := by
  refine y_fact (F := hOk xs R) (fun A9 hD => hist_mem (g := g) (h := hst) (arr := arr) (by simp) hD) (fun ok => ?_)
  have pw : ([mnC x (A 0) rt rs rp hst rl, dayC A d] ++ (dayR g A d G ++ [histW g hst arr xs R]) : List va_W).flatten.Perm ([mnC x (A 0) rt rs rp hst rl, hcC hst arr (nI xs.length)] ++ [dayC A d ++ ((dayR g A d G).flatten ++ (acC g arr 6 (rmF R) ++ rmW g R))] : List va_W).flatten := by
    have hh := y_permOf [mnC x (A 0) rt rs rp hst rl, dayC A d, (dayR g A d G).flatten, hcC hst arr (nI xs.length), acC g arr 6 (rmF R), rmW g R] [0, 3, 1, 2, 4, 5] [] rfl
    simpa [yPick, histW_pos ok] using hh
  refine y_perm pw ?_
  refine y_aload_n C dX6_undo_14 0 rfl rfl ?_
  refine y_get (Cn := RX6) (T := TX6) (N := 6) (ci := 6) (v := .ref hst) C dX6_undo_15 hX6_undo_X6 0 rfl rfl 4 (Nat.le_of_ble_eq_true rfl) kX6_undo_1 rfl ?_
  refine y_get (Cn := RX1) (T := TX1) (N := 2) (ci := 1) (v := .int (nI xs.length)) C dX6_undo_18 hX6_undo_X1 1 rfl rfl 1 (Nat.le_of_ble_eq_true rfl) kX6_undo_3 rfl ?_
  refine y_perm pw.symm ?_
  refine y_goto (tgt := 26) C dX6_undo_21 rfl ?_
  exact HR 26 dX6_undo_26 (nI xs.length) _ _ _ _ rfl (Nat.le_of_ble_eq_true rfl) (Nat.le_of_ble_eq_true rfl) (hfin xs R)
set_option maxHeartbeats 4000000 in
set_option maxRecDepth 100000 in
theorem c_X6_undo (g : yG) (x rt rs rp rl : Nat) (A : Nat → Nat) (d : RV) (G : Nat → Nat → Int32) (hst arr : Nat) (xs : List RV) (R : HRt) : yM g yX6_undo wsX6_undo ({ frames := 4, cells := 0, slots := 0, locals := 86 } : Room) [.ref x] ([mnC x (A 0) rt rs rp hst rl, dayC A d] ++ (dayR g A d G ++ [histW g hst arr xs R]) : List va_W) (fun r w => ∃ (d' : RV) (G' : Nat → Nat → Int32) (xs' : List RV) (R' : HRt), (r, d', xs') = fUndo d xs ∧ w = ([mnC x (A 0) rt rs rp hst rl, dayC A d'] ++ (dayR g A d' G' ++ [histW g hst arr xs' R']) : List va_W)) 0 0 := by
  refine y_entryI (cc := cX6_undo) (maxL := 1) (by decide +kernel) rfl (Nat.le_of_ble_eq_true rfl) (fun Z C HR => ?_)
  have C : yC Z g cX6_undo 1 wsX6_undo RX6 := C
  show yJ Z _ 0 0 _ 0 [(0, .ref x)] []
  have hK : ∀ (r0 : Int32) (d1 : RV) (xs1 : List RV) (G1 : Nat → Nat → Int32) (R1 : List ((Nat → Nat) × RV × (Nat → Nat → Int32))), (r0, d1, xs1) = fUndo d xs → (fun r w => ∃ (d' : RV) (G' : Nat → Nat → Int32) (xs' : List RV) (R' : HRt), (r, d', xs') = fUndo d xs ∧ w = ([mnC x (A 0) rt rs rp hst rl, dayC A d'] ++ (dayR g A d' G' ++ [histW g hst arr xs' R']) : List va_W)) r0 ([mnC x (A 0) rt rs rp hst rl, dayC A d1] ++ (dayR g A d1 G1 ++ [histW g hst arr xs1 R1]) : List va_W) := fun r0 d1 xs1 G1 R1 hh => ⟨d1, G1, xs1, R1, hh, rfl⟩
  have h : (fun K : Int32 → RV → List RV → Prop => (yl (if xs.length = 0 then (0 : Int32) else (1 : Int32)) (fun r7 => (yl (xs.dropLast) (fun xs1 => (yl ((xs.getLast?).getD d) (fun d4 => (if r7 = 0 then (K (-5 : Int32) d4 xs1) else (K (nI xs1.length) d4 xs1))))))))) (fun r0 d1 xs1 => (r0, d1, xs1) = fUndo d xs) := by
    dsimp only [yl]
    unfold fUndo
    by_cases c : xs.length = 0
    · rw [if_pos c, if_pos rfl, if_pos c]
      have e : xs = [] := List.length_eq_zero_iff.mp c
      subst e
      rfl
    · rw [if_neg c, if_neg (by decide), if_neg c]
  dsimp only at h
  refine y_aload_n C dX6_undo_0 0 rfl rfl ?_
  refine y_get (Cn := RX6) (T := TX6) (N := 6) (v := .ref hst) C dX6_undo_1 hX6_undo_X6 0 (sh_6013 g x (A 0) rt rs rp hst rl A d G hst arr xs R) rfl 4 (Nat.le_of_ble_eq_true rfl) kX6_undo_1 rfl ?_
  refine y_aload_n C dX6_undo_4 0 rfl rfl ?_
  refine y_get (Cn := RX6) (T := TX6) (N := 6) (v := .ref (A 0)) C dX6_undo_5 hX6_undo_X6 0 (sh_6013 g x (A 0) rt rs rp hst rl A d G hst arr xs R) rfl 0 (Nat.le_of_ble_eq_true rfl) kX6_undo_2 rfl ?_
  refine y_callV (As := [.ref (A 0)]) (rest := []) C dX6_undo_8 (c_X1_takeLatest g hst arr xs R A d G) rfl rfl rfl rfl ⟨Nat.le_of_ble_eq_true rfl, Nat.le_of_ble_eq_true rfl⟩ gX6_undo_X1_takeLatest (nA := 1) (by decide +kernel) rfl (hist_recv (List.mem_append_right _ (List.mem_append_left _ (List.mem_singleton.mpr rfl)))) (Nat.le_of_ble_eq_true rfl) ⟨Nat.le_of_ble_eq_true rfl, Nat.le_of_ble_eq_true rfl⟩ [1, 14, 2, 3, 4, 5, 6, 7, 8, 9, 10, 11, 12, 13] [0] (nB := 15) rfl (by decide +kernel) (sh_6014 g x (A 0) rt rs rp hst rl A d G hst arr xs R) (fun r7 w9 hw => ?_)
  obtain ⟨er7, xs1, d4, G2, G5, e3, e6, rfl⟩ := hw
  have h := y_letP h er7
  have h := y_letP h e3
  have h := y_letP h e6
  refine ⟨([mnC x (A 0) rt rs rp hst rl, dayC A d4] ++ (dayR g A d4 G5 ++ [histW g hst arr xs1 G2]) : List va_W), (sh_6015 g x (A 0) rt rs rp hst rl A d G hst arr xs R xs1 G2 d4 G5), ?_⟩
  refine y_if_eq (tgt := 24) C dX6_undo_11 rfl h (fun c11 h => ?_) (fun c11 h => ?_)
  · refine y_bipush (v := -5) C dX6_undo_24 (by decide) ?_
    exact HR 26 dX6_undo_26 (-5 : Int32) _ _ _ _ (rfl) (Nat.le_of_ble_eq_true rfl) (Nat.le_of_ble_eq_true rfl) (hK _ _ _ _ _ h)
  · exact w_undo_14 g x rt rs rp rl A d4 G5 hst arr xs1 G2 C HR (fun xs R => hK _ _ _ _ _ h)
