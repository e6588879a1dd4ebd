theorem dX6_restore_0 : decode cX6_restore 0 = .ok (.iload_n 1, 1) := by decide +kernel
theorem dX6_restore_1 : decode cX6_restore 1 = .ok (.ifCond .lt 12, 3) := by decide +kernel
theorem dX6_restore_4 : decode cX6_restore 4 = .ok (.iload_n 1, 1) := by decide +kernel
theorem dX6_restore_5 : decode cX6_restore 5 = .ok (.aload_n 0, 1) := by decide +kernel
theorem dX6_restore_6 : decode cX6_restore 6 = .ok (.getfield 44, 3) := by decide +kernel
theorem dX6_restore_9 : decode cX6_restore 9 = .ok (.arraylength, 1) := by decide +kernel
theorem dX6_restore_10 : decode cX6_restore 10 = .ok (.if_icmp .lt 6, 3) := by decide +kernel
theorem dX6_restore_13 : decode cX6_restore 13 = .ok (.bipush (-2), 2) := by decide +kernel
theorem dX6_restore_15 : decode cX6_restore 15 = .ok (.ireturn, 1) := by decide +kernel
theorem dX6_restore_16 : decode cX6_restore 16 = .ok (.aload_n 0, 1) := by decide +kernel
theorem dX6_restore_17 : decode cX6_restore 17 = .ok (.getfield 44, 3) := by decide +kernel
theorem dX6_restore_20 : decode cX6_restore 20 = .ok (.iload_n 1, 1) := by decide +kernel
theorem dX6_restore_21 : decode cX6_restore 21 = .ok (.aaload, 1) := by decide +kernel
theorem dX6_restore_22 : decode cX6_restore 22 = .ok (.astore_n 2, 1) := by decide +kernel
theorem dX6_restore_23 : decode cX6_restore 23 = .ok (.aload_n 2, 1) := by decide +kernel
theorem dX6_restore_24 : decode cX6_restore 24 = .ok (.ifnonnull 6, 3) := by decide +kernel
theorem dX6_restore_27 : decode cX6_restore 27 = .ok (.bipush (-5), 2) := by decide +kernel
theorem dX6_restore_29 : decode cX6_restore 29 = .ok (.ireturn, 1) := by decide +kernel
theorem dX6_restore_30 : decode cX6_restore 30 = .ok (.aload_n 0, 1) := by decide +kernel
theorem dX6_restore_31 : decode cX6_restore 31 = .ok (.getfield 40, 3) := by decide +kernel
theorem dX6_restore_34 : decode cX6_restore 34 = .ok (.aload_n 0, 1) := by decide +kernel
theorem dX6_restore_35 : decode cX6_restore 35 = .ok (.getfield 12, 3) := by decide +kernel
theorem dX6_restore_38 : decode cX6_restore 38 = .ok (.invokevirtual 65, 3) := by decide +kernel
theorem dX6_restore_41 : decode cX6_restore 41 = .ok (.aload_n 0, 1) := by decide +kernel
theorem dX6_restore_42 : decode cX6_restore 42 = .ok (.getfield 12, 3) := by decide +kernel
theorem dX6_restore_45 : decode cX6_restore 45 = .ok (.aload_n 2, 1) := by decide +kernel
theorem dX6_restore_46 : decode cX6_restore 46 = .ok (.invokevirtual 93, 3) := by decide +kernel
theorem dX6_restore_49 : decode cX6_restore 49 = .ok (.aload_n 0, 1) := by decide +kernel
theorem dX6_restore_50 : decode cX6_restore 50 = .ok (.getfield 12, 3) := by decide +kernel
theorem dX6_restore_53 : decode cX6_restore 53 = .ok (.getfield 100, 3) := by decide +kernel
theorem dX6_restore_56 : decode cX6_restore 56 = .ok (.invokevirtual 59, 3) := by decide +kernel
theorem dX6_restore_59 : decode cX6_restore 59 = .ok (.ireturn, 1) := by decide +kernel
set_option maxRecDepth 20000 in
theorem ggX6_restore_X1_add : GoodIn wsX6_restore wsX1_add := goodIn_r _ [9, 10, 11, 12, 13, 14, 15, 16, 17, 8, 18, 19, 20, 21, 22, 23, 24, 25, 26, 27, 28, 29, 30, 31, 32, 33, 34, 35, 36, 37, 38, 39, 40, 41, 42, 43, 44, 45, 46, 47, 48, 49, 50, 51, 52, 53, 54, 55, 56, 57, 58, 59, 60, 61, 62, 63, 64, 65, 66, 67, 68, 69, 70, 71, 72, 99, 100, 84, 85, 86, 87, 88, 89, 90, 91, 92, 93, 94, 95, 96, 97, 98, 101, 102] (by decide +kernel) (by decide +kernel)
set_option maxRecDepth 20000 in
theorem gX6_restore_X1_add : GoodIn wsX6_restore (wsV RX6 65 RX1 yX1_add wsX1_add) := goodIn_app (goodIn_of _ (by decide +kernel)) ggX6_restore_X1_add
set_option maxRecDepth 20000 in
theorem ggX6_restore_X0_copy : GoodIn wsX6_restore wsX0_copy := goodIn_r _ [62, 28, 29, 30, 31, 32, 33, 34, 35, 36, 37, 38, 39, 63, 64, 65, 66, 67, 68, 27, 69, 54, 49, 70, 71, 46, 72, 84, 85, 86, 87, 88, 89, 90, 91, 92, 93, 94, 95, 96, 97, 98, 101, 102] (by decide +kernel) (by decide +kernel)
set_option maxRecDepth 20000 in
theorem gX6_restore_X0_copy : GoodIn wsX6_restore (wsV RX6 93 RX0 yX0_copy wsX0_copy) := goodIn_app (goodIn_of _ (by decide +kernel)) ggX6_restore_X0_copy
set_option maxRecDepth 20000 in
theorem ggX6_restore_X3_length : GoodIn wsX6_restore wsX3_length := goodIn_r _ [77, 54, 101, 102] (by decide +kernel) (by decide +kernel)
set_option maxRecDepth 20000 in
theorem gX6_restore_X3_length : GoodIn wsX6_restore (wsV RX6 59 RX3 yX3_length wsX3_length) := goodIn_app (goodIn_of _ (by decide +kernel)) ggX6_restore_X3_length
theorem kX6_restore_2 : Cond.fieldLink RX6 40 "BookedDetours" "history" "LBookedDetours$History;" ∈ wsX6_restore := List.mem_of_getElem? (i := 2) (by decide +kernel)
theorem kX6_restore_3 : Cond.fieldLink RX6 12 "BookedDetours" "day" "LBookedDetours$Day;" ∈ wsX6_restore := List.mem_of_getElem? (i := 3) (by decide +kernel)
theorem kX6_restore_4 : Cond.fieldLink RX6 100 "BookedDetours$Day" "stands" "LBookedDetours$Row;" ∈ wsX6_restore := List.mem_of_getElem? (i := 4) (by decide +kernel)
theorem kX6_restore_1 : Cond.fieldLink RX6 44 "BookedDetours" "slots" "[LBookedDetours$Day;" ∈ wsX6_restore := List.mem_of_getElem? (i := 1) (by decide +kernel)
theorem hX6_restore_X6 : ∀ w ∈ u_ws RX6 TX6 6, w ∈ wsX6_restore := fun _ h => List.mem_cons_of_mem _ (List.mem_append_left _ (List.mem_append_left _ (List.mem_append_left _ (List.mem_append_right _ h))))
theorem hX6_restore_X0 : ∀ w ∈ u_ws RX0 TX0 15, w ∈ wsX6_restore := fun _ h => List.mem_cons_of_mem _ (List.mem_append_left _ (List.mem_append_left _ (List.mem_append_right _ h)))
set_option maxHeartbeats 4000000 in
set_option maxRecDepth 100000 in
theorem w_restore_30 {Z : yZ} (g : yG) (x rt rs rp sl : Nat) (A : Nat → Nat) (d : RV) (G : Nat → Nat → Int32) (B : Nat → Nat) (e : RV) (GB : Nat → Nat → Int32) (hst arr : Nat) (xs : List RV) (R : HRt) (z : va_W) (i : Int32) (C : yC Z g cX6_restore 3 wsX6_restore RX6) {post : Int32 → List va_W → Prop} (HR : yRi Z ({ frames := 4, cells := 25, slots := 236, locals := 142 } : Room) cX6_restore .int post 25 236) (hfin : ∀ (G' : Nat → Nat → Int32) (R' : HRt), post (rLen (e.1 8)) ([mnC x (A 0) rt rs rp hst sl, dayC A e, dayC B e] ++ (dayR g A e G' ++ (dayR g B e GB ++ ([histW g hst arr (fHist xs d) R'] ++ [z]))) : List va_W)) : yJ Z ({ frames := 4, cells := 25, slots := 236, locals := 142 } : Room) 0 0 ([mnC x (A 0) rt rs rp hst sl, dayC A d, dayC B e] ++ (dayR g A d G ++ (dayR g B e GB ++ ([histW g hst arr xs R] ++ [z]))) : List va_W) 30 [(2, .ref (B 0)), (0, .ref x), (1, .int i)] [] := by
  have hK : ∀ (r0 : Int32) (d1 : RV) (xs1 : List RV) (G1 : Nat → Nat → Int32) (R1 : HRt), (r0 = rLen (e.1 8) ∧ d1 = e ∧ xs1 = fHist xs d) → post r0 ([mnC x (A 0) rt rs rp hst sl, dayC A d1, dayC B e] ++ (dayR g A d1 G1 ++ (dayR g B e GB ++ ([histW g hst arr xs1 R1] ++ [z]))) : List va_W) := by
    rintro r0 d1 xs1 G1 R1 ⟨rfl, rfl, rfl⟩
    exact hfin G1 R1
  have h : (fun K : Int32 → RV → List RV → Prop => (yl ((if 6 ≤ xs.length then xs.drop 1 else xs) ++ [d]) (fun xs1 => (yl e (fun d4 => (yl (rLen (d4.1 8)) (fun r7 => (K r7 d4 xs1)))))))) (fun r0 d1 xs1 => r0 = rLen (e.1 8) ∧ d1 = e ∧ xs1 = fHist xs d) := ⟨rfl, rfl, rfl⟩
  dsimp only at h
  refine y_aload_n C dX6_restore_30 1 rfl rfl ?_
  refine y_get (Cn := RX6) (T := TX6) (N := 6) (v := .ref hst) C dX6_restore_31 hX6_restore_X6 0 (sh_6006 g x (A 0) rt rs rp hst sl A d G B e GB hst arr xs R z) rfl 4 (Nat.le_of_ble_eq_true rfl) kX6_restore_2 rfl ?_
  refine y_aload_n C dX6_restore_34 1 rfl rfl ?_
  refine y_get (Cn := RX6) (T := TX6) (N := 6) (v := .ref (A 0)) C dX6_restore_35 hX6_restore_X6 0 (sh_6006 g x (A 0) rt rs rp hst sl A d G B e GB hst arr xs R z) rfl 0 (Nat.le_of_ble_eq_true rfl) kX6_restore_3 rfl ?_
  refine y_callVv (As := [.ref (A 0)]) (rest := []) C dX6_restore_38 (c_X1_add g hst arr xs R A d G) rfl rfl rfl rfl ⟨Nat.le_of_ble_eq_true rfl, Nat.le_of_ble_eq_true rfl⟩ gX6_restore_X1_add (nA := 1) (by decide +kernel) rfl (hist_recv (List.mem_append_right _ (List.mem_append_left _ (List.mem_singleton.mpr rfl)))) (Nat.le_of_ble_eq_true rfl) ⟨Nat.le_of_ble_eq_true rfl, Nat.le_of_ble_eq_true rfl⟩ [1, 27, 3, 4, 5, 6, 7, 8, 9, 10, 11, 12, 13, 14] [0, 2, 15, 16, 17, 18, 19, 20, 21, 22, 23, 24, 25, 26, 28] (nB := 29) rfl (by decide +kernel) (sh_6007 g x (A 0) rt rs rp hst sl A d G B e GB hst arr xs R z) (fun w9 hw => ?_)
  obtain ⟨xs1, G2, e3, rfl⟩ := hw
  have h := y_letP h e3
  refine ⟨([mnC x (A 0) rt rs rp hst sl, dayC A d, dayC B e] ++ (dayR g A d G ++ (dayR g B e GB ++ ([histW g hst arr xs1 G2] ++ [z]))) : List va_W), (sh_6008 g x (A 0) rt rs rp hst sl A d G B e GB hst arr xs R z xs1 G2), ?_⟩
  refine y_aload_n C dX6_restore_41 1 rfl rfl ?_
  refine y_get (Cn := RX6) (T := TX6) (N := 6) (v := .ref (A 0)) C dX6_restore_42 hX6_restore_X6 0 (sh_6006 g x (A 0) rt rs rp hst sl A d G B e GB hst arr xs1 G2 z) rfl 0 (Nat.le_of_ble_eq_true rfl) kX6_restore_3 rfl ?_
  refine y_aload_n C dX6_restore_45 0 rfl rfl ?_
  refine y_callVv (As := [.ref (B 0)]) (rest := []) C dX6_restore_46 (k_X0_copy g A d G B e GB) rfl rfl rfl rfl ⟨Nat.le_of_ble_eq_true rfl, Nat.le_of_ble_eq_true rfl⟩ gX6_restore_X0_copy (nA := 1) (by decide +kernel) rfl (sh_6002 g A d G B e GB) (Nat.le_of_ble_eq_true rfl) ⟨Nat.le_of_ble_eq_true rfl, Nat.le_of_ble_eq_true rfl⟩ [1, 2, 3, 4, 5, 6, 7, 8, 9, 10, 11, 12, 13, 14, 15, 16, 17, 18, 19, 20, 21, 22, 23, 24, 25, 26] [0, 27, 28] (nB := 29) rfl (by decide +kernel) (sh_6009 g x (A 0) rt rs rp hst sl A d G B e GB hst arr xs1 G2 z) (fun w9 hw => ?_)
  obtain ⟨d4, G5, e6, rfl⟩ := hw
  have h := y_letP h e6
  refine ⟨([mnC x (A 0) rt rs rp hst sl, dayC A d4, dayC B e] ++ (dayR g A d4 G5 ++ (dayR g B e GB ++ ([histW g hst arr xs1 G2] ++ [z]))) : List va_W), (sh_6010 g x (A 0) rt rs rp hst sl A d G B e GB hst arr xs1 G2 z d4 G5), ?_⟩
  refine y_aload_n C dX6_restore_49 1 rfl rfl ?_
  refine y_get (Cn := RX6) (T := TX6) (N := 6) (v := .ref (A 0)) C dX6_restore_50 hX6_restore_X6 0 (sh_6006 g x (A 0) rt rs rp hst sl A d4 G5 B e GB hst arr xs1 G2 z) rfl 0 (Nat.le_of_ble_eq_true rfl) kX6_restore_3 rfl ?_
  refine y_get (Cn := RX0) (T := TX0) (N := 15) (v := .ref (A 17)) C dX6_restore_53 hX6_restore_X0 1 (sh_6011 g x (A 0) rt rs rp hst sl A d4 G5 B e GB hst arr xs1 G2 z) rfl 8 (Nat.le_of_ble_eq_true rfl) kX6_restore_4 rfl ?_
  refine y_callV (As := []) (rest := []) C dX6_restore_56 (c_X3_length g (A 17) (A 18) 17 (d4.1 8) (G5 8) (by decide)) rfl rfl rfl rfl ⟨Nat.le_of_ble_eq_true rfl, Nat.le_of_ble_eq_true rfl⟩ gX6_restore_X3_length (nA := 0) (by decide +kernel) rfl (rowW_recv ⟨_, rfl⟩) (Nat.le_of_ble_eq_true rfl) ⟨Nat.le_of_ble_eq_true rfl, Nat.le_of_ble_eq_true rfl⟩ [11] [0, 1, 2, 3, 4, 5, 6, 7, 8, 9, 10, 12, 13, 14, 15, 16, 17, 18, 19, 20, 21, 22, 23, 24, 25, 26, 27, 28] (nB := 29) rfl (by decide +kernel) (sh_6012 g x (A 0) rt rs rp hst sl A d4 G5 B e GB hst arr xs1 G2 z) (fun r7 w9 hw => ?_)
  obtain ⟨er7, rfl⟩ := hw
  have h := y_letP h er7
  refine ⟨([mnC x (A 0) rt rs rp hst sl, dayC A d4, dayC B e] ++ (dayR g A d4 G5 ++ (dayR g B e GB ++ ([histW g hst arr xs1 G2] ++ [z]))) : List va_W), ⟨(sh_6012 g x (A 0) rt rs rp hst sl A d4 G5 B e GB hst arr xs1 G2 z), rfl, rfl⟩, ?_⟩
  exact HR 59 dX6_restore_59 r7 _ _ _ _ (rfl) (Nat.le_of_ble_eq_true rfl) (Nat.le_of_ble_eq_true rfl) (hK _ _ _ _ _ h)
set_option maxHeartbeats 4000000 in
set_option maxRecDepth 100000 in
theorem w_restore_16s {Z : yZ} (g : yG) (x rt rs rp sl : Nat) (A : Nat → Nat) (d : RV) (G : Nat → Nat → Int32) (B : Nat → Nat) (e : RV) (GB : Nat → Nat → Int32) (hst arr : Nat) (xs : List RV) (R : HRt) (r : va_W) (f : Nat → Option Nat) (i : Int32) (hin : vp_in i 2) (hf : f i.toNatClampNeg = some (B 0)) (C : yC Z g cX6_restore 3 wsX6_restore RX6) {post : Int32 → List va_W → Prop} (HR : yRi Z ({ frames := 4, cells := 25, slots := 236, locals := 142 } : Room) cX6_restore .int post 25 236) (hfin : ∀ (G' : Nat → Nat → Int32) (R' : HRt), ∃ w, ([mnC x (A 0) rt rs rp hst sl, dayC A e, dayC B e] ++ (dayR g A e G' ++ (dayR g B e GB ++ ([histW g hst arr (fHist xs d) R'] ++ [acC g sl 2 f ++ r]))) : List va_W).flatten.Perm w.flatten ∧ post (rLen (e.1 8)) w) : yJ Z ({ frames := 4, cells := 25, slots := 236, locals := 142 } : Room) 0 0 ([mnC x (A 0) rt rs rp hst sl, acC g sl 2 f, dayC A d] ++ (dayR g A d G ++ [histW g hst arr xs R, dayW g B e GB ++ r]) : List va_W) 16 [(0, .ref x), (1, .int i)] [] := by
  refine y_aload_n C dX6_restore_16 0 rfl rfl ?_
  refine y_get (Cn := RX6) (T := TX6) (N := 6) (ci := 6) (v := .ref sl) C dX6_restore_17 hX6_restore_X6 0 rfl rfl 5 (Nat.le_of_ble_eq_true rfl) kX6_restore_1 rfl ?_
  refine y_iload_n C dX6_restore_20 1 rfl rfl ?_
  refine y_aaldS (N := 2) (f := f) (v := B 0) C dX6_restore_21 1 rfl hin hf ?_
  refine y_astore_n (lv' := [(2, .ref (B 0)), (0, .ref x), (1, .int i)]) C dX6_restore_22 rfl (Nat.le_of_ble_eq_true rfl) rfl ?_
  refine y_aload_n C dX6_restore_23 0 rfl rfl ?_
  refine y_ifnonnull (tgt := 30) C dX6_restore_24 rfl ?_
  refine y_perm (L1 := ([mnC x (A 0) rt rs rp hst sl, dayC A d, dayC B e] ++ (dayR g A d G ++ (dayR g B e GB ++ ([histW g hst arr xs R] ++ [acC g sl 2 f ++ r]))) : List va_W)) ?_ ?_
  · have hh := y_permOf [mnC x (A 0) rt rs rp hst sl, acC g sl 2 f, dayC A d, (dayR g A d G).flatten, histW g hst arr xs R, dayC B e, (dayR g B e GB).flatten, r] [0, 2, 5, 3, 6, 4, 1, 7] [] rfl
    simpa [yPick, dayW] using hh
  exact w_restore_30 g x rt rs rp sl A d G B e GB hst arr xs R _ i C (post := fun r0 w0 => ∃ w, w0.flatten.Perm w.flatten ∧ post r0 w) (fun pc hd r0 L0 lv0 k0 n0 h1 h2 h3 h4 => by obtain ⟨w, h5, h6⟩ := h4; exact y_perm h5 (HR pc hd r0 w lv0 k0 n0 h1 h2 h3 h6)) hfin
set_option maxHeartbeats 4000000 in
set_option maxRecDepth 100000 in
theorem w_restore_16n {Z : yZ} (g : yG) (x rt rs rp sl : Nat) (A : Nat → Nat) (d : RV) (G : Nat → Nat → Int32) (hst arr : Nat) (xs : List RV) (R : HRt) (r : va_W) (f : Nat → Option Nat) (i : Int32) (hin : vp_in i 2) (hf : f i.toNatClampNeg = none) (C : yC Z g cX6_restore 3 wsX6_restore RX6) {post : Int32 → List va_W → Prop} (HR : yRi Z ({ frames := 4, cells := 25, slots := 236, locals := 142 } : Room) cX6_restore .int post 25 236) (hfin : ∃ w, ([mnC x (A 0) rt rs rp hst sl, acC g sl 2 f, dayC A d] ++ (dayR g A d G ++ [histW g hst arr xs R, r]) : List va_W).flatten.Perm w.flatten ∧ post (-5) w) : yJ Z ({ frames := 4, cells := 25, slots := 236, locals := 142 } : Room) 0 0 ([mnC x (A 0) rt rs rp hst sl, acC g sl 2 f, dayC A d] ++ (dayR g A d G ++ [histW g hst arr xs R, r]) : List va_W) 16 [(0, .ref x), (1, .int i)] [] := by
  obtain ⟨w, hw1, hw2⟩ := hfin
  refine y_aload_n C dX6_restore_16 0 rfl rfl ?_
  refine y_get (Cn := RX6) (T := TX6) (N := 6) (ci := 6) (v := .ref sl) C dX6_restore_17 hX6_restore_X6 0 rfl rfl 5 (Nat.le_of_ble_eq_true rfl) kX6_restore_1 rfl ?_
  refine y_iload_n C dX6_restore_20 1 rfl rfl ?_
  refine y_aaldN (N := 2) (f := f) C dX6_restore_21 1 rfl hin hf ?_
  refine y_astoreN_n (lv' := [(2, .null), (0, .ref x), (1, .int i)]) C dX6_restore_22 rfl (Nat.le_of_ble_eq_true rfl) rfl ?_
  refine y_aloadN_n C dX6_restore_23 0 rfl rfl ?_
  refine y_ifnonnullN C dX6_restore_24 ?_
  refine y_bipush (v := -5) C dX6_restore_27 (by decide) ?_
  refine y_perm hw1 ?_
  exact HR 29 dX6_restore_29 (-5 : Int32) _ _ _ _ rfl (Nat.le_of_ble_eq_true rfl) (Nat.le_of_ble_eq_true rfl) hw2
set_option maxHeartbeats 4000000 in
set_option maxRecDepth 100000 in
theorem w_restore_16 {Z : yZ} (g : yG) (x rt rs rp sl : Nat) (A : Nat → Nat) (d : RV) (G : Nat → Nat → Int32) (hst arr : Nat) (xs : List RV) (R : HRt) (o0 o1 : SL) (i : Int32) (h01 : i = 0 ∨ i = 1) (C : yC Z g cX6_restore 3 wsX6_restore RX6) {post : Int32 → List va_W → Prop} (HR : yRi Z ({ frames := 4, cells := 25, slots := 236, locals := 142 } : Room) cX6_restore .int post 25 236) (hfin : ∀ (r0 : Int32) (d' : RV) (G' : Nat → Nat → Int32) (xs' : List RV) (R' : HRt), (r0, d', xs') = fRestore (slA o0) (slA o1) d xs i → post r0 ([mnC x (A 0) rt rs rp hst sl, dayC A d'] ++ (dayR g A d' G' ++ ([histW g hst arr xs' R'] ++ [slW g sl o0 o1])) : List va_W)) : yJ Z ({ frames := 4, cells := 25, slots := 236, locals := 142 } : Room) 0 0 ([mnC x (A 0) rt rs rp hst sl, dayC A d] ++ (dayR g A d G ++ ([histW g hst arr xs R] ++ [slW g sl o0 o1])) : List va_W) 16 [(0, .ref x), (1, .int i)] [] := by
  rcases h01 with rfl | rfl
  · have hin : vp_in (0 : Int32) 2 := by unfold vp_in; decide
    cases o0 with
    | some q =>
      obtain ⟨B, e, GB⟩ := q
      refine y_perm (L1 := ([mnC x (A 0) rt rs rp hst sl, acC g sl 2 (slF (some (B, e, GB)) o1), dayC A d] ++ (dayR g A d G ++ [histW g hst arr xs R, dayW g B e GB ++ odW g o1]) : List va_W)) ?_ ?_
      · have hh := y_permOf [mnC x (A 0) rt rs rp hst sl, dayC A d, (dayR g A d G).flatten, histW g hst arr xs R, acC g sl 2 (slF (some (B, e, GB)) o1), odW g (some (B, e, GB)), odW g o1] [0, 4, 1, 2, 3, 5, 6] [] rfl
        simpa [yPick, slW, odW] using hh
      refine w_restore_16s g x rt rs rp sl A d G B e GB hst arr xs R (odW g o1) _ 0 hin rfl C HR (fun G' R' => ⟨([mnC x (A 0) rt rs rp hst sl, dayC A e] ++ (dayR g A e G' ++ ([histW g hst arr (fHist xs d) R'] ++ [slW g sl (some (B, e, GB)) o1])) : List va_W), ?_, hfin _ _ _ _ _ rfl⟩)
      have hh := y_permOf [mnC x (A 0) rt rs rp hst sl, dayC A e, dayC B e, (dayR g A e G').flatten, (dayR g B e GB).flatten, histW g hst arr (fHist xs d) R', acC g sl 2 (slF (some (B, e, GB)) o1), odW g o1] [0, 1, 3, 5, 6, 2, 4, 7] [] rfl
      simp only [yPick, List.map_cons, List.map_nil, List.append_nil] at hh
      simpa [slW, odW, dayW] using hh
    | none =>
      refine y_perm (L1 := ([mnC x (A 0) rt rs rp hst sl, acC g sl 2 (slF none o1), dayC A d] ++ (dayR g A d G ++ [histW g hst arr xs R, odW g o1]) : List va_W)) ?_ ?_
      · have hh := y_permOf [mnC x (A 0) rt rs rp hst sl, dayC A d, (dayR g A d G).flatten, histW g hst arr xs R, acC g sl 2 (slF none o1), odW g none, odW g o1] [0, 4, 1, 2, 3, 5, 6] [] rfl
        simpa [yPick, slW, odW] using hh
      refine w_restore_16n g x rt rs rp sl A d G hst arr xs R (odW g o1) _ 0 hin rfl C HR ⟨([mnC x (A 0) rt rs rp hst sl, dayC A d] ++ (dayR g A d G ++ ([histW g hst arr xs R] ++ [slW g sl none o1])) : List va_W), ?_, hfin _ _ _ _ _ rfl⟩
      have hh := y_permOf [mnC x (A 0) rt rs rp hst sl, acC g sl 2 (slF none o1), dayC A d, (dayR g A d G).flatten, histW g hst arr xs R, odW g o1] [0, 2, 3, 4, 1, 5] [] rfl
      simp only [yPick, List.map_cons, List.map_nil, List.append_nil] at hh
      simpa [slW, odW, dayW] using hh
  · have hin : vp_in (1 : Int32) 2 := by unfold vp_in; decide
    cases o1 with
    | some q =>
      obtain ⟨B, e, GB⟩ := q
      refine y_perm (L1 := ([mnC x (A 0) rt rs rp hst sl, acC g sl 2 (slF o0 (some (B, e, GB))), dayC A d] ++ (dayR g A d G ++ [histW g hst arr xs R, dayW g B e GB ++ odW g o0]) : List va_W)) ?_ ?_
      · have hh := y_permOf [mnC x (A 0) rt rs rp hst sl, dayC A d, (dayR g A d G).flatten, histW g hst arr xs R, acC g sl 2 (slF o0 (some (B, e, GB))), odW g o0, odW g (some (B, e, GB))] [0, 4, 1, 2, 3, 6, 5] [] rfl
        simpa [yPick, slW, odW] using hh
      refine w_restore_16s g x rt rs rp sl A d G B e GB hst arr xs R (odW g o0) _ 1 hin rfl C HR (fun G' R' => ⟨([mnC x (A 0) rt rs rp hst sl, dayC A e] ++ (dayR g A e G' ++ ([histW g hst arr (fHist xs d) R'] ++ [slW g sl o0 (some (B, e, GB))])) : List va_W), ?_, hfin _ _ _ _ _ rfl⟩)
      have hh := y_permOf [mnC x (A 0) rt rs rp hst sl, dayC A e, dayC B e, (dayR g A e G').flatten, (dayR g B e GB).flatten, histW g hst arr (fHist xs d) R', acC g sl 2 (slF o0 (some (B, e, GB))), odW g o0] [0, 1, 3, 5, 6, 7, 2, 4] [] rfl
      simp only [yPick, List.map_cons, List.map_nil, List.append_nil] at hh
      simpa [slW, odW, dayW] using hh
    | none =>
      refine y_perm (L1 := ([mnC x (A 0) rt rs rp hst sl, acC g sl 2 (slF o0 none), dayC A d] ++ (dayR g A d G ++ [histW g hst arr xs R, odW g o0]) : List va_W)) ?_ ?_
      · have hh := y_permOf [mnC x (A 0) rt rs rp hst sl, dayC A d, (dayR g A d G).flatten, histW g hst arr xs R, acC g sl 2 (slF o0 none), odW g o0, odW g none] [0, 4, 1, 2, 3, 6, 5] [] rfl
        simpa [yPick, slW, odW] using hh
      refine w_restore_16n g x rt rs rp sl A d G hst arr xs R (odW g o0) _ 1 hin rfl C HR ⟨([mnC x (A 0) rt rs rp hst sl, dayC A d] ++ (dayR g A d G ++ ([histW g hst arr xs R] ++ [slW g sl o0 none])) : List va_W), ?_, hfin _ _ _ _ _ rfl⟩
      have hh := y_permOf [mnC x (A 0) rt rs rp hst sl, acC g sl 2 (slF o0 none), dayC A d, (dayR g A d G).flatten, histW g hst arr xs R, odW g o0] [0, 2, 3, 4, 1, 5] [] rfl
      simp only [yPick, List.map_cons, List.map_nil, List.append_nil] at hh
      simpa [slW, odW, dayW] using hh
set_option maxHeartbeats 4000000 in
set_option maxRecDepth 100000 in
theorem c_X6_restore (g : yG) (x rt rs rp sl : Nat) (A : Nat → Nat) (d : RV) (G : Nat → Nat → Int32) (hst arr : Nat) (xs : List RV) (R : HRt) (o0 o1 : SL) (i : Int32) : yM g yX6_restore wsX6_restore ({ frames := 4, cells := 25, slots := 236, locals := 142 } : Room) [.ref x, .int i] ([mnC x (A 0) rt rs rp hst sl, dayC A d] ++ (dayR g A d G ++ ([histW g hst arr xs R] ++ [slW g sl o0 o1])) : List va_W) (fun r w => ∃ (d' : RV) (G' : Nat → Nat → Int32) (xs' : List RV) (R' : HRt), (r, d', xs') = fRestore (slA o0) (slA o1) d xs i ∧ w = ([mnC x (A 0) rt rs rp hst sl, dayC A d'] ++ (dayR g A d' G' ++ ([histW g hst arr xs' R'] ++ [slW g sl o0 o1])) : List va_W)) 25 236 := by
  refine y_entryI (cc := cX6_restore) (maxL := 3) (by decide +kernel) rfl (Nat.le_of_ble_eq_true rfl) (fun Z C HR => ?_)
  have C : yC Z g cX6_restore 3 wsX6_restore RX6 := C
  show yJ Z _ 0 0 _ 0 [(0, .ref x), (1, .int i)] []
  have hout : (¬ i = 0 ∧ ¬ i = 1) → yJ Z ({ frames := 4, cells := 25, slots := 236, locals := 142 } : Room) 0 0 ([mnC x (A 0) rt rs rp hst sl, dayC A d] ++ (dayR g A d G ++ ([histW g hst arr xs R] ++ [slW g sl o0 o1])) : List va_W) 13 [(0, .ref x), (1, .int i)] [] := by
    rintro ⟨n0, n1⟩
    refine y_bipush (v := -2) C dX6_restore_13 (by decide) ?_
    refine HR 15 dX6_restore_15 (-2 : Int32) _ _ _ _ rfl (Nat.le_of_ble_eq_true rfl) (Nat.le_of_ble_eq_true rfl) ⟨d, G, xs, R, ?_, rfl⟩
    unfold fRestore
    rw [if_neg n0, if_neg n1]
  refine y_iload_n C dX6_restore_0 1 rfl rfl ?_
  refine y_if_lt (tgt := 13) C dX6_restore_1 rfl (y_same (c := i < 0) trivial) (fun c _ => hout ⟨fun z => by subst z; exact absurd c (by decide), fun z => by subst z; exact absurd c (by decide)⟩) (fun c _ => ?_)
  refine y_iload_n C dX6_restore_4 1 rfl rfl ?_
  refine y_aload_n C dX6_restore_5 0 rfl rfl ?_
  refine y_get (Cn := RX6) (T := TX6) (N := 6) (ci := 6) (v := .ref sl) C dX6_restore_6 hX6_restore_X6 0 rfl rfl 5 (Nat.le_of_ble_eq_true rfl) kX6_restore_1 rfl ?_
  have pw : ([mnC x (A 0) rt rs rp hst sl, dayC A d] ++ (dayR g A d G ++ ([histW g hst arr xs R] ++ [slW g sl o0 o1])) : List va_W).flatten.Perm ([mnC x (A 0) rt rs rp hst sl, dayC A d, acC g sl 2 (slF o0 o1)] ++ (dayR g A d G ++ [histW g hst arr xs R, odW g o0 ++ odW g o1]) : List va_W).flatten := by
    have hh := y_permOf [mnC x (A 0) rt rs rp hst sl, dayC A d, (dayR g A d G).flatten, histW g hst arr xs R, acC g sl 2 (slF o0 o1), odW g o0, odW g o1] [0, 1, 4, 2, 3, 5, 6] [] rfl
    simpa [yPick, slW] using hh
  refine y_perm pw ?_
  refine y_alenO (N := 2) (f := slF o0 o1) (v := nI 2) C dX6_restore_9 2 rfl rfl ?_
  refine y_perm pw.symm ?_
  refine y_icmp_lt (tgt := 16) C dX6_restore_10 rfl (y_same (c := i < nI 2) trivial) (fun c2 _ => ?_) (fun c2 _ => hout ⟨fun z => by subst z; exact absurd (by decide) c2, fun z => by subst z; exact absurd (by decide) c2⟩)
  exact w_restore_16 g x rt rs rp sl A d G hst arr xs R o0 o1 i (i32_01 c c2) C HR (fun r0 d' G' xs' R' hh => ⟨d', G', xs', R', hh, rfl⟩)
