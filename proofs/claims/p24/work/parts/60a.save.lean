theorem dX6_save_0 : decode cX6_save 0 = .ok (.iload_n 1, 1) := by decide +kernel
theorem dX6_save_1 : decode cX6_save 1 = .ok (.ifCond .lt 12, 3) := by decide +kernel
theorem dX6_save_4 : decode cX6_save 4 = .ok (.iload_n 1, 1) := by decide +kernel
theorem dX6_save_5 : decode cX6_save 5 = .ok (.aload_n 0, 1) := by decide +kernel
theorem dX6_save_6 : decode cX6_save 6 = .ok (.getfield 44, 3) := by decide +kernel
theorem dX6_save_9 : decode cX6_save 9 = .ok (.arraylength, 1) := by decide +kernel
theorem dX6_save_10 : decode cX6_save 10 = .ok (.if_icmp .lt 6, 3) := by decide +kernel
theorem dX6_save_13 : decode cX6_save 13 = .ok (.bipush (-2), 2) := by decide +kernel
theorem dX6_save_15 : decode cX6_save 15 = .ok (.ireturn, 1) := by decide +kernel
theorem dX6_save_16 : decode cX6_save 16 = .ok (.aload_n 0, 1) := by decide +kernel
theorem dX6_save_17 : decode cX6_save 17 = .ok (.getfield 44, 3) := by decide +kernel
theorem dX6_save_20 : decode cX6_save 20 = .ok (.iload_n 1, 1) := by decide +kernel
theorem dX6_save_21 : decode cX6_save 21 = .ok (.aaload, 1) := by decide +kernel
theorem dX6_save_22 : decode cX6_save 22 = .ok (.astore_n 2, 1) := by decide +kernel
theorem dX6_save_23 : decode cX6_save 23 = .ok (.aload_n 2, 1) := by decide +kernel
theorem dX6_save_24 : decode cX6_save 24 = .ok (.ifnonnull 18, 3) := by decide +kernel
theorem dX6_save_27 : decode cX6_save 27 = .ok (.new 9, 3) := by decide +kernel
theorem dX6_save_30 : decode cX6_save 30 = .ok (.dup, 1) := by decide +kernel
theorem dX6_save_31 : decode cX6_save 31 = .ok (.invokespecial 11, 3) := by decide +kernel
theorem dX6_save_34 : decode cX6_save 34 = .ok (.astore_n 2, 1) := by decide +kernel
theorem dX6_save_35 : decode cX6_save 35 = .ok (.aload_n 0, 1) := by decide +kernel
theorem dX6_save_36 : decode cX6_save 36 = .ok (.getfield 44, 3) := by decide +kernel
theorem dX6_save_39 : decode cX6_save 39 = .ok (.iload_n 1, 1) := by decide +kernel
theorem dX6_save_40 : decode cX6_save 40 = .ok (.aload_n 2, 1) := by decide +kernel
theorem dX6_save_41 : decode cX6_save 41 = .ok (.aastore, 1) := by decide +kernel
theorem dX6_save_42 : decode cX6_save 42 = .ok (.aload_n 2, 1) := by decide +kernel
theorem dX6_save_43 : decode cX6_save 43 = .ok (.aload_n 0, 1) := by decide +kernel
theorem dX6_save_44 : decode cX6_save 44 = .ok (.getfield 12, 3) := by decide +kernel
theorem dX6_save_47 : decode cX6_save 47 = .ok (.invokevirtual 93, 3) := by decide +kernel
theorem dX6_save_50 : decode cX6_save 50 = .ok (.aload_n 0, 1) := by decide +kernel
theorem dX6_save_51 : decode cX6_save 51 = .ok (.getfield 12, 3) := by decide +kernel
theorem dX6_save_54 : decode cX6_save 54 = .ok (.getfield 100, 3) := by decide +kernel
theorem dX6_save_57 : decode cX6_save 57 = .ok (.invokevirtual 59, 3) := by decide +kernel
theorem dX6_save_60 : decode cX6_save 60 = .ok (.ireturn, 1) := by decide +kernel
set_option maxRecDepth 20000 in
theorem ggX6_save_X0_copy : GoodIn wsX6_save wsX0_copy := goodIn_r _ [50, 16, 17, 18, 19, 20, 21, 22, 23, 24, 25, 26, 27, 51, 52, 53, 54, 55, 56, 15, 57, 42, 37, 58, 59, 34, 60, 71, 72, 73, 74, 75, 76, 77, 78, 79, 80, 81, 82, 83, 84, 85, 86, 87] (by decide +kernel) (by decide +kernel)
set_option maxRecDepth 20000 in
theorem gX6_save_X0_copy : GoodIn wsX6_save (wsV RX6 93 RX0 yX0_copy wsX0_copy) := goodIn_app (goodIn_of _ (by decide +kernel)) ggX6_save_X0_copy
set_option maxRecDepth 20000 in
theorem ggX6_save_X3_length : GoodIn wsX6_save wsX3_length := goodIn_r _ [64, 42, 86, 87] (by decide +kernel) (by decide +kernel)
set_option maxRecDepth 20000 in
theorem gX6_save_X3_length : GoodIn wsX6_save (wsV RX6 59 RX3 yX3_length wsX3_length) := goodIn_app (goodIn_of _ (by decide +kernel)) ggX6_save_X3_length
set_option maxRecDepth 20000 in
theorem ggX6_save_X0_init : GoodIn wsX6_save wsX0_init := goodIn_r _ [9, 10, 11, 12, 13, 14, 15, 16, 17, 18, 19, 20, 21, 22, 23, 24, 25, 26, 27, 28, 29, 30, 31, 32, 33, 34, 35, 36, 37, 38, 39, 40, 41, 42, 43, 44, 45, 46, 86, 87, 71, 72, 73, 74, 75, 76, 77, 78, 79, 80, 81, 82, 83, 84, 85] (by decide +kernel) (by decide +kernel)
set_option maxRecDepth 20000 in
theorem gX6_save_X0_init : GoodIn wsX6_save (wsX0_init) := ggX6_save_X0_init
theorem kX6_save_5 : Cond.fieldLink RX6 12 "BookedDetours" "day" "LBookedDetours$Day;" ∈ wsX6_save := List.mem_of_getElem? (i := 5) (by decide +kernel)
theorem kX6_save_6 : Cond.fieldLink RX6 100 "BookedDetours$Day" "stands" "LBookedDetours$Row;" ∈ wsX6_save := List.mem_of_getElem? (i := 6) (by decide +kernel)
theorem kX6_save_1 : Cond.fieldLink RX6 44 "BookedDetours" "slots" "[LBookedDetours$Day;" ∈ wsX6_save := List.mem_of_getElem? (i := 1) (by decide +kernel)
theorem kX6_save_2 : Cond.classLink RX6 9 RX0 ∈ wsX6_save := List.mem_of_getElem? (i := 2) (by decide +kernel)
theorem kX6_save_3 : Cond.instantiable RX0 15 ∈ wsX6_save := List.mem_of_getElem? (i := 3) (by decide +kernel)
theorem kX6_save_4 : Cond.initialized RX0 ∈ wsX6_save := List.mem_of_getElem? (i := 4) (by decide +kernel)
theorem kX6_save_7 : Cond.methodLink RX6 11 yX0_init ∈ wsX6_save := List.mem_of_getElem? (i := 7) (by decide +kernel)
theorem kX6_save_8 : Cond.instanceMethod yX0_init ∈ wsX6_save := List.mem_of_getElem? (i := 8) (by decide +kernel)
theorem hX6_save_X6 : ∀ w ∈ u_ws RX6 TX6 6, w ∈ wsX6_save := fun _ h => List.mem_cons_of_mem _ (List.mem_append_left _ (List.mem_append_left _ (List.mem_append_right _ h)))
theorem hX6_save_X0 : ∀ w ∈ u_ws RX0 TX0 15, w ∈ wsX6_save := fun _ h => List.mem_cons_of_mem _ (List.mem_append_left _ (List.mem_append_right _ h))
set_option maxHeartbeats 4000000 in
set_option maxRecDepth 100000 in
theorem w_save_42 {Z : yZ} (g : yG) (x rt rs rp rh sl : Nat) (A : Nat → Nat) (d : RV) (G : Nat → Nat → Int32) (B : Nat → Nat) (e : RV) (GB : Nat → Nat → Int32) (z : va_W) (i : Int32) (C : yC Z g cX6_save 3 wsX6_save RX6) {post : Int32 → List va_W → Prop} (HR : yRi Z ({ frames := 3, cells := 25, slots := 236, locals := 140 } : Room) cX6_save .int post 25 236) (hfin : ∀ GB' : Nat → Nat → Int32, post (rLen (d.1 8)) ([mnC x (A 0) rt rs rp rh sl, dayC A d, dayC B d] ++ (dayR g A d G ++ (dayR g B d GB' ++ [z])) : List va_W)) : yJ Z ({ frames := 3, cells := 25, slots := 236, locals := 140 } : Room) 25 236 ([mnC x (A 0) rt rs rp rh sl, dayC A d, dayC B e] ++ (dayR g A d G ++ (dayR g B e GB ++ [z])) : List va_W) 42 [(2, .ref (B 0)), (0, .ref x), (1, .int i)] [] := by
  have hK : ∀ (r0 : Int32) (e : RV) (GB : Nat → Nat → Int32), (r0 = rLen (d.1 8) ∧ e = d) → post r0 ([mnC x (A 0) rt rs rp rh sl, dayC A d, dayC B e] ++ (dayR g A d G ++ (dayR g B e GB ++ [z])) : List va_W) := by
    rintro r0 e GB ⟨rfl, rfl⟩
    exact hfin GB
  have h : (fun K : Int32 → RV → Prop => (yl d (fun e1 => (yl (rLen (d.1 8)) (fun r4 => (K r4 e1)))))) (fun r0 e => r0 = rLen (d.1 8) ∧ e = d) := ⟨rfl, rfl⟩
  dsimp only at h
  refine y_aload_n C dX6_save_42 0 rfl rfl ?_
  refine y_aload_n C dX6_save_43 1 rfl rfl ?_
  refine y_get (Cn := RX6) (T := TX6) (N := 6) (v := .ref (A 0)) C dX6_save_44 hX6_save_X6 0 (sh_6000 g x (A 0) rt rs rp rh sl A d G B e GB z) rfl 0 (Nat.le_of_ble_eq_true rfl) kX6_save_5 rfl ?_
  refine y_callVv (As := [.ref (A 0)]) (rest := []) C dX6_save_47 (k_X0_copy g B e GB A d G) rfl rfl rfl rfl ⟨Nat.le_of_ble_eq_true rfl, Nat.le_of_ble_eq_true rfl⟩ gX6_save_X0_copy (nA := 1) (by decide +kernel) rfl (sh_6002 g B e GB A d G) (Nat.le_of_ble_eq_true rfl) ⟨Nat.le_of_ble_eq_true rfl, Nat.le_of_ble_eq_true rfl⟩ [2, 1, 15, 16, 17, 18, 19, 20, 21, 22, 23, 24, 25, 26, 3, 4, 5, 6, 7, 8, 9, 10, 11, 12, 13, 14] [0, 27] (nB := 28) rfl (by decide +kernel) (sh_6001 g x (A 0) rt rs rp rh sl A d G B e GB z) (fun w9 hw => ?_)
  obtain ⟨e1, G2, e3, rfl⟩ := hw
  have h := y_letP h e3
  refine ⟨([mnC x (A 0) rt rs rp rh sl, dayC A d, dayC B e1] ++ (dayR g A d G ++ (dayR g B e1 G2 ++ [z])) : List va_W), (sh_6003 g x (A 0) rt rs rp rh sl A d G B e GB z e1 G2), ?_⟩
  refine y_aload_n C dX6_save_50 1 rfl rfl ?_
  refine y_get (Cn := RX6) (T := TX6) (N := 6) (v := .ref (A 0)) C dX6_save_51 hX6_save_X6 0 (sh_6000 g x (A 0) rt rs rp rh sl A d G B e1 G2 z) rfl 0 (Nat.le_of_ble_eq_true rfl) kX6_save_5 rfl ?_
  refine y_get (Cn := RX0) (T := TX0) (N := 15) (v := .ref (A 17)) C dX6_save_54 hX6_save_X0 1 (sh_6004 g x (A 0) rt rs rp rh sl A d G B e1 G2 z) rfl 8 (Nat.le_of_ble_eq_true rfl) kX6_save_6 rfl ?_
  refine y_callV (As := []) (rest := []) C dX6_save_57 (c_X3_length g (A 17) (A 18) 17 (d.1 8) (G 8) (by decide)) rfl rfl rfl rfl ⟨Nat.le_of_ble_eq_true rfl, Nat.le_of_ble_eq_true rfl⟩ gX6_save_X3_length (nA := 0) (by decide +kernel) rfl (rowW_recv ⟨_, rfl⟩) (Nat.le_of_ble_eq_true rfl) ⟨Nat.le_of_ble_eq_true rfl, Nat.le_of_ble_eq_true rfl⟩ [11] [0, 1, 2, 3, 4, 5, 6, 7, 8, 9, 10, 12, 13, 14, 15, 16, 17, 18, 19, 20, 21, 22, 23, 24, 25, 26, 27] (nB := 28) rfl (by decide +kernel) (sh_6005 g x (A 0) rt rs rp rh sl A d G B e1 G2 z) (fun r4 w9 hw => ?_)
  obtain ⟨er4, rfl⟩ := hw
  have h := y_letP h er4
  refine ⟨([mnC x (A 0) rt rs rp rh sl, dayC A d, dayC B e1] ++ (dayR g A d G ++ (dayR g B e1 G2 ++ [z])) : List va_W), ⟨(sh_6005 g x (A 0) rt rs rp rh sl A d G B e1 G2 z), rfl, rfl⟩, ?_⟩
  exact HR 60 dX6_save_60 r4 _ _ _ _ (rfl) (Nat.le_of_ble_eq_true rfl) (Nat.le_of_ble_eq_true rfl) (hK _ _ _ h)
set_option maxHeartbeats 4000000 in
set_option maxRecDepth 100000 in
theorem w_save_16s {Z : yZ} (g : yG) (x rt rs rp rh sl : Nat) (A : Nat → Nat) (d : RV) (G : Nat → Nat → Int32) (B : Nat → Nat) (e : RV) (GB : Nat → Nat → Int32) (r : va_W) (f : Nat → Option Nat) (i : Int32) (hin : vp_in i 2) (hf : f i.toNatClampNeg = some (B 0)) (C : yC Z g cX6_save 3 wsX6_save RX6) {post : Int32 → List va_W → Prop} (HR : yRi Z ({ frames := 3, cells := 25, slots := 236, locals := 140 } : Room) cX6_save .int post 25 236) (hfin : ∀ GB' : Nat → Nat → Int32, ∃ w, ([mnC x (A 0) rt rs rp rh sl, dayC A d, dayC B d] ++ (dayR g A d G ++ (dayR g B d GB' ++ [acC g sl 2 f ++ r])) : List va_W).flatten.Perm w.flatten ∧ post (rLen (d.1 8)) w) : yJ Z ({ frames := 3, cells := 25, slots := 236, locals := 140 } : Room) 0 0 ([mnC x (A 0) rt rs rp rh sl, acC g sl 2 f, dayC A d] ++ (dayR g A d G ++ [dayW g B e GB ++ r]) : List va_W) 16 [(0, .ref x), (1, .int i)] [] := by
  refine y_aload_n C dX6_save_16 0 rfl rfl ?_
  refine y_get (Cn := RX6) (T := TX6) (N := 6) (ci := 6) (v := .ref sl) C dX6_save_17 hX6_save_X6 0 rfl rfl 5 (Nat.le_of_ble_eq_true rfl) kX6_save_1 rfl ?_
  refine y_iload_n C dX6_save_20 1 rfl rfl ?_
  refine y_aaldS (N := 2) (f := f) (v := B 0) C dX6_save_21 1 rfl hin hf ?_
  refine y_astore_n (lv' := [(2, .ref (B 0)), (0, .ref x), (1, .int i)]) C dX6_save_22 rfl (Nat.le_of_ble_eq_true rfl) rfl ?_
  refine y_aload_n C dX6_save_23 0 rfl rfl ?_
  refine y_ifnonnull (tgt := 42) C dX6_save_24 rfl ?_
  refine y_perm (L1 := ([mnC x (A 0) rt rs rp rh sl, dayC A d, dayC B e] ++ (dayR g A d G ++ (dayR g B e GB ++ [acC g sl 2 f ++ r])) : List va_W)) ?_ ?_
  · have hh := y_permOf [mnC x (A 0) rt rs rp rh sl, acC g sl 2 f, dayC A d, (dayR g A d G).flatten, dayC B e, (dayR g B e GB).flatten, r] [0, 2, 4, 3, 5, 1, 6] [] rfl
    simpa [yPick, dayW] using hh
  refine y_widen (k' := 25) (n' := 236) (Nat.le_of_ble_eq_true rfl) (Nat.le_of_ble_eq_true rfl) ?_
  exact w_save_42 g x rt rs rp rh sl A d G B e GB _ i C (post := fun r0 w0 => ∃ w, w0.flatten.Perm w.flatten ∧ post r0 w) (fun pc hd r0 L0 lv0 k0 n0 h1 h2 h3 h4 => by obtain ⟨w, h5, h6⟩ := h4; exact y_perm h5 (HR pc hd r0 w lv0 k0 n0 h1 h2 h3 h6)) hfin
theorem sh_s4 (g : yG) (x a t s p h sl : Nat) (f : Nat → Option Nat) (A : Nat → Nat) (d : RV) (G : Nat → Nat → Int32) (r z : va_W) : yPick ([mnC x a t s p h sl, acC g sl 2 f, dayC A d] ++ (dayR g A d G ++ [r, z]) : List va_W) [16] = ([z] : List va_W) := rfl
theorem sh_s5 (g : yG) (x a t s p h sl : Nat) (f : Nat → Option Nat) (A : Nat → Nat) (d : RV) (G : Nat → Nat → Int32) (r z z2 : va_W) : yPick ([mnC x a t s p h sl, acC g sl 2 f, dayC A d] ++ (dayR g A d G ++ [r, z]) : List va_W) [0, 1, 2, 3, 4, 5, 6, 7, 8, 9, 10, 11, 12, 13, 14, 15] = yPick ([mnC x a t s p h sl, acC g sl 2 f, dayC A d] ++ (dayR g A d G ++ [r, z2]) : List va_W) [0, 1, 2, 3, 4, 5, 6, 7, 8, 9, 10, 11, 12, 13, 14, 15] := by
  have e : ∀ z : va_W, yPick ([mnC x a t s p h sl, acC g sl 2 f, dayC A d] ++ (dayR g A d G ++ [r, z]) : List va_W) [0, 1, 2, 3, 4, 5, 6, 7, 8, 9, 10, 11, 12, 13, 14, 15] = ([mnC x a t s p h sl, acC g sl 2 f, dayC A d] ++ (dayR g A d G ++ [r]) : List va_W) := fun z => rfl
  rw [e, e]
set_option maxHeartbeats 4000000 in
set_option maxRecDepth 100000 in
theorem w_save_16n {Z : yZ} (g : yG) (x rt rs rp rh sl : Nat) (A : Nat → Nat) (d : RV) (G : Nat → Nat → Int32) (r : va_W) (f : Nat → Option Nat) (i : Int32) (hin : vp_in i 2) (hf : f i.toNatClampNeg = none) (C : yC Z g cX6_save 3 wsX6_save RX6) {post : Int32 → List va_W → Prop} (HR : yRi Z ({ frames := 3, cells := 25, slots := 236, locals := 140 } : Room) cX6_save .int post 25 236) (hfin : ∀ (B : Nat → Nat) (GB' : Nat → Nat → Int32), ∃ w, ([mnC x (A 0) rt rs rp rh sl, dayC A d, dayC B d] ++ (dayR g A d G ++ (dayR g B d GB' ++ [acC g sl 2 (va_up f i.toNatClampNeg (some (B 0))) ++ r])) : List va_W).flatten.Perm w.flatten ∧ post (rLen (d.1 8)) w) : yJ Z ({ frames := 3, cells := 25, slots := 236, locals := 140 } : Room) 0 0 ([mnC x (A 0) rt rs rp rh sl, acC g sl 2 f, dayC A d] ++ (dayR g A d G ++ [r]) : List va_W) 16 [(0, .ref x), (1, .int i)] [] := by
  refine y_aload_n C dX6_save_16 0 rfl rfl ?_
  refine y_get (Cn := RX6) (T := TX6) (N := 6) (ci := 6) (v := .ref sl) C dX6_save_17 hX6_save_X6 0 rfl rfl 5 (Nat.le_of_ble_eq_true rfl) kX6_save_1 rfl ?_
  refine y_iload_n C dX6_save_20 1 rfl rfl ?_
  refine y_aaldN (N := 2) (f := f) C dX6_save_21 1 rfl hin hf ?_
  refine y_astoreN_n (lv' := [(2, .null), (0, .ref x), (1, .int i)]) C dX6_save_22 rfl (Nat.le_of_ble_eq_true rfl) rfl ?_
  refine y_aloadN_n C dX6_save_23 0 rfl rfl ?_
  refine y_ifnonnullN C dX6_save_24 ?_
  refine y_new (Cn := RX0) (T := TX0) (N := 15) (ci := 0) (fs := [.null, .null, .null, .null, .null, .null, .null, .null, .null, .null, .null, .null, .int 0, .int 0, .int 0]) (ty0 := tyX0) C dX6_save_27 hX6_save_X0 tyX0_ok kX6_save_2 kX6_save_3 kX6_save_4 rfl (fun j hj => by rcases (show j = 0 ∨ j = 1 ∨ j = 2 ∨ j = 3 ∨ j = 4 ∨ j = 5 ∨ j = 6 ∨ j = 7 ∨ j = 8 ∨ j = 9 ∨ j = 10 ∨ j = 11 ∨ j = 12 ∨ j = 13 ∨ j = 14 by omega) with rfl | rfl | rfl | rfl | rfl | rfl | rfl | rfl | rfl | rfl | rfl | rfl | rfl | rfl | rfl <;> rfl) (Nat.le_of_ble_eq_true rfl) (Nat.le_of_ble_eq_true rfl) (fun q => ?_)
  refine y_world (L1 := ([mnC x (A 0) rt rs rp rh sl, acC g sl 2 f, dayC A d] ++ (dayR g A d G ++ [r, [(q, .inr (0, [.null, .null, .null, .null, .null, .null, .null, .null, .null, .null, .null, .null, .int 0, .int 0, .int 0]))]]) : List va_W)) (by simp only [List.flatten_append, List.flatten_cons, List.flatten_nil, List.append_nil, List.append_assoc]) ?_
  refine y_dup C dX6_save_30 rfl ?_
  refine y_callI (As := []) (rest := [.ref q]) C dX6_save_31 (c_X0_init g q) rfl rfl rfl rfl ⟨Nat.le_of_ble_eq_true rfl, Nat.le_of_ble_eq_true rfl⟩ gX6_save_X0_init kX6_save_7 kX6_save_4 kX6_save_8 rfl (nA := 0) (by decide +kernel) rfl (Nat.le_of_ble_eq_true rfl) ⟨Nat.le_of_ble_eq_true rfl, Nat.le_of_ble_eq_true rfl⟩ [16] [0, 1, 2, 3, 4, 5, 6, 7, 8, 9, 10, 11, 12, 13, 14, 15] (nB := 17) rfl (by decide +kernel) (sh_s4 g x (A 0) rt rs rp rh sl f A d G r _) (fun w9 hw => ?_)
  obtain ⟨B, GB, rfl, rfl⟩ := hw
  refine ⟨([mnC x (A 0) rt rs rp rh sl, acC g sl 2 f, dayC A d] ++ (dayR g A d G ++ [r, dayW g B D0 GB]) : List va_W), ⟨sh_s4 g x (A 0) rt rs rp rh sl f A d G r _, sh_s5 g x (A 0) rt rs rp rh sl f A d G r _ _, rfl⟩, ?_⟩
  refine y_perm (L1 := ([mnC x (A 0) rt rs rp rh sl, acC g sl 2 f, dayC A d, dayC B D0] ++ (dayR g A d G ++ (dayR g B D0 GB ++ [r])) : List va_W)) ?_ ?_
  · have hh := y_permOf [mnC x (A 0) rt rs rp rh sl, acC g sl 2 f, dayC A d, (dayR g A d G).flatten, r, dayC B D0, (dayR g B D0 GB).flatten] [0, 1, 2, 5, 3, 6, 4] [] rfl
    simpa [yPick, dayW] using hh
  refine y_astore_n (lv' := [(2, .ref (B 0)), (0, .ref x), (1, .int i)]) C dX6_save_34 rfl (Nat.le_of_ble_eq_true rfl) rfl ?_
  refine y_aload_n C dX6_save_35 1 rfl rfl ?_
  refine y_get (Cn := RX6) (T := TX6) (N := 6) (ci := 6) (v := .ref sl) C dX6_save_36 hX6_save_X6 0 rfl rfl 5 (Nat.le_of_ble_eq_true rfl) kX6_save_1 rfl ?_
  refine y_iload_n C dX6_save_39 2 rfl rfl ?_
  refine y_aload_n C dX6_save_40 0 rfl rfl ?_
  refine y_aast (ci := 0) (N := 2) (f := f) (L1 := ([mnC x (A 0) rt rs rp rh sl, acC g sl 2 (va_up f i.toNatClampNeg (some (B 0))), dayC A d, dayC B D0] ++ (dayR g A d G ++ (dayR g B D0 GB ++ [r])) : List va_W)) C dX6_save_41 1 3 rfl rfl hin rfl ?_
  refine y_perm (L1 := ([mnC x (A 0) rt rs rp rh sl, dayC A d, dayC B D0] ++ (dayR g A d G ++ (dayR g B D0 GB ++ [acC g sl 2 (va_up f i.toNatClampNeg (some (B 0))) ++ r])) : List va_W)) ?_ ?_
  · have hh := y_permOf [mnC x (A 0) rt rs rp rh sl, acC g sl 2 (va_up f i.toNatClampNeg (some (B 0))), dayC A d, dayC B D0, (dayR g A d G).flatten, (dayR g B D0 GB).flatten, r] [0, 2, 3, 4, 5, 1, 6] [] rfl
    simpa [yPick, dayW] using hh
  exact w_save_42 g x rt rs rp rh sl A d G B D0 GB _ i C (post := fun r0 w0 => ∃ w, w0.flatten.Perm w.flatten ∧ post r0 w) (fun pc hd r0 L0 lv0 k0 n0 h1 h2 h3 h4 => by obtain ⟨w, h5, h6⟩ := h4; exact y_perm h5 (HR pc hd r0 w lv0 k0 n0 h1 h2 h3 h6)) (hfin B)
set_option maxHeartbeats 4000000 in
set_option maxRecDepth 100000 in
theorem w_save_16 {Z : yZ} (g : yG) (x rt rs rp rh sl : Nat) (A : Nat → Nat) (d : RV) (G : Nat → Nat → Int32) (o0 o1 : SL) (i : Int32) (h01 : i = 0 ∨ i = 1) (C : yC Z g cX6_save 3 wsX6_save RX6) {post : Int32 → List va_W → Prop} (HR : yRi Z ({ frames := 3, cells := 25, slots := 236, locals := 140 } : Room) cX6_save .int post 25 236) (hfin : ∀ (r0 : Int32) (a b : SL), (r0, slA a, slA b) = fSave (slA o0) (slA o1) d i → post r0 ([mnC x (A 0) rt rs rp rh sl, dayC A d] ++ (dayR g A d G ++ [slW g sl a b]) : List va_W)) : yJ Z ({ frames := 3, cells := 25, slots := 236, locals := 140 } : Room) 0 0 ([mnC x (A 0) rt rs rp rh sl, dayC A d] ++ (dayR g A d G ++ [slW g sl o0 o1]) : List va_W) 16 [(0, .ref x), (1, .int i)] [] := by
  rcases h01 with rfl | rfl
  · have hin : vp_in (0 : Int32) 2 := by unfold vp_in; decide
    cases o0 with
    | some q =>
      obtain ⟨B, e, GB⟩ := q
      refine y_perm (L1 := ([mnC x (A 0) rt rs rp rh sl, acC g sl 2 (slF (some (B, e, GB)) o1), dayC A d] ++ (dayR g A d G ++ [dayW g B e GB ++ odW g o1]) : List va_W)) ?_ ?_
      · have hh := y_permOf [mnC x (A 0) rt rs rp rh sl, dayC A d, (dayR g A d G).flatten, acC g sl 2 (slF (some (B, e, GB)) o1), dayW g B e GB, odW g o1] [0, 3, 1, 2, 4, 5] [] rfl
        simpa [yPick, slW, odW] using hh
      refine w_save_16s g x rt rs rp rh sl A d G B e GB (odW g o1) _ 0 hin rfl C HR (fun GB' => ⟨([mnC x (A 0) rt rs rp rh sl, dayC A d] ++ (dayR g A d G ++ [slW g sl (some (B, d, GB')) o1]) : List va_W), ?_, hfin _ _ _ rfl⟩)
      have hh := y_permOf [mnC x (A 0) rt rs rp rh sl, dayC A d, dayC B d, (dayR g A d G).flatten, (dayR g B d GB').flatten, acC g sl 2 (slF (some (B, e, GB)) o1), odW g o1] [0, 1, 3, 5, 2, 4, 6] [] rfl
      have e9 : slF (some (B, e, GB)) o1 = slF (some (B, d, GB')) o1 := rfl
      simp only [yPick, List.map_cons, List.map_nil, List.append_nil] at hh
      simpa [slW, odW, dayW, e9] using hh
    | none =>
      refine y_perm (L1 := ([mnC x (A 0) rt rs rp rh sl, acC g sl 2 (slF none o1), dayC A d] ++ (dayR g A d G ++ [odW g o1]) : List va_W)) ?_ ?_
      · have hh := y_permOf [mnC x (A 0) rt rs rp rh sl, dayC A d, (dayR g A d G).flatten, acC g sl 2 (slF none o1), odW g o1] [0, 3, 1, 2, 4] [] rfl
        simpa [yPick, slW, odW] using hh
      refine w_save_16n g x rt rs rp rh sl A d G (odW g o1) _ 0 hin rfl C HR (fun B GB' => ⟨([mnC x (A 0) rt rs rp rh sl, dayC A d] ++ (dayR g A d G ++ [slW g sl (some (B, d, GB')) o1]) : List va_W), ?_, hfin _ _ _ rfl⟩)
      have hh := y_permOf [mnC x (A 0) rt rs rp rh sl, dayC A d, dayC B d, (dayR g A d G).flatten, (dayR g B d GB').flatten, acC g sl 2 (slF (some (B, d, GB')) o1), odW g o1] [0, 1, 3, 5, 2, 4, 6] [] rfl
      have e9 : va_up (slF none o1) (0 : Int32).toNatClampNeg (some (B 0)) = slF (some (B, d, GB')) o1 := slF_up0 none o1 B d GB'
      rw [e9]
      simp only [yPick, List.map_cons, List.map_nil, List.append_nil] at hh
      simpa [slW, odW, dayW] using hh
  · have hin : vp_in (1 : Int32) 2 := by unfold vp_in; decide
    cases o1 with
    | some q =>
      obtain ⟨B, e, GB⟩ := q
      refine y_perm (L1 := ([mnC x (A 0) rt rs rp rh sl, acC g sl 2 (slF o0 (some (B, e, GB))), dayC A d] ++ (dayR g A d G ++ [dayW g B e GB ++ odW g o0]) : List va_W)) ?_ ?_
      · have hh := y_permOf [mnC x (A 0) rt rs rp rh sl, dayC A d, (dayR g A d G).flatten, acC g sl 2 (slF o0 (some (B, e, GB))), odW g o0, dayW g B e GB] [0, 3, 1, 2, 5, 4] [] rfl
        simpa [yPick, slW, odW] using hh
      refine w_save_16s g x rt rs rp rh sl A d G B e GB (odW g o0) _ 1 hin rfl C HR (fun GB' => ⟨([mnC x (A 0) rt rs rp rh sl, dayC A d] ++ (dayR g A d G ++ [slW g sl o0 (some (B, d, GB'))]) : List va_W), ?_, hfin _ _ _ rfl⟩)
      have hh := y_permOf [mnC x (A 0) rt rs rp rh sl, dayC A d, dayC B d, (dayR g A d G).flatten, (dayR g B d GB').flatten, acC g sl 2 (slF o0 (some (B, e, GB))), odW g o0] [0, 1, 3, 5, 6, 2, 4] [] rfl
      have e9 : slF o0 (some (B, e, GB)) = slF o0 (some (B, d, GB')) := rfl
      simp only [yPick, List.map_cons, List.map_nil, List.append_nil] at hh
      simpa [slW, odW, dayW, e9] using hh
    | none =>
      refine y_perm (L1 := ([mnC x (A 0) rt rs rp rh sl, acC g sl 2 (slF o0 none), dayC A d] ++ (dayR g A d G ++ [odW g o0]) : List va_W)) ?_ ?_
      · have hh := y_permOf [mnC x (A 0) rt rs rp rh sl, dayC A d, (dayR g A d G).flatten, acC g sl 2 (slF o0 none), odW g o0] [0, 3, 1, 2, 4] [] rfl
        simpa [yPick, slW, odW] using hh
      refine w_save_16n g x rt rs rp rh sl A d G (odW g o0) _ 1 hin rfl C HR (fun B GB' => ⟨([mnC x (A 0) rt rs rp rh sl, dayC A d] ++ (dayR g A d G ++ [slW g sl o0 (some (B, d, GB'))]) : List va_W), ?_, hfin _ _ _ rfl⟩)
      have hh := y_permOf [mnC x (A 0) rt rs rp rh sl, dayC A d, dayC B d, (dayR g A d G).flatten, (dayR g B d GB').flatten, acC g sl 2 (slF o0 (some (B, d, GB'))), odW g o0] [0, 1, 3, 5, 6, 2, 4] [] rfl
      have e9 : va_up (slF o0 none) (1 : Int32).toNatClampNeg (some (B 0)) = slF o0 (some (B, d, GB')) := slF_up1 o0 none B d GB'
      rw [e9]
      simp only [yPick, List.map_cons, List.map_nil, List.append_nil] at hh
      simpa [slW, odW, dayW] using hh
set_option maxHeartbeats 4000000 in
set_option maxRecDepth 100000 in
theorem c_X6_save (g : yG) (x rt rs rp rh sl : Nat) (A : Nat → Nat) (d : RV) (G : Nat → Nat → Int32) (o0 o1 : SL) (i : Int32) : yM g yX6_save wsX6_save ({ frames := 3, cells := 25, slots := 236, locals := 140 } : Room) [.ref x, .int i] ([mnC x (A 0) rt rs rp rh sl, dayC A d] ++ (dayR g A d G ++ [slW g sl o0 o1]) : List va_W) (fun r w => ∃ (a b : SL), (r, slA a, slA b) = fSave (slA o0) (slA o1) d i ∧ w = ([mnC x (A 0) rt rs rp rh sl, dayC A d] ++ (dayR g A d G ++ [slW g sl a b]) : List va_W)) 25 236 := by
  refine y_entryI (cc := cX6_save) (maxL := 3) (by decide +kernel) rfl (Nat.le_of_ble_eq_true rfl) (fun Z C HR => ?_)
  have C : yC Z g cX6_save 3 wsX6_save RX6 := C
  show yJ Z _ 0 0 _ 0 [(0, .ref x), (1, .int i)] []
  have hout : (¬ i = 0 ∧ ¬ i = 1) → yJ Z ({ frames := 3, cells := 25, slots := 236, locals := 140 } : Room) 0 0 ([mnC x (A 0) rt rs rp rh sl, dayC A d] ++ (dayR g A d G ++ [slW g sl o0 o1]) : List va_W) 13 [(0, .ref x), (1, .int i)] [] := by
    rintro ⟨n0, n1⟩
    refine y_bipush (v := -2) C dX6_save_13 (by decide) ?_
    refine HR 15 dX6_save_15 (-2 : Int32) _ _ _ _ rfl (Nat.le_of_ble_eq_true rfl) (Nat.le_of_ble_eq_true rfl) ⟨o0, o1, ?_, rfl⟩
    unfold fSave
    rw [if_neg n0, if_neg n1]
  refine y_iload_n C dX6_save_0 1 rfl rfl ?_
  refine y_if_lt (tgt := 13) C dX6_save_1 rfl (y_same (c := i < 0) trivial) (fun c _ => hout ⟨fun z => by subst z; exact absurd c (by decide), fun z => by subst z; exact absurd c (by decide)⟩) (fun c _ => ?_)
  refine y_iload_n C dX6_save_4 1 rfl rfl ?_
  refine y_aload_n C dX6_save_5 0 rfl rfl ?_
  refine y_get (Cn := RX6) (T := TX6) (N := 6) (ci := 6) (v := .ref sl) C dX6_save_6 hX6_save_X6 0 rfl rfl 5 (Nat.le_of_ble_eq_true rfl) kX6_save_1 rfl ?_
  have pw : ([mnC x (A 0) rt rs rp rh sl, dayC A d] ++ (dayR g A d G ++ [slW g sl o0 o1]) : List va_W).flatten.Perm ([mnC x (A 0) rt rs rp rh sl, dayC A d, acC g sl 2 (slF o0 o1)] ++ (dayR g A d G ++ [odW g o0 ++ odW g o1]) : List va_W).flatten := by
    have hh := y_permOf [mnC x (A 0) rt rs rp rh sl, dayC A d, (dayR g A d G).flatten, acC g sl 2 (slF o0 o1), odW g o0, odW g o1] [0, 1, 3, 2, 4, 5] [] rfl
    simpa [yPick, slW] using hh
  refine y_perm pw ?_
  refine y_alenO (N := 2) (f := slF o0 o1) (v := nI 2) C dX6_save_9 2 rfl rfl ?_
  refine y_perm pw.symm ?_
  refine y_icmp_lt (tgt := 16) C dX6_save_10 rfl (y_same (c := i < nI 2) trivial) (fun c2 _ => ?_) (fun c2 _ => hout ⟨fun z => by subst z; exact absurd (by decide) c2, fun z => by subst z; exact absurd (by decide) c2⟩)
  exact w_save_16 g x rt rs rp rh sl A d G o0 o1 i (i32_01 c c2) C HR (fun r0 a b hh => ⟨a, b, hh, rfl⟩)
