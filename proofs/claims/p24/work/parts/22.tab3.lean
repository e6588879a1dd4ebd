theorem dX5_follow_0 : decode cX5_follow 0 = .ok (.aload_n 0, 1) := by decide +kernel
theorem dX5_follow_1 : decode cX5_follow 1 = .ok (.aload_n 1, 1) := by decide +kernel
theorem dX5_follow_2 : decode cX5_follow 2 = .ok (.invokevirtual 32, 3) := by decide +kernel
theorem dX5_follow_5 : decode cX5_follow 5 = .ok (.iconst 0, 1) := by decide +kernel
theorem dX5_follow_6 : decode cX5_follow 6 = .ok (.istore_n 2, 1) := by decide +kernel
theorem dX5_follow_7 : decode cX5_follow 7 = .ok (.iload_n 2, 1) := by decide +kernel
theorem dX5_follow_8 : decode cX5_follow 8 = .ok (.aload_n 1, 1) := by decide +kernel
theorem dX5_follow_9 : decode cX5_follow 9 = .ok (.getfield 36, 3) := by decide +kernel
theorem dX5_follow_12 : decode cX5_follow 12 = .ok (.invokevirtual 41, 3) := by decide +kernel
theorem dX5_follow_15 : decode cX5_follow 15 = .ok (.if_icmp .ge 23, 3) := by decide +kernel
theorem dX5_follow_18 : decode cX5_follow 18 = .ok (.aload_n 0, 1) := by decide +kernel
theorem dX5_follow_19 : decode cX5_follow 19 = .ok (.aload_n 1, 1) := by decide +kernel
theorem dX5_follow_20 : decode cX5_follow 20 = .ok (.aload_n 1, 1) := by decide +kernel
theorem dX5_follow_21 : decode cX5_follow 21 = .ok (.getfield 36, 3) := by decide +kernel
theorem dX5_follow_24 : decode cX5_follow 24 = .ok (.iload_n 2, 1) := by decide +kernel
theorem dX5_follow_25 : decode cX5_follow 25 = .ok (.invokevirtual 45, 3) := by decide +kernel
theorem dX5_follow_28 : decode cX5_follow 28 = .ok (.invokevirtual 49, 3) := by decide +kernel
theorem dX5_follow_31 : decode cX5_follow 31 = .ok (.pop, 1) := by decide +kernel
theorem dX5_follow_32 : decode cX5_follow 32 = .ok (.iinc 2 1, 3) := by decide +kernel
theorem dX5_follow_35 : decode cX5_follow 35 = .ok (.goto (-28), 3) := by decide +kernel
theorem dX5_follow_38 : decode cX5_follow 38 = .ok (.return_, 1) := by decide +kernel
set_option maxRecDepth 20000 in
theorem ggX5_follow_X3_length : GoodIn wsX5_follow wsX3_length := goodIn_r _ [45, 26, 124, 125] (by decide +kernel) (by decide +kernel)
set_option maxRecDepth 20000 in
theorem gX5_follow_X3_length : GoodIn wsX5_follow (wsV RX5 41 RX3 yX3_length wsX3_length) := goodIn_app (goodIn_of _ (by decide +kernel)) ggX5_follow_X3_length
set_option maxRecDepth 20000 in
theorem ggX5_follow_X3_at : GoodIn wsX5_follow wsX3_at := goodIn_r _ [49, 26, 31, 124, 125] (by decide +kernel) (by decide +kernel)
set_option maxRecDepth 20000 in
theorem gX5_follow_X3_at : GoodIn wsX5_follow (wsV RX5 45 RX3 yX3_at wsX3_at) := goodIn_app (goodIn_of _ (by decide +kernel)) ggX5_follow_X3_at
set_option maxRecDepth 20000 in
theorem ggX5_follow_X5_step : GoodIn wsX5_follow wsX5_step := goodIn_r _ [55, 15, 17, 56, 57, 58, 34, 59, 60, 18, 19, 20, 7, 8, 9, 10, 12, 61, 62, 63, 64, 65, 66, 67, 68, 69, 39, 70, 71, 72, 46, 47, 48, 24, 49, 26, 31, 73, 74, 75, 76, 77, 78, 79, 80, 81, 51, 82, 83, 84, 85, 86, 87, 88, 89, 90, 91, 92, 93, 94, 95, 96, 5, 97, 98, 114, 115, 116, 117, 118, 119, 120, 121, 122, 123, 99, 100, 101, 102, 103, 104, 105, 106, 107, 108, 109, 110, 111, 112, 113, 124, 125] (by decide +kernel) (by decide +kernel)
set_option maxRecDepth 20000 in
theorem gX5_follow_X5_step : GoodIn wsX5_follow (wsV RX5 49 RX5 yX5_step wsX5_step) := goodIn_app (goodIn_of _ (by decide +kernel)) ggX5_follow_X5_step
set_option maxRecDepth 20000 in
theorem ggX5_follow_X5_begin : GoodIn wsX5_follow wsX5_begin := goodIn_r _ [6, 7, 8, 9, 10, 11, 12, 13, 14, 15, 16, 17, 18, 19, 20, 21, 22, 23, 24, 25, 26, 27, 28, 29, 30, 31, 32, 33, 34, 35, 36, 37, 38, 39, 40, 41, 42, 43, 44, 45, 46, 47, 48, 49, 114, 115, 116, 117, 118, 119, 120, 121, 122, 123, 99, 100, 101, 102, 103, 104, 105, 106, 107, 108, 109, 110, 111, 112, 113, 124, 125] (by decide +kernel) (by decide +kernel)
set_option maxRecDepth 20000 in
theorem gX5_follow_X5_begin : GoodIn wsX5_follow (wsV RX5 32 RX5 yX5_begin wsX5_begin) := goodIn_app (goodIn_of _ (by decide +kernel)) ggX5_follow_X5_begin
theorem kX5_follow_1 : Cond.fieldLink RX5 36 "BookedDetours$Day" "route" "LBookedDetours$Row;" ∈ wsX5_follow := List.mem_of_getElem? (i := 1) (by decide +kernel)
theorem hX5_follow_X0 : ∀ w ∈ u_ws RX0 TX0 15, w ∈ wsX5_follow := fun _ h => List.mem_cons_of_mem _ (List.mem_append_left _ (List.mem_append_left _ (List.mem_append_right _ h)))
set_option maxHeartbeats 4000000 in
set_option maxRecDepth 100000 in
theorem w_X5_follow_7 {Z : yZ} (g : yG) (T : Nat → Nat) (A : Nat → Nat) (d : RV) (G : Nat → Nat → Int32) (C : yC Z g cX5_follow 3 wsX5_follow RX5) {post : List va_W → Prop} (HR : yRv Z ({ frames := 3, cells := 0, slots := 0, locals := 72 } : Room) cX5_follow post 0 0) {X7 : RV → Int32 → Prop} (hX7 : ∀ (t : RV) (x2 : Int32) (GT : Nat → Nat → Int32), X7 t x2 → yJ Z ({ frames := 3, cells := 0, slots := 0, locals := 72 } : Room) 0 0 ([tabC T t, dayC A d] ++ (tabR g T t GT ++ dayR g A d G) : List va_W) 7 [(0, .ref (T 0)), (1, .ref (A 0)), (2, .int x2)] []) {K : RV → Prop} (hK : ∀ (t : RV) (GT : Nat → Nat → Int32), K t → post ([tabC T t, dayC A d] ++ (tabR g T t GT ++ dayR g A d G) : List va_W)) (t : RV) (x2 : Int32) (GT : Nat → Nat → Int32) (h : wp_X5_follow_7 d X7 K t x2) : yJ Z ({ frames := 3, cells := 0, slots := 0, locals := 72 } : Room) 0 0 ([tabC T t, dayC A d] ++ (tabR g T t GT ++ dayR g A d G) : List va_W) 7 [(0, .ref (T 0)), (1, .ref (A 0)), (2, .int x2)] [] := by
  unfold wp_X5_follow_7 at h
  refine y_iload_n C dX5_follow_7 2 rfl rfl ?_
  refine y_aload_n C dX5_follow_8 1 rfl rfl ?_
  refine y_get (Cn := RX0) (T := TX0) (N := 15) (v := .ref (A 23)) C dX5_follow_9 hX5_follow_X0 1 (sh_74 g T t GT A d G) rfl 11 (Nat.le_of_ble_eq_true rfl) kX5_follow_1 rfl ?_
  refine y_callV (As := []) (rest := [.int x2]) C dX5_follow_12 (c_X3_length g (A 23) (A 24) 34 (d.1 11) (G 11) (by decide)) rfl rfl rfl rfl ⟨Nat.le_of_ble_eq_true rfl, Nat.le_of_ble_eq_true rfl⟩ gX5_follow_X3_length (nA := 0) (by decide +kernel) rfl (rowW_recv ⟨_, rfl⟩) (Nat.le_of_ble_eq_true rfl) ⟨Nat.le_of_ble_eq_true rfl, Nat.le_of_ble_eq_true rfl⟩ [18] [0, 1, 2, 3, 4, 5, 6, 7, 8, 9, 10, 11, 12, 13, 14, 15, 16, 17] (nB := 19) rfl (by decide +kernel) (sh_96 g T t GT A d G) (fun r1 w9 hw => ?_)
  obtain ⟨er1, rfl⟩ := hw
  have h := y_letP h er1
  refine ⟨([tabC T t, dayC A d] ++ (tabR g T t GT ++ dayR g A d G) : List va_W), ⟨(sh_96 g T t GT A d G), rfl, rfl⟩, ?_⟩
  refine y_icmp_ge (tgt := 38) C dX5_follow_15 rfl h (fun c15 h => ?_) (fun c15 h => ?_)
  · exact HR 38 dX5_follow_38 _ _ _ _ (Nat.le_of_ble_eq_true rfl) (Nat.le_of_ble_eq_true rfl) (hK _ _ h)
  · refine y_aload_n C dX5_follow_18 0 rfl rfl ?_
    refine y_aload_n C dX5_follow_19 1 rfl rfl ?_
    refine y_aload_n C dX5_follow_20 1 rfl rfl ?_
    refine y_get (Cn := RX0) (T := TX0) (N := 15) (v := .ref (A 23)) C dX5_follow_21 hX5_follow_X0 1 (sh_74 g T t GT A d G) rfl 11 (Nat.le_of_ble_eq_true rfl) kX5_follow_1 rfl ?_
    refine y_iload_n C dX5_follow_24 2 rfl rfl ?_
    refine y_callV (As := [.int x2]) (rest := [.ref (A 0), .ref (T 0)]) C dX5_follow_25 (c_X3_at g (A 23) (A 24) 34 (d.1 11) (G 11) x2 (by decide)) rfl rfl rfl rfl ⟨Nat.le_of_ble_eq_true rfl, Nat.le_of_ble_eq_true rfl⟩ gX5_follow_X3_at (nA := 1) (by decide +kernel) rfl (rowW_recv ⟨_, rfl⟩) (Nat.le_of_ble_eq_true rfl) ⟨Nat.le_of_ble_eq_true rfl, Nat.le_of_ble_eq_true rfl⟩ [18] [0, 1, 2, 3, 4, 5, 6, 7, 8, 9, 10, 11, 12, 13, 14, 15, 16, 17] (nB := 19) rfl (by decide +kernel) (sh_96 g T t GT A d G) (fun r2 w9 hw => ?_)
    obtain ⟨er2, rfl⟩ := hw
    have h := y_letP h er2
    refine ⟨([tabC T t, dayC A d] ++ (tabR g T t GT ++ dayR g A d G) : List va_W), ⟨(sh_96 g T t GT A d G), rfl, rfl⟩, ?_⟩
    refine y_callV (As := [.ref (A 0), .int r2]) (rest := []) C dX5_follow_28 (c_X5_step g T t GT A d G r2) rfl rfl rfl rfl ⟨Nat.le_of_ble_eq_true rfl, Nat.le_of_ble_eq_true rfl⟩ gX5_follow_X5_step (nA := 2) (by decide +kernel) rfl (sh_95 g T t GT A d G) (Nat.le_of_ble_eq_true rfl) ⟨Nat.le_of_ble_eq_true rfl, Nat.le_of_ble_eq_true rfl⟩ [0, 1, 2, 3, 4, 5, 6, 7, 8, 9, 10, 11, 12, 13, 14, 15, 16, 17, 18] [] (nB := 19) rfl (by decide +kernel) (sh_94 g T t GT A d G) (fun r6 w9 hw => ?_)
    obtain ⟨er6, t3, G4, e5, rfl⟩ := hw
    have h := y_letP h er6
    have h := y_letP h e5
    refine ⟨([tabC T t3, dayC A d] ++ (tabR g T t3 G4 ++ dayR g A d G) : List va_W), (sh_97 g T t GT A d G t3 G4), ?_⟩
    refine y_pop C dX5_follow_31 rfl ?_
    refine y_iinc (v := (x2 + (1 : Int32))) (lv' := [(2, .int (x2 + (1 : Int32))), (0, .ref (T 0)), (1, .ref (A 0))]) C dX5_follow_32 2 rfl rfl (Nat.le_of_ble_eq_true rfl) rfl ?_
    refine y_goto (tgt := 7) C dX5_follow_35 rfl ?_
    refine y_sub (lv' := [(0, .ref (T 0)), (1, .ref (A 0)), (2, .int (x2 + (1 : Int32)))]) [1, 2, 0] rfl ?_
    exact hX7 _ _ _ h
set_option maxHeartbeats 4000000 in
set_option maxRecDepth 100000 in
theorem l_X5_follow {Z : yZ} (g : yG) (T : Nat → Nat) (A : Nat → Nat) (d : RV) (G : Nat → Nat → Int32) (C : yC Z g cX5_follow 3 wsX5_follow RX5) {post : List va_W → Prop} (HR : yRv Z ({ frames := 3, cells := 0, slots := 0, locals := 72 } : Room) cX5_follow post 0 0) {K : RV → Prop} (hK : ∀ (t : RV) (GT : Nat → Nat → Int32), K t → post ([tabC T t, dayC A d] ++ (tabR g T t GT ++ dayR g A d G) : List va_W)) {I7 : Nat → RV → Int32 → Prop} (o7 : ∀ (w0 : Nat) (t : RV) (x2 : Int32), I7 w0 t x2 → wp_X5_follow_7 d (fun (t9 : RV) (x29 : Int32) => ∃ w9, w9 < w0 ∧ I7 w9 t9 x29) K t x2) : ∀ w0 : Nat, (∀ (t : RV) (x2 : Int32) (GT : Nat → Nat → Int32), I7 w0 t x2 → yJ Z ({ frames := 3, cells := 0, slots := 0, locals := 72 } : Room) 0 0 ([tabC T t, dayC A d] ++ (tabR g T t GT ++ dayR g A d G) : List va_W) 7 [(0, .ref (T 0)), (1, .ref (A 0)), (2, .int x2)] []) := by
  intro w0
  induction w0 using Nat.strongRecOn with
  | _ w0 ih =>
    exact fun t x2 GT hi => w_X5_follow_7 g T A d G C HR (fun t x2 GT hq => by obtain ⟨w9, hlt, hi⟩ := hq; exact (ih w9 hlt) t x2 GT hi) hK t x2 GT (o7 w0 t x2 hi)
set_option maxHeartbeats 4000000 in
set_option maxRecDepth 100000 in
theorem t_X5_follow (g : yG) (T : Nat → Nat) (t : RV) (GT : Nat → Nat → Int32) (A : Nat → Nat) (d : RV) (G : Nat → Nat → Int32)  {post : List va_W → Prop} {K : RV → Prop} (hK : ∀ (t : RV) (GT : Nat → Nat → Int32), K t → post ([tabC T t, dayC A d] ++ (tabR g T t GT ++ dayR g A d G) : List va_W)) (hPO : PO_X5_follow d K t ) : yMv g yX5_follow wsX5_follow ({ frames := 3, cells := 0, slots := 0, locals := 72 } : Room) [.ref (T 0), .ref (A 0)] ([tabC T t, dayC A d] ++ (tabR g T t GT ++ dayR g A d G) : List va_W) post 0 0 := by
  refine y_entryV (cc := cX5_follow) (maxL := 3) (by decide +kernel) rfl (Nat.le_of_ble_eq_true rfl) (fun Z C _ HR => ?_)
  have C : yC Z g cX5_follow 3 wsX5_follow RX5 := C
  obtain ⟨I7, o7, h⟩ := hPO
  have hX7 : ∀ (t : RV) (x2 : Int32) (GT : Nat → Nat → Int32), (fun (t9 : RV) (x29 : Int32) => ∃ w9, I7 w9 t9 x29) t x2 → yJ Z ({ frames := 3, cells := 0, slots := 0, locals := 72 } : Room) 0 0 ([tabC T t, dayC A d] ++ (tabR g T t GT ++ dayR g A d G) : List va_W) 7 [(0, .ref (T 0)), (1, .ref (A 0)), (2, .int x2)] [] := by
    intro t x2 GT hq
    obtain ⟨w9, hi⟩ := hq
    exact (l_X5_follow g T A d G C HR hK o7 w9) t x2 GT hi
  unfold wp_X5_follow_0 at h
  show yJ Z _ 0 0 _ 0 [(0, .ref (T 0)), (1, .ref (A 0))] []
  refine y_aload_n C dX5_follow_0 0 rfl rfl ?_
  refine y_aload_n C dX5_follow_1 1 rfl rfl ?_
  refine y_callVv (As := [.ref (A 0)]) (rest := []) C dX5_follow_2 (c_X5_begin g T t GT A d G) rfl rfl rfl rfl ⟨Nat.le_of_ble_eq_true rfl, Nat.le_of_ble_eq_true rfl⟩ gX5_follow_X5_begin (nA := 1) (by decide +kernel) rfl (sh_95 g T t GT A d G) (Nat.le_of_ble_eq_true rfl) ⟨Nat.le_of_ble_eq_true rfl, Nat.le_of_ble_eq_true rfl⟩ [0, 1, 2, 3, 4, 5, 6, 7, 8, 9, 10, 11, 12, 13, 14, 15, 16, 17, 18] [] (nB := 19) rfl (by decide +kernel) (sh_94 g T t GT A d G) (fun w9 hw => ?_)
  obtain ⟨t1, G2, e3, rfl⟩ := hw
  have h := y_letP h e3
  refine ⟨([tabC T t1, dayC A d] ++ (tabR g T t1 G2 ++ dayR g A d G) : List va_W), (sh_97 g T t GT A d G t1 G2), ?_⟩
  refine y_iconst (v := 0) C dX5_follow_5 (by decide) ?_
  refine y_istore_n (lv' := [(2, .int (0 : Int32)), (0, .ref (T 0)), (1, .ref (A 0))]) C dX5_follow_6 rfl (Nat.le_of_ble_eq_true rfl) rfl ?_
  refine y_sub (lv' := [(0, .ref (T 0)), (1, .ref (A 0)), (2, .int (0 : Int32))]) [1, 2, 0] rfl ?_
  exact hX7 _ _ _ h
set_option maxHeartbeats 4000000 in
set_option maxRecDepth 100000 in
theorem c_X5_follow (g : yG) (T : Nat → Nat) (t : RV) (GT : Nat → Nat → Int32) (A : Nat → Nat) (d : RV) (G : Nat → Nat → Int32)   : yMv g yX5_follow wsX5_follow ({ frames := 3, cells := 0, slots := 0, locals := 72 } : Room) [.ref (T 0), .ref (A 0)] ([tabC T t, dayC A d] ++ (tabR g T t GT ++ dayR g A d G) : List va_W) (fun w => ∃ t' : RV, ∃ GT' : Nat → Nat → Int32, t' = (fFollow t d) ∧ w = ([tabC T t', dayC A d] ++ (tabR g T t' GT' ++ dayR g A d G) : List va_W)) 0 0 :=
  yMv_fact (F := dayLen d) (fun A9 hD => dayLen_of (g := g) (A := A) (G := G) (fun x hx => by simp only [List.mem_append, hx, true_or, or_true]) hD) (fun hF => t_X5_follow g T t GT A d G  (K := (fun (t1 : RV) => t1 = (fFollow t d))) (fun t1 GT1 e0 => ⟨t1, GT1, e0, rfl⟩) (p_X5_follow (by have := hF.2.2.2.2.2.2.2.2.2.2.2; omega)))
theorem dX5_keepsAll_0 : decode cX5_keepsAll 0 = .ok (.aload_n 0, 1) := by decide +kernel
theorem dX5_keepsAll_1 : decode cX5_keepsAll 1 = .ok (.aload_n 1, 1) := by decide +kernel
theorem dX5_keepsAll_2 : decode cX5_keepsAll 2 = .ok (.invokevirtual 32, 3) := by decide +kernel
theorem dX5_keepsAll_5 : decode cX5_keepsAll 5 = .ok (.iconst 0, 1) := by decide +kernel
theorem dX5_keepsAll_6 : decode cX5_keepsAll 6 = .ok (.istore_n 2, 1) := by decide +kernel
theorem dX5_keepsAll_7 : decode cX5_keepsAll 7 = .ok (.iload_n 2, 1) := by decide +kernel
theorem dX5_keepsAll_8 : decode cX5_keepsAll 8 = .ok (.aload_n 1, 1) := by decide +kernel
theorem dX5_keepsAll_9 : decode cX5_keepsAll 9 = .ok (.getfield 36, 3) := by decide +kernel
theorem dX5_keepsAll_12 : decode cX5_keepsAll 12 = .ok (.invokevirtual 41, 3) := by decide +kernel
theorem dX5_keepsAll_15 : decode cX5_keepsAll 15 = .ok (.if_icmp .ge 27, 3) := by decide +kernel
theorem dX5_keepsAll_18 : decode cX5_keepsAll 18 = .ok (.aload_n 0, 1) := by decide +kernel
theorem dX5_keepsAll_19 : decode cX5_keepsAll 19 = .ok (.aload_n 1, 1) := by decide +kernel
theorem dX5_keepsAll_20 : decode cX5_keepsAll 20 = .ok (.aload_n 1, 1) := by decide +kernel
theorem dX5_keepsAll_21 : decode cX5_keepsAll 21 = .ok (.getfield 36, 3) := by decide +kernel
theorem dX5_keepsAll_24 : decode cX5_keepsAll 24 = .ok (.iload_n 2, 1) := by decide +kernel
theorem dX5_keepsAll_25 : decode cX5_keepsAll 25 = .ok (.invokevirtual 45, 3) := by decide +kernel
theorem dX5_keepsAll_28 : decode cX5_keepsAll 28 = .ok (.invokevirtual 49, 3) := by decide +kernel
theorem dX5_keepsAll_31 : decode cX5_keepsAll 31 = .ok (.ifCond .ne 5, 3) := by decide +kernel
theorem dX5_keepsAll_34 : decode cX5_keepsAll 34 = .ok (.iconst 0, 1) := by decide +kernel
theorem dX5_keepsAll_35 : decode cX5_keepsAll 35 = .ok (.ireturn, 1) := by decide +kernel
theorem dX5_keepsAll_36 : decode cX5_keepsAll 36 = .ok (.iinc 2 1, 3) := by decide +kernel
theorem dX5_keepsAll_39 : decode cX5_keepsAll 39 = .ok (.goto (-32), 3) := by decide +kernel
theorem dX5_keepsAll_42 : decode cX5_keepsAll 42 = .ok (.iconst 1, 1) := by decide +kernel
theorem dX5_keepsAll_43 : decode cX5_keepsAll 43 = .ok (.ireturn, 1) := by decide +kernel
set_option maxRecDepth 20000 in
theorem ggX5_keepsAll_X3_length : GoodIn wsX5_keepsAll wsX3_length := goodIn_r _ [45, 26, 124, 125] (by decide +kernel) (by decide +kernel)
set_option maxRecDepth 20000 in
theorem gX5_keepsAll_X3_length : GoodIn wsX5_keepsAll (wsV RX5 41 RX3 yX3_length wsX3_length) := goodIn_app (goodIn_of _ (by decide +kernel)) ggX5_keepsAll_X3_length
set_option maxRecDepth 20000 in
theorem ggX5_keepsAll_X3_at : GoodIn wsX5_keepsAll wsX3_at := goodIn_r _ [49, 26, 31, 124, 125] (by decide +kernel) (by decide +kernel)
set_option maxRecDepth 20000 in
theorem gX5_keepsAll_X3_at : GoodIn wsX5_keepsAll (wsV RX5 45 RX3 yX3_at wsX3_at) := goodIn_app (goodIn_of _ (by decide +kernel)) ggX5_keepsAll_X3_at
set_option maxRecDepth 20000 in
theorem ggX5_keepsAll_X5_step : GoodIn wsX5_keepsAll wsX5_step := goodIn_r _ [55, 15, 17, 56, 57, 58, 34, 59, 60, 18, 19, 20, 7, 8, 9, 10, 12, 61, 62, 63, 64, 65, 66, 67, 68, 69, 39, 70, 71, 72, 46, 47, 48, 24, 49, 26, 31, 73, 74, 75, 76, 77, 78, 79, 80, 81, 51, 82, 83, 84, 85, 86, 87, 88, 89, 90, 91, 92, 93, 94, 95, 96, 5, 97, 98, 114, 115, 116, 117, 118, 119, 120, 121, 122, 123, 99, 100, 101, 102, 103, 104, 105, 106, 107, 108, 109, 110, 111, 112, 113, 124, 125] (by decide +kernel) (by decide +kernel)
set_option maxRecDepth 20000 in
theorem gX5_keepsAll_X5_step : GoodIn wsX5_keepsAll (wsV RX5 49 RX5 yX5_step wsX5_step) := goodIn_app (goodIn_of _ (by decide +kernel)) ggX5_keepsAll_X5_step
set_option maxRecDepth 20000 in
theorem ggX5_keepsAll_X5_begin : GoodIn wsX5_keepsAll wsX5_begin := goodIn_r _ [6, 7, 8, 9, 10, 11, 12, 13, 14, 15, 16, 17, 18, 19, 20, 21, 22, 23, 24, 25, 26, 27, 28, 29, 30, 31, 32, 33, 34, 35, 36, 37, 38, 39, 40, 41, 42, 43, 44, 45, 46, 47, 48, 49, 114, 115, 116, 117, 118, 119, 120, 121, 122, 123, 99, 100, 101, 102, 103, 104, 105, 106, 107, 108, 109, 110, 111, 112, 113, 124, 125] (by decide +kernel) (by decide +kernel)
set_option maxRecDepth 20000 in
theorem gX5_keepsAll_X5_begin : GoodIn wsX5_keepsAll (wsV RX5 32 RX5 yX5_begin wsX5_begin) := goodIn_app (goodIn_of _ (by decide +kernel)) ggX5_keepsAll_X5_begin
theorem kX5_keepsAll_1 : Cond.fieldLink RX5 36 "BookedDetours$Day" "route" "LBookedDetours$Row;" ∈ wsX5_keepsAll := List.mem_of_getElem? (i := 1) (by decide +kernel)
theorem hX5_keepsAll_X0 : ∀ w ∈ u_ws RX0 TX0 15, w ∈ wsX5_keepsAll := fun _ h => List.mem_cons_of_mem _ (List.mem_append_left _ (List.mem_append_left _ (List.mem_append_right _ h)))
set_option maxHeartbeats 4000000 in
set_option maxRecDepth 100000 in
theorem w_X5_keepsAll_7 {Z : yZ} (g : yG) (T : Nat → Nat) (A : Nat → Nat) (d : RV) (G : Nat → Nat → Int32) (C : yC Z g cX5_keepsAll 3 wsX5_keepsAll RX5) {post : Int32 → List va_W → Prop} (HR : yRi Z ({ frames := 3, cells := 0, slots := 0, locals := 72 } : Room) cX5_keepsAll .boolean post 0 0) {X7 : RV → Int32 → Prop} (hX7 : ∀ (t : RV) (x2 : Int32) (GT : Nat → Nat → Int32), X7 t x2 → yJ Z ({ frames := 3, cells := 0, slots := 0, locals := 72 } : Room) 0 0 ([tabC T t, dayC A d] ++ (tabR g T t GT ++ dayR g A d G) : List va_W) 7 [(0, .ref (T 0)), (1, .ref (A 0)), (2, .int x2)] []) {K : Int32 → RV → Prop} (hK : ∀ (r0 : Int32) (t : RV) (GT : Nat → Nat → Int32), K r0 t → post r0 ([tabC T t, dayC A d] ++ (tabR g T t GT ++ dayR g A d G) : List va_W)) (t : RV) (x2 : Int32) (GT : Nat → Nat → Int32) (h : wp_X5_keepsAll_7 d X7 K t x2) : yJ Z ({ frames := 3, cells := 0, slots := 0, locals := 72 } : Room) 0 0 ([tabC T t, dayC A d] ++ (tabR g T t GT ++ dayR g A d G) : List va_W) 7 [(0, .ref (T 0)), (1, .ref (A 0)), (2, .int x2)] [] := by
  unfold wp_X5_keepsAll_7 at h
  refine y_iload_n C dX5_keepsAll_7 2 rfl rfl ?_
  refine y_aload_n C dX5_keepsAll_8 1 rfl rfl ?_
  refine y_get (Cn := RX0) (T := TX0) (N := 15) (v := .ref (A 23)) C dX5_keepsAll_9 hX5_keepsAll_X0 1 (sh_74 g T t GT A d G) rfl 11 (Nat.le_of_ble_eq_true rfl) kX5_keepsAll_1 rfl ?_
  refine y_callV (As := []) (rest := [.int x2]) C dX5_keepsAll_12 (c_X3_length g (A 23) (A 24) 34 (d.1 11) (G 11) (by decide)) rfl rfl rfl rfl ⟨Nat.le_of_ble_eq_true rfl, Nat.le_of_ble_eq_true rfl⟩ gX5_keepsAll_X3_length (nA := 0) (by decide +kernel) rfl (rowW_recv ⟨_, rfl⟩) (Nat.le_of_ble_eq_true rfl) ⟨Nat.le_of_ble_eq_true rfl, Nat.le_of_ble_eq_true rfl⟩ [18] [0, 1, 2, 3, 4, 5, 6, 7, 8, 9, 10, 11, 12, 13, 14, 15, 16, 17] (nB := 19) rfl (by decide +kernel) (sh_96 g T t GT A d G) (fun r1 w9 hw => ?_)
  obtain ⟨er1, rfl⟩ := hw
  have h := y_letP h er1
  refine ⟨([tabC T t, dayC A d] ++ (tabR g T t GT ++ dayR g A d G) : List va_W), ⟨(sh_96 g T t GT A d G), rfl, rfl⟩, ?_⟩
  refine y_icmp_ge (tgt := 42) C dX5_keepsAll_15 rfl h (fun c15 h => ?_) (fun c15 h => ?_)
  · refine y_iconst (v := 1) C dX5_keepsAll_42 (by decide) ?_
    exact HR 43 dX5_keepsAll_43 (1 : Int32) _ _ _ _ (rfl) (Nat.le_of_ble_eq_true rfl) (Nat.le_of_ble_eq_true rfl) (hK _ _ _ h)
  · refine y_aload_n C dX5_keepsAll_18 0 rfl rfl ?_
    refine y_aload_n C dX5_keepsAll_19 1 rfl rfl ?_
    refine y_aload_n C dX5_keepsAll_20 1 rfl rfl ?_
    refine y_get (Cn := RX0) (T := TX0) (N := 15) (v := .ref (A 23)) C dX5_keepsAll_21 hX5_keepsAll_X0 1 (sh_74 g T t GT A d G) rfl 11 (Nat.le_of_ble_eq_true rfl) kX5_keepsAll_1 rfl ?_
    refine y_iload_n C dX5_keepsAll_24 2 rfl rfl ?_
    refine y_callV (As := [.int x2]) (rest := [.ref (A 0), .ref (T 0)]) C dX5_keepsAll_25 (c_X3_at g (A 23) (A 24) 34 (d.1 11) (G 11) x2 (by decide)) rfl rfl rfl rfl ⟨Nat.le_of_ble_eq_true rfl, Nat.le_of_ble_eq_true rfl⟩ gX5_keepsAll_X3_at (nA := 1) (by decide +kernel) rfl (rowW_recv ⟨_, rfl⟩) (Nat.le_of_ble_eq_true rfl) ⟨Nat.le_of_ble_eq_true rfl, Nat.le_of_ble_eq_true rfl⟩ [18] [0, 1, 2, 3, 4, 5, 6, 7, 8, 9, 10, 11, 12, 13, 14, 15, 16, 17] (nB := 19) rfl (by decide +kernel) (sh_96 g T t GT A d G) (fun r2 w9 hw => ?_)
    obtain ⟨er2, rfl⟩ := hw
    have h := y_letP h er2
    refine ⟨([tabC T t, dayC A d] ++ (tabR g T t GT ++ dayR g A d G) : List va_W), ⟨(sh_96 g T t GT A d G), rfl, rfl⟩, ?_⟩
    refine y_callV (As := [.ref (A 0), .int r2]) (rest := []) C dX5_keepsAll_28 (c_X5_step g T t GT A d G r2) rfl rfl rfl rfl ⟨Nat.le_of_ble_eq_true rfl, Nat.le_of_ble_eq_true rfl⟩ gX5_keepsAll_X5_step (nA := 2) (by decide +kernel) rfl (sh_95 g T t GT A d G) (Nat.le_of_ble_eq_true rfl) ⟨Nat.le_of_ble_eq_true rfl, Nat.le_of_ble_eq_true rfl⟩ [0, 1, 2, 3, 4, 5, 6, 7, 8, 9, 10, 11, 12, 13, 14, 15, 16, 17, 18] [] (nB := 19) rfl (by decide +kernel) (sh_94 g T t GT A d G) (fun r6 w9 hw => ?_)
    obtain ⟨er6, t3, G4, e5, rfl⟩ := hw
    have h := y_letP h er6
    have h := y_letP h e5
    refine ⟨([tabC T t3, dayC A d] ++ (tabR g T t3 G4 ++ dayR g A d G) : List va_W), (sh_97 g T t GT A d G t3 G4), ?_⟩
    refine y_if_ne (tgt := 36) C dX5_keepsAll_31 rfl h (fun c31 h => ?_) (fun c31 h => ?_)
    · refine y_iinc (v := (x2 + (1 : Int32))) (lv' := [(2, .int (x2 + (1 : Int32))), (0, .ref (T 0)), (1, .ref (A 0))]) C dX5_keepsAll_36 2 rfl rfl (Nat.le_of_ble_eq_true rfl) rfl ?_
      refine y_goto (tgt := 7) C dX5_keepsAll_39 rfl ?_
      refine y_sub (lv' := [(0, .ref (T 0)), (1, .ref (A 0)), (2, .int (x2 + (1 : Int32)))]) [1, 2, 0] rfl ?_
      exact hX7 _ _ _ h
    · refine y_iconst (v := 0) C dX5_keepsAll_34 (by decide) ?_
      exact HR 35 dX5_keepsAll_35 (0 : Int32) _ _ _ _ (rfl) (Nat.le_of_ble_eq_true rfl) (Nat.le_of_ble_eq_true rfl) (hK _ _ _ h)
set_option maxHeartbeats 4000000 in
set_option maxRecDepth 100000 in
theorem l_X5_keepsAll {Z : yZ} (g : yG) (T : Nat → Nat) (A : Nat → Nat) (d : RV) (G : Nat → Nat → Int32) (C : yC Z g cX5_keepsAll 3 wsX5_keepsAll RX5) {post : Int32 → List va_W → Prop} (HR : yRi Z ({ frames := 3, cells := 0, slots := 0, locals := 72 } : Room) cX5_keepsAll .boolean post 0 0) {K : Int32 → RV → Prop} (hK : ∀ (r0 : Int32) (t : RV) (GT : Nat → Nat → Int32), K r0 t → post r0 ([tabC T t, dayC A d] ++ (tabR g T t GT ++ dayR g A d G) : List va_W)) {I7 : Nat → RV → Int32 → Prop} (o7 : ∀ (w0 : Nat) (t : RV) (x2 : Int32), I7 w0 t x2 → wp_X5_keepsAll_7 d (fun (t9 : RV) (x29 : Int32) => ∃ w9, w9 < w0 ∧ I7 w9 t9 x29) K t x2) : ∀ w0 : Nat, (∀ (t : RV) (x2 : Int32) (GT : Nat → Nat → Int32), I7 w0 t x2 → yJ Z ({ frames := 3, cells := 0, slots := 0, locals := 72 } : Room) 0 0 ([tabC T t, dayC A d] ++ (tabR g T t GT ++ dayR g A d G) : List va_W) 7 [(0, .ref (T 0)), (1, .ref (A 0)), (2, .int x2)] []) := by
  intro w0
  induction w0 using Nat.strongRecOn with
  | _ w0 ih =>
    exact fun t x2 GT hi => w_X5_keepsAll_7 g T A d G C HR (fun t x2 GT hq => by obtain ⟨w9, hlt, hi⟩ := hq; exact (ih w9 hlt) t x2 GT hi) hK t x2 GT (o7 w0 t x2 hi)
set_option maxHeartbeats 4000000 in
set_option maxRecDepth 100000 in
theorem t_X5_keepsAll (g : yG) (T : Nat → Nat) (t : RV) (GT : Nat → Nat → Int32) (A : Nat → Nat) (d : RV) (G : Nat → Nat → Int32)  {post : Int32 → List va_W → Prop} {K : Int32 → RV → Prop} (hK : ∀ (r0 : Int32) (t : RV) (GT : Nat → Nat → Int32), K r0 t → post r0 ([tabC T t, dayC A d] ++ (tabR g T t GT ++ dayR g A d G) : List va_W)) (hPO : PO_X5_keepsAll d K t ) : yM g yX5_keepsAll wsX5_keepsAll ({ frames := 3, cells := 0, slots := 0, locals := 72 } : Room) [.ref (T 0), .ref (A 0)] ([tabC T t, dayC A d] ++ (tabR g T t GT ++ dayR g A d G) : List va_W) post 0 0 := by
  refine y_entryI (cc := cX5_keepsAll) (maxL := 3) (by decide +kernel) rfl (Nat.le_of_ble_eq_true rfl) (fun Z C HR => ?_)
  have C : yC Z g cX5_keepsAll 3 wsX5_keepsAll RX5 := C
  obtain ⟨I7, o7, h⟩ := hPO
  have hX7 : ∀ (t : RV) (x2 : Int32) (GT : Nat → Nat → Int32), (fun (t9 : RV) (x29 : Int32) => ∃ w9, I7 w9 t9 x29) t x2 → yJ Z ({ frames := 3, cells := 0, slots := 0, locals := 72 } : Room) 0 0 ([tabC T t, dayC A d] ++ (tabR g T t GT ++ dayR g A d G) : List va_W) 7 [(0, .ref (T 0)), (1, .ref (A 0)), (2, .int x2)] [] := by
    intro t x2 GT hq
    obtain ⟨w9, hi⟩ := hq
    exact (l_X5_keepsAll g T A d G C HR hK o7 w9) t x2 GT hi
  unfold wp_X5_keepsAll_0 at h
  show yJ Z _ 0 0 _ 0 [(0, .ref (T 0)), (1, .ref (A 0))] []
  refine y_aload_n C dX5_keepsAll_0 0 rfl rfl ?_
  refine y_aload_n C dX5_keepsAll_1 1 rfl rfl ?_
  refine y_callVv (As := [.ref (A 0)]) (rest := []) C dX5_keepsAll_2 (c_X5_begin g T t GT A d G) rfl rfl rfl rfl ⟨Nat.le_of_ble_eq_true rfl, Nat.le_of_ble_eq_true rfl⟩ gX5_keepsAll_X5_begin (nA := 1) (by decide +kernel) rfl (sh_95 g T t GT A d G) (Nat.le_of_ble_eq_true rfl) ⟨Nat.le_of_ble_eq_true rfl, Nat.le_of_ble_eq_true rfl⟩ [0, 1, 2, 3, 4, 5, 6, 7, 8, 9, 10, 11, 12, 13, 14, 15, 16, 17, 18] [] (nB := 19) rfl (by decide +kernel) (sh_94 g T t GT A d G) (fun w9 hw => ?_)
  obtain ⟨t1, G2, e3, rfl⟩ := hw
  have h := y_letP h e3
  refine ⟨([tabC T t1, dayC A d] ++ (tabR g T t1 G2 ++ dayR g A d G) : List va_W), (sh_97 g T t GT A d G t1 G2), ?_⟩
  refine y_iconst (v := 0) C dX5_keepsAll_5 (by decide) ?_
  refine y_istore_n (lv' := [(2, .int (0 : Int32)), (0, .ref (T 0)), (1, .ref (A 0))]) C dX5_keepsAll_6 rfl (Nat.le_of_ble_eq_true rfl) rfl ?_
  refine y_sub (lv' := [(0, .ref (T 0)), (1, .ref (A 0)), (2, .int (0 : Int32))]) [1, 2, 0] rfl ?_
  exact hX7 _ _ _ h
set_option maxHeartbeats 4000000 in
set_option maxRecDepth 100000 in
theorem c_X5_keepsAll (g : yG) (T : Nat → Nat) (t : RV) (GT : Nat → Nat → Int32) (A : Nat → Nat) (d : RV) (G : Nat → Nat → Int32)   : yM g yX5_keepsAll wsX5_keepsAll ({ frames := 3, cells := 0, slots := 0, locals := 72 } : Room) [.ref (T 0), .ref (A 0)] ([tabC T t, dayC A d] ++ (tabR g T t GT ++ dayR g A d G) : List va_W) (fun r w => r = (fKeeps t d).1 ∧ ∃ t' : RV, ∃ GT' : Nat → Nat → Int32, t' = (fKeeps t d).2 ∧ w = ([tabC T t', dayC A d] ++ (tabR g T t' GT' ++ dayR g A d G) : List va_W)) 0 0 :=
  yM_fact (F := dayLen d) (fun A9 hD => dayLen_of (g := g) (A := A) (G := G) (fun x hx => by simp only [List.mem_append, hx, true_or, or_true]) hD) (fun hF => t_X5_keepsAll g T t GT A d G  (K := (fun (r1 : Int32) (t1 : RV) => r1 = (fKeeps t d).1 ∧ t1 = (fKeeps t d).2)) (fun r1 t1 GT1 hh => by obtain ⟨e0, e1⟩ := hh; exact ⟨e0, t1, GT1, e1, rfl⟩) (p_X5_keepsAll (by have := hF.2.2.2.2.2.2.2.2.2.2.2; omega)))
