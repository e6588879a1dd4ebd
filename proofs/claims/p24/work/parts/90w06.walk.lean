set_option maxHeartbeats 4000000 in
set_option maxRecDepth 100000 in
theorem w_L_holds_26 {Z : yZ} (g : yG) (x rs rl : Nat) (A : Nat → Nat) (d : RV) (G : Nat → Nat → Int32) (T : Nat → Nat) (P : Nat → Nat) (p : RV) (GP : Nat → Nat → Int32) (hst arr : Nat) (xs : List RV) (R : List ((Nat → Nat) × RV × (Nat → Nat → Int32))) (C : yC Z g cL_holds 12 wsL_holds RL) {post : Int32 → List va_W → Prop} (HR : yRi Z ({ frames := 6, cells := 0, slots := 0, locals := 136 } : Room) cL_holds .boolean post 0 0) {X26 : RV → Int32 → Int32 → Int32 → Int32 → Int32 → Int32 → Int32 → Prop} {X237 : RV → Int32 → Int32 → Int32 → Int32 → Int32 → Int32 → Int32 → Prop} (hX26 : ∀ (t : RV) (x1 : Int32) (x2 : Int32) (x3 : Int32) (x4 : Int32) (x5 : Int32) (x6 : Int32) (x7 : Int32) (GT : Nat → Nat → Int32), X26 t x1 x2 x3 x4 x5 x6 x7 → yJ Z ({ frames := 6, cells := 0, slots := 0, locals := 136 } : Room) 0 0 ([mnC x (A 0) (T 0) rs (P 0) hst rl, dayC A d, tabC T t, padC P p] ++ (dayR g A d G ++ (tabR g T t GT ++ (padR g P p GP ++ [histW g hst arr xs R]))) : List va_W) 26 [(0, .ref x), (1, .int x1), (2, .int x2), (3, .int x3), (4, .int x4), (5, .int x5), (6, .int x6), (7, .int x7)] []) (hX237 : ∀ (t : RV) (x1 : Int32) (x2 : Int32) (x3 : Int32) (x4 : Int32) (x5 : Int32) (x6 : Int32) (x7 : Int32) (GT : Nat → Nat → Int32), X237 t x1 x2 x3 x4 x5 x6 x7 → yJ Z ({ frames := 6, cells := 0, slots := 0, locals := 136 } : Room) 0 0 ([mnC x (A 0) (T 0) rs (P 0) hst rl, dayC A d, tabC T t, padC P p] ++ (dayR g A d G ++ (tabR g T t GT ++ (padR g P p GP ++ [histW g hst arr xs R]))) : List va_W) 237 [(0, .ref x), (1, .int x1), (2, .int x2), (3, .int x3), (4, .int x4), (5, .int x5), (6, .int x6), (7, .int x7)] []) {K : Int32 → RV → Prop} (hK : ∀ (r0 : Int32) (t : RV) (GT : Nat → Nat → Int32), K r0 t → post r0 ([mnC x (A 0) (T 0) rs (P 0) hst rl, dayC A d, tabC T t, padC P p] ++ (dayR g A d G ++ (tabR g T t GT ++ (padR g P p GP ++ [histW g hst arr xs R]))) : List va_W)) (t : RV) (x1 : Int32) (x2 : Int32) (x3 : Int32) (x4 : Int32) (x5 : Int32) (x6 : Int32) (x7 : Int32) (GT : Nat → Nat → Int32) (h : wp_L_holds_26 d p xs X26 X237 K t x1 x2 x3 x4 x5 x6 x7) : yJ Z ({ frames := 6, cells := 0, slots := 0, locals := 136 } : Room) 0 0 ([mnC x (A 0) (T 0) rs (P 0) hst rl, dayC A d, tabC T t, padC P p] ++ (dayR g A d G ++ (tabR g T t GT ++ (padR g P p GP ++ [histW g hst arr xs R]))) : List va_W) 26 [(0, .ref x), (1, .int x1), (2, .int x2), (3, .int x3), (4, .int x4), (5, .int x5), (6, .int x6), (7, .int x7)] [] := by
  unfold wp_L_holds_26 at h
  refine y_iload C dL_holds_26 7 rfl ?_
  refine y_aload_n C dL_holds_28 0 rfl rfl ?_
  refine y_iconst (v := 1) C dL_holds_29 (by decide) ?_
  refine y_callV (As := [.int (1 : Int32)]) (rest := [.int x7]) C dL_holds_30 (k_X6_count g x rs rl A d G T t GT P p GP hst arr xs R (1 : Int32)) rfl rfl rfl rfl ⟨Nat.le_of_ble_eq_true rfl, Nat.le_of_ble_eq_true rfl⟩ gL_holds_X6_count (nA := 1) (by decide +kernel) rfl (sh_9001 g x (A 0) (T 0) rs (P 0) hst rl A d G T t GT P p GP hst arr xs R) (Nat.le_of_ble_eq_true rfl) ⟨Nat.le_of_ble_eq_true rfl, Nat.le_of_ble_eq_true rfl⟩ [0, 1, 2, 3, 4, 5, 6, 7, 8, 9, 10, 11, 12, 13, 14, 15, 16, 17, 18, 19, 20, 21, 22, 23] [] (nB := 24) rfl (by decide +kernel) (sh_9000 g x (A 0) (T 0) rs (P 0) hst rl A d G T t GT P p GP hst arr xs R) (fun r4 w9 hw => ?_)
  obtain ⟨er4, t1, G2, e3, rfl⟩ := hw
  have h := y_letP h er4
  have h := y_letP h e3
  refine ⟨([mnC x (A 0) (T 0) rs (P 0) hst rl, dayC A d, tabC T t1, padC P p] ++ (dayR g A d G ++ (tabR g T t1 G2 ++ (padR g P p GP ++ [histW g hst arr xs R]))) : List va_W), (sh_9002 g x (A 0) (T 0) rs (P 0) hst rl A d G T t GT P p GP hst arr xs R t1 G2), ?_⟩
  refine y_icmp_ge (tgt := 234) C dL_holds_33 rfl h (fun c33 h => ?_) (fun c33 h => ?_)
  · refine y_iconst (v := 0) C dL_holds_234 (by decide) ?_
    refine y_istore (lv' := [(7, .int (0 : Int32)), (0, .ref x), (1, .int x1), (2, .int x2), (3, .int x3), (4, .int x4), (5, .int x5), (6, .int x6)]) C dL_holds_235 (Nat.le_of_ble_eq_true rfl) rfl ?_
    refine y_sub (lv' := [(0, .ref x), (1, .int x1), (2, .int x2), (3, .int x3), (4, .int x4), (5, .int x5), (6, .int x6), (7, .int (0 : Int32))]) [1, 2, 3, 4, 5, 6, 7, 0] rfl ?_
    exact hX237 _ _ _ _ _ _ _ _ _ h
  · refine y_aload_n C dL_holds_36 0 rfl rfl ?_
    refine y_iload C dL_holds_37 7 rfl ?_
    refine y_iconst (v := 4) C dL_holds_39 (by decide) ?_
    refine y_callV (As := [.int x7, .int (4 : Int32)]) (rest := []) C dL_holds_40 (c_X6_ride g x rs (P 0) hst rl A d G T t1 G2 x7 (4 : Int32)) rfl rfl rfl rfl ⟨Nat.le_of_ble_eq_true rfl, Nat.le_of_ble_eq_true rfl⟩ gL_holds_X6_ride (nA := 2) (by decide +kernel) rfl (sh_9004 g x (A 0) (T 0) rs (P 0) hst rl A d G T t1 G2) (Nat.le_of_ble_eq_true rfl) ⟨Nat.le_of_ble_eq_true rfl, Nat.le_of_ble_eq_true rfl⟩ [0, 1, 2, 4, 5, 6, 7, 8, 9, 10, 11, 12, 13, 14, 15, 16, 17, 18, 19, 20] [3, 21, 22, 23] (nB := 24) rfl (by decide +kernel) (sh_9003 g x (A 0) (T 0) rs (P 0) hst rl A d G T t1 G2 P p GP hst arr xs R) (fun r8 w9 hw => ?_)
    obtain ⟨er8, t5, G6, e7, rfl⟩ := hw
    have h := y_letP h er8
    have h := y_letP h e7
    refine ⟨([mnC x (A 0) (T 0) rs (P 0) hst rl, dayC A d, tabC T t5, padC P p] ++ (dayR g A d G ++ (tabR g T t5 G6 ++ (padR g P p GP ++ [histW g hst arr xs R]))) : List va_W), (sh_9005 g x (A 0) (T 0) rs (P 0) hst rl A d G T t1 G2 P p GP hst arr xs R t5 G6), ?_⟩
    refine y_istore (lv' := [(8, .int r8), (0, .ref x), (1, .int x1), (2, .int x2), (3, .int x3), (4, .int x4), (5, .int x5), (6, .int x6), (7, .int x7)]) C dL_holds_43 (Nat.le_of_ble_eq_true rfl) rfl ?_
    refine y_aload_n C dL_holds_45 1 rfl rfl ?_
    refine y_iload C dL_holds_46 8 rfl ?_
    refine y_iconst (v := 5) C dL_holds_48 (by decide) ?_
    refine y_callV (As := [.int x7, .int (5 : Int32)]) (rest := []) C dL_holds_49 (c_X6_ride g x rs (P 0) hst rl A d G T t5 G6 x7 (5 : Int32)) rfl rfl rfl rfl ⟨Nat.le_of_ble_eq_true rfl, Nat.le_of_ble_eq_true rfl⟩ gL_holds_X6_ride (nA := 2) (by decide +kernel) rfl (sh_9004 g x (A 0) (T 0) rs (P 0) hst rl A d G T t5 G6) (Nat.le_of_ble_eq_true rfl) ⟨Nat.le_of_ble_eq_true rfl, Nat.le_of_ble_eq_true rfl⟩ [0, 1, 2, 4, 5, 6, 7, 8, 9, 10, 11, 12, 13, 14, 15, 16, 17, 18, 19, 20] [3, 21, 22, 23] (nB := 24) rfl (by decide +kernel) (sh_9003 g x (A 0) (T 0) rs (P 0) hst rl A d G T t5 G6 P p GP hst arr xs R) (fun r12 w9 hw => ?_)
    obtain ⟨er12, t9, G10, e11, rfl⟩ := hw
    have h := y_letP h er12
    have h := y_letP h e11
    refine ⟨([mnC x (A 0) (T 0) rs (P 0) hst rl, dayC A d, tabC T t9, padC P p] ++ (dayR g A d G ++ (tabR g T t9 G10 ++ (padR g P p GP ++ [histW g hst arr xs R]))) : List va_W), (sh_9005 g x (A 0) (T 0) rs (P 0) hst rl A d G T t5 G6 P p GP hst arr xs R t9 G10), ?_⟩
    refine y_istore (lv' := [(9, .int r12), (8, .int r8), (0, .ref x), (1, .int x1), (2, .int x2), (3, .int x3), (4, .int x4), (5, .int x5), (6, .int x6), (7, .int x7)]) C dL_holds_52 (Nat.le_of_ble_eq_true rfl) rfl ?_
    refine y_aload_n C dL_holds_54 2 rfl rfl ?_
    refine y_iload C dL_holds_55 9 rfl ?_
    refine y_bipush (v := 6) C dL_holds_57 (by decide) ?_
    refine y_callV (As := [.int x7, .int (6 : Int32)]) (rest := []) C dL_holds_59 (c_X6_ride g x rs (P 0) hst rl A d G T t9 G10 x7 (6 : Int32)) rfl rfl rfl rfl ⟨Nat.le_of_ble_eq_true rfl, Nat.le_of_ble_eq_true rfl⟩ gL_holds_X6_ride (nA := 2) (by decide +kernel) rfl (sh_9004 g x (A 0) (T 0) rs (P 0) hst rl A d G T t9 G10) (Nat.le_of_ble_eq_true rfl) ⟨Nat.le_of_ble_eq_true rfl, Nat.le_of_ble_eq_true rfl⟩ [0, 1, 2, 4, 5, 6, 7, 8, 9, 10, 11, 12, 13, 14, 15, 16, 17, 18, 19, 20] [3, 21, 22, 23] (nB := 24) rfl (by decide +kernel) (sh_9003 g x (A 0) (T 0) rs (P 0) hst rl A d G T t9 G10 P p GP hst arr xs R) (fun r16 w9 hw => ?_)
    obtain ⟨er16, t13, G14, e15, rfl⟩ := hw
    have h := y_letP h er16
    have h := y_letP h e15
    refine ⟨([mnC x (A 0) (T 0) rs (P 0) hst rl, dayC A d, tabC T t13, padC P p] ++ (dayR g A d G ++ (tabR g T t13 G14 ++ (padR g P p GP ++ [histW g hst arr xs R]))) : List va_W), (sh_9005 g x (A 0) (T 0) rs (P 0) hst rl A d G T t9 G10 P p GP hst arr xs R t13 G14), ?_⟩
    refine y_istore (lv' := [(10, .int r16), (9, .int r12), (8, .int r8), (0, .ref x), (1, .int x1), (2, .int x2), (3, .int x3), (4, .int x4), (5, .int x5), (6, .int x6), (7, .int x7)]) C dL_holds_62 (Nat.le_of_ble_eq_true rfl) rfl ?_
    refine y_iload C dL_holds_64 7 rfl ?_
    refine y_iload C dL_holds_66 2 rfl ?_
    refine y_if_ne (tgt := 75) C dL_holds_68 rfl h (fun c68 h => ?_) (fun c68 h => ?_)
    · refine y_iconst (v := 0) C dL_holds_75 (by decide) ?_
      refine y_iadd C dL_holds_76 ?_
      refine y_istore (lv' := [(4, .int (x4 + (0 : Int32))), (10, .int r16), (9, .int r12), (8, .int r8), (0, .ref x), (1, .int x1), (2, .int x2), (3, .int x3), (5, .int x5), (6, .int x6), (7, .int x7)]) C dL_holds_77 (Nat.le_of_ble_eq_true rfl) rfl ?_
      refine y_sub (lv' := [(0, .ref x), (1, .int x1), (2, .int x2), (3, .int x3), (4, .int (x4 + (0 : Int32))), (5, .int x5), (6, .int x6), (7, .int x7), (8, .int r8), (9, .int r12), (10, .int r16)]) [4, 5, 6, 7, 0, 8, 9, 10, 3, 2, 1] rfl ?_
      exact w_L_holds_79 g x rs rl A d G T P p GP hst arr xs R C HR hX26 hX237 hK _ _ _ _ _ _ _ _ _ _ _ _ h
    · refine y_iconst (v := 1) C dL_holds_71 (by decide) ?_
      refine y_goto (tgt := 76) C dL_holds_72 rfl ?_
      refine y_iadd C dL_holds_76 ?_
      refine y_istore (lv' := [(4, .int (x4 + (1 : Int32))), (10, .int r16), (9, .int r12), (8, .int r8), (0, .ref x), (1, .int x1), (2, .int x2), (3, .int x3), (5, .int x5), (6, .int x6), (7, .int x7)]) C dL_holds_77 (Nat.le_of_ble_eq_true rfl) rfl ?_
      refine y_sub (lv' := [(0, .ref x), (1, .int x1), (2, .int x2), (3, .int x3), (4, .int (x4 + (1 : Int32))), (5, .int x5), (6, .int x6), (7, .int x7), (8, .int r8), (9, .int r12), (10, .int r16)]) [4, 5, 6, 7, 0, 8, 9, 10, 3, 2, 1] rfl ?_
      exact w_L_holds_79 g x rs rl A d G T P p GP hst arr xs R C HR hX26 hX237 hK _ _ _ _ _ _ _ _ _ _ _ _ h
set_option maxHeartbeats 4000000 in
set_option maxRecDepth 100000 in
theorem w_L_holds_237 {Z : yZ} (g : yG) (x rs rl : Nat) (A : Nat → Nat) (d : RV) (G : Nat → Nat → Int32) (T : Nat → Nat) (P : Nat → Nat) (p : RV) (GP : Nat → Nat → Int32) (hst arr : Nat) (xs : List RV) (R : List ((Nat → Nat) × RV × (Nat → Nat → Int32))) (C : yC Z g cL_holds 12 wsL_holds RL) {post : Int32 → List va_W → Prop} (HR : yRi Z ({ frames := 6, cells := 0, slots := 0, locals := 136 } : Room) cL_holds .boolean post 0 0) {X26 : RV → Int32 → Int32 → Int32 → Int32 → Int32 → Int32 → Int32 → Prop} {X237 : RV → Int32 → Int32 → Int32 → Int32 → Int32 → Int32 → Int32 → Prop} (hX26 : ∀ (t : RV) (x1 : Int32) (x2 : Int32) (x3 : Int32) (x4 : Int32) (x5 : Int32) (x6 : Int32) (x7 : Int32) (GT : Nat → Nat → Int32), X26 t x1 x2 x3 x4 x5 x6 x7 → yJ Z ({ frames := 6, cells := 0, slots := 0, locals := 136 } : Room) 0 0 ([mnC x (A 0) (T 0) rs (P 0) hst rl, dayC A d, tabC T t, padC P p] ++ (dayR g A d G ++ (tabR g T t GT ++ (padR g P p GP ++ [histW g hst arr xs R]))) : List va_W) 26 [(0, .ref x), (1, .int x1), (2, .int x2), (3, .int x3), (4, .int x4), (5, .int x5), (6, .int x6), (7, .int x7)] []) (hX237 : ∀ (t : RV) (x1 : Int32) (x2 : Int32) (x3 : Int32) (x4 : Int32) (x5 : Int32) (x6 : Int32) (x7 : Int32) (GT : Nat → Nat → Int32), X237 t x1 x2 x3 x4 x5 x6 x7 → yJ Z ({ frames := 6, cells := 0, slots := 0, locals := 136 } : Room) 0 0 ([mnC x (A 0) (T 0) rs (P 0) hst rl, dayC A d, tabC T t, padC P p] ++ (dayR g A d G ++ (tabR g T t GT ++ (padR g P p GP ++ [histW g hst arr xs R]))) : List va_W) 237 [(0, .ref x), (1, .int x1), (2, .int x2), (3, .int x3), (4, .int x4), (5, .int x5), (6, .int x6), (7, .int x7)] []) {K : Int32 → RV → Prop} (hK : ∀ (r0 : Int32) (t : RV) (GT : Nat → Nat → Int32), K r0 t → post r0 ([mnC x (A 0) (T 0) rs (P 0) hst rl, dayC A d, tabC T t, padC P p] ++ (dayR g A d G ++ (tabR g T t GT ++ (padR g P p GP ++ [histW g hst arr xs R]))) : List va_W)) (t : RV) (x1 : Int32) (x2 : Int32) (x3 : Int32) (x4 : Int32) (x5 : Int32) (x6 : Int32) (x7 : Int32) (GT : Nat → Nat → Int32) (h : wp_L_holds_237 d p xs X26 X237 K t x1 x2 x3 x4 x5 x6 x7) : yJ Z ({ frames := 6, cells := 0, slots := 0, locals := 136 } : Room) 0 0 ([mnC x (A 0) (T 0) rs (P 0) hst rl, dayC A d, tabC T t, padC P p] ++ (dayR g A d G ++ (tabR g T t GT ++ (padR g P p GP ++ [histW g hst arr xs R]))) : List va_W) 237 [(0, .ref x), (1, .int x1), (2, .int x2), (3, .int x3), (4, .int x4), (5, .int x5), (6, .int x6), (7, .int x7)] [] := by
  unfold wp_L_holds_237 at h
  refine y_iload C dL_holds_237 7 rfl ?_
  refine y_iload_n C dL_holds_239 3 rfl rfl ?_
  refine y_icmp_ge (tgt := 395) C dL_holds_240 rfl h (fun c240 h => ?_) (fun c240 h => ?_)
  · refine y_iload_n C dL_holds_395 2 rfl rfl ?_
    refine y_if_ne (tgt := 458) C dL_holds_396 rfl h (fun c396 h => ?_) (fun c396 h => ?_)
    · refine y_sub (lv' := []) [] rfl ?_
      exact w_L_holds_458 g x rs rl A d G T P p GP hst arr xs R C HR hX26 hX237 hK _ _ h
    · refine y_iload_n C dL_holds_399 3 rfl rfl ?_
      refine y_iconst (v := 2) C dL_holds_400 (by decide) ?_
      refine y_iload C dL_holds_401 4 rfl ?_
      refine y_imul C dL_holds_403 ?_
      refine y_iload C dL_holds_404 5 rfl ?_
      refine y_iadd C dL_holds_406 ?_
      refine y_icmp_ne (tgt := 458) C dL_holds_407 rfl h (fun c407 h => ?_) (fun c407 h => ?_)
      · refine y_sub (lv' := []) [] rfl ?_
        exact w_L_holds_458 g x rs rl A d G T P p GP hst arr xs R C HR hX26 hX237 hK _ _ h
      · refine y_iload C dL_holds_410 5 rfl ?_
        refine y_aload_n C dL_holds_412 0 rfl rfl ?_
        refine y_iconst (v := 5) C dL_holds_413 (by decide) ?_
        refine y_callV (As := [.int (5 : Int32)]) (rest := [.int x5]) C dL_holds_414 (k_X6_count g x rs rl A d G T t GT P p GP hst arr xs R (5 : Int32)) rfl rfl rfl rfl ⟨Nat.le_of_ble_eq_true rfl, Nat.le_of_ble_eq_true rfl⟩ gL_holds_X6_count (nA := 1) (by decide +kernel) rfl (sh_9001 g x (A 0) (T 0) rs (P 0) hst rl A d G T t GT P p GP hst arr xs R) (Nat.le_of_ble_eq_true rfl) ⟨Nat.le_of_ble_eq_true rfl, Nat.le_of_ble_eq_true rfl⟩ [0, 1, 2, 3, 4, 5, 6, 7, 8, 9, 10, 11, 12, 13, 14, 15, 16, 17, 18, 19, 20, 21, 22, 23] [] (nB := 24) rfl (by decide +kernel) (sh_9000 g x (A 0) (T 0) rs (P 0) hst rl A d G T t GT P p GP hst arr xs R) (fun r4 w9 hw => ?_)
        obtain ⟨er4, t1, G2, e3, rfl⟩ := hw
        have h := y_letP h er4
        have h := y_letP h e3
        refine ⟨([mnC x (A 0) (T 0) rs (P 0) hst rl, dayC A d, tabC T t1, padC P p] ++ (dayR g A d G ++ (tabR g T t1 G2 ++ (padR g P p GP ++ [histW g hst arr xs R]))) : List va_W), (sh_9002 g x (A 0) (T 0) rs (P 0) hst rl A d G T t GT P p GP hst arr xs R t1 G2), ?_⟩
        refine y_icmp_ne (tgt := 458) C dL_holds_417 rfl h (fun c417 h => ?_) (fun c417 h => ?_)
        · refine y_sub (lv' := []) [] rfl ?_
          exact w_L_holds_458 g x rs rl A d G T P p GP hst arr xs R C HR hX26 hX237 hK _ _ h
        · refine y_iload C dL_holds_420 6 rfl ?_
          refine y_aload_n C dL_holds_422 0 rfl rfl ?_
          refine y_bipush (v := 6) C dL_holds_423 (by decide) ?_
          refine y_callV (As := [.int (6 : Int32)]) (rest := [.int x6]) C dL_holds_425 (k_X6_count g x rs rl A d G T t1 G2 P p GP hst arr xs R (6 : Int32)) rfl rfl rfl rfl ⟨Nat.le_of_ble_eq_true rfl, Nat.le_of_ble_eq_true rfl⟩ gL_holds_X6_count (nA := 1) (by decide +kernel) rfl (sh_9001 g x (A 0) (T 0) rs (P 0) hst rl A d G T t1 G2 P p GP hst arr xs R) (Nat.le_of_ble_eq_true rfl) ⟨Nat.le_of_ble_eq_true rfl, Nat.le_of_ble_eq_true rfl⟩ [0, 1, 2, 3, 4, 5, 6, 7, 8, 9, 10, 11, 12, 13, 14, 15, 16, 17, 18, 19, 20, 21, 22, 23] [] (nB := 24) rfl (by decide +kernel) (sh_9000 g x (A 0) (T 0) rs (P 0) hst rl A d G T t1 G2 P p GP hst arr xs R) (fun r8 w9 hw => ?_)
          obtain ⟨er8, t5, G6, e7, rfl⟩ := hw
          have h := y_letP h er8
          have h := y_letP h e7
          refine ⟨([mnC x (A 0) (T 0) rs (P 0) hst rl, dayC A d, tabC T t5, padC P p] ++ (dayR g A d G ++ (tabR g T t5 G6 ++ (padR g P p GP ++ [histW g hst arr xs R]))) : List va_W), (sh_9002 g x (A 0) (T 0) rs (P 0) hst rl A d G T t1 G2 P p GP hst arr xs R t5 G6), ?_⟩
          refine y_icmp_ne (tgt := 458) C dL_holds_428 rfl h (fun c428 h => ?_) (fun c428 h => ?_)
          · refine y_sub (lv' := []) [] rfl ?_
            exact w_L_holds_458 g x rs rl A d G T P p GP hst arr xs R C HR hX26 hX237 hK _ _ h
          · refine y_iload_n C dL_holds_431 3 rfl rfl ?_
            refine y_if_eq (tgt := 444) C dL_holds_432 rfl h (fun c432 h => ?_) (fun c432 h => ?_)
            · refine y_sub (lv' := [(0, .ref x), (3, .int x3)]) [0, 3] rfl ?_
              exact w_L_holds_444 g x rs rl A d G T P p GP hst arr xs R C HR hX26 hX237 hK _ _ _ h
            · refine y_aload_n C dL_holds_435 0 rfl rfl ?_
              refine y_iconst (v := 4) C dL_holds_436 (by decide) ?_
              refine y_callV (As := [.int (4 : Int32)]) (rest := []) C dL_holds_437 (k_X6_count g x rs rl A d G T t5 G6 P p GP hst arr xs R (4 : Int32)) rfl rfl rfl rfl ⟨Nat.le_of_ble_eq_true rfl, Nat.le_of_ble_eq_true rfl⟩ gL_holds_X6_count (nA := 1) (by decide +kernel) rfl (sh_9001 g x (A 0) (T 0) rs (P 0) hst rl A d G T t5 G6 P p GP hst arr xs R) (Nat.le_of_ble_eq_true rfl) ⟨Nat.le_of_ble_eq_true rfl, Nat.le_of_ble_eq_true rfl⟩ [0, 1, 2, 3, 4, 5, 6, 7, 8, 9, 10, 11, 12, 13, 14, 15, 16, 17, 18, 19, 20, 21, 22, 23] [] (nB := 24) rfl (by decide +kernel) (sh_9000 g x (A 0) (T 0) rs (P 0) hst rl A d G T t5 G6 P p GP hst arr xs R) (fun r12 w9 hw => ?_)
              obtain ⟨er12, t9, G10, e11, rfl⟩ := hw
              have h := y_letP h er12
              have h := y_letP h e11
              refine ⟨([mnC x (A 0) (T 0) rs (P 0) hst rl, dayC A d, tabC T t9, padC P p] ++ (dayR g A d G ++ (tabR g T t9 G10 ++ (padR g P p GP ++ [histW g hst arr xs R]))) : List va_W), (sh_9002 g x (A 0) (T 0) rs (P 0) hst rl A d G T t5 G6 P p GP hst arr xs R t9 G10), ?_⟩
              refine y_iload_n C dL_holds_440 1 rfl rfl ?_
              refine y_icmp_ne (tgt := 458) C dL_holds_441 rfl h (fun c441 h => ?_) (fun c441 h => ?_)
              · refine y_sub (lv' := []) [] rfl ?_
                exact w_L_holds_458 g x rs rl A d G T P p GP hst arr xs R C HR hX26 hX237 hK _ _ h
              · refine y_sub (lv' := [(0, .ref x), (3, .int x3)]) [0, 3] rfl ?_
                exact w_L_holds_444 g x rs rl A d G T P p GP hst arr xs R C HR hX26 hX237 hK _ _ _ h
  · refine y_aload_n C dL_holds_243 0 rfl rfl ?_
    refine y_iload C dL_holds_244 7 rfl ?_
    refine y_iconst (v := 0) C dL_holds_246 (by decide) ?_
    refine y_callV (As := [.int x7, .int (0 : Int32)]) (rest := []) C dL_holds_247 (c_X6_visit g x rs (P 0) hst rl A d G T t GT x7 (0 : Int32)) rfl rfl rfl rfl ⟨Nat.le_of_ble_eq_true rfl, Nat.le_of_ble_eq_true rfl⟩ gL_holds_X6_visit (nA := 2) (by decide +kernel) rfl (sh_9004 g x (A 0) (T 0) rs (P 0) hst rl A d G T t GT) (Nat.le_of_ble_eq_true rfl) ⟨Nat.le_of_ble_eq_true rfl, Nat.le_of_ble_eq_true rfl⟩ [0, 1, 2, 4, 5, 6, 7, 8, 9, 10, 11, 12, 13, 14, 15, 16, 17, 18, 19, 20] [3, 21, 22, 23] (nB := 24) rfl (by decide +kernel) (sh_9003 g x (A 0) (T 0) rs (P 0) hst rl A d G T t GT P p GP hst arr xs R) (fun r16 w9 hw => ?_)
    obtain ⟨er16, t13, G14, e15, rfl⟩ := hw
    have h := y_letP h er16
    have h := y_letP h e15
    refine ⟨([mnC x (A 0) (T 0) rs (P 0) hst rl, dayC A d, tabC T t13, padC P p] ++ (dayR g A d G ++ (tabR g T t13 G14 ++ (padR g P p GP ++ [histW g hst arr xs R]))) : List va_W), (sh_9005 g x (A 0) (T 0) rs (P 0) hst rl A d G T t GT P p GP hst arr xs R t13 G14), ?_⟩
    refine y_istore (lv' := [(8, .int r16), (0, .ref x), (1, .int x1), (2, .int x2), (3, .int x3), (4, .int x4), (5, .int x5), (6, .int x6), (7, .int x7)]) C dL_holds_250 (Nat.le_of_ble_eq_true rfl) rfl ?_
    refine y_aload_n C dL_holds_252 1 rfl rfl ?_
    refine y_iload C dL_holds_253 8 rfl ?_
    refine y_iconst (v := 1) C dL_holds_255 (by decide) ?_
    refine y_callV (As := [.int x7, .int (1 : Int32)]) (rest := []) C dL_holds_256 (c_X6_visit g x rs (P 0) hst rl A d G T t13 G14 x7 (1 : Int32)) rfl rfl rfl rfl ⟨Nat.le_of_ble_eq_true rfl, Nat.le_of_ble_eq_true rfl⟩ gL_holds_X6_visit (nA := 2) (by decide +kernel) rfl (sh_9004 g x (A 0) (T 0) rs (P 0) hst rl A d G T t13 G14) (Nat.le_of_ble_eq_true rfl) ⟨Nat.le_of_ble_eq_true rfl, Nat.le_of_ble_eq_true rfl⟩ [0, 1, 2, 4, 5, 6, 7, 8, 9, 10, 11, 12, 13, 14, 15, 16, 17, 18, 19, 20] [3, 21, 22, 23] (nB := 24) rfl (by decide +kernel) (sh_9003 g x (A 0) (T 0) rs (P 0) hst rl A d G T t13 G14 P p GP hst arr xs R) (fun r20 w9 hw => ?_)
    obtain ⟨er20, t17, G18, e19, rfl⟩ := hw
    have h := y_letP h er20
    have h := y_letP h e19
    refine ⟨([mnC x (A 0) (T 0) rs (P 0) hst rl, dayC A d, tabC T t17, padC P p] ++ (dayR g A d G ++ (tabR g T t17 G18 ++ (padR g P p GP ++ [histW g hst arr xs R]))) : List va_W), (sh_9005 g x (A 0) (T 0) rs (P 0) hst rl A d G T t13 G14 P p GP hst arr xs R t17 G18), ?_⟩
    refine y_iconst (v := 1) C dL_holds_259 (by decide) ?_
    refine y_icmp_ne (tgt := 267) C dL_holds_260 rfl h (fun c260 h => ?_) (fun c260 h => ?_)
    · refine y_iconst (v := 0) C dL_holds_267 (by decide) ?_
      refine y_istore (lv' := [(9, .int (0 : Int32)), (8, .int r16), (0, .ref x), (1, .int x1), (2, .int x2), (3, .int x3), (4, .int x4), (5, .int x5), (6, .int x6), (7, .int x7)]) C dL_holds_268 (Nat.le_of_ble_eq_true rfl) rfl ?_
      refine y_sub (lv' := [(0, .ref x), (1, .int x1), (2, .int x2), (3, .int x3), (4, .int x4), (5, .int x5), (6, .int x6), (7, .int x7), (8, .int r16), (9, .int (0 : Int32))]) [2, 3, 4, 5, 6, 7, 8, 9, 1, 0] rfl ?_
      exact w_L_holds_270 g x rs rl A d G T P p GP hst arr xs R C HR hX26 hX237 hK _ _ _ _ _ _ _ _ _ _ _ h
    · refine y_iconst (v := 1) C dL_holds_263 (by decide) ?_
      refine y_goto (tgt := 268) C dL_holds_264 rfl ?_
      refine y_istore (lv' := [(9, .int (1 : Int32)), (8, .int r16), (0, .ref x), (1, .int x1), (2, .int x2), (3, .int x3), (4, .int x4), (5, .int x5), (6, .int x6), (7, .int x7)]) C dL_holds_268 (Nat.le_of_ble_eq_true rfl) rfl ?_
      refine y_sub (lv' := [(0, .ref x), (1, .int x1), (2, .int x2), (3, .int x3), (4, .int x4), (5, .int x5), (6, .int x6), (7, .int x7), (8, .int r16), (9, .int (1 : Int32))]) [2, 3, 4, 5, 6, 7, 8, 9, 1, 0] rfl ?_
      exact w_L_holds_270 g x rs rl A d G T P p GP hst arr xs R C HR hX26 hX237 hK _ _ _ _ _ _ _ _ _ _ _ h
set_option maxHeartbeats 4000000 in
set_option maxRecDepth 100000 in
theorem l_L_holds {Z : yZ} (g : yG) (x rs rl : Nat) (A : Nat → Nat) (d : RV) (G : Nat → Nat → Int32) (T : Nat → Nat) (P : Nat → Nat) (p : RV) (GP : Nat → Nat → Int32) (hst arr : Nat) (xs : List RV) (R : List ((Nat → Nat) × RV × (Nat → Nat → Int32))) (C : yC Z g cL_holds 12 wsL_holds RL) {post : Int32 → List va_W → Prop} (HR : yRi Z ({ frames := 6, cells := 0, slots := 0, locals := 136 } : Room) cL_holds .boolean post 0 0) {K : Int32 → RV → Prop} (hK : ∀ (r0 : Int32) (t : RV) (GT : Nat → Nat → Int32), K r0 t → post r0 ([mnC x (A 0) (T 0) rs (P 0) hst rl, dayC A d, tabC T t, padC P p] ++ (dayR g A d G ++ (tabR g T t GT ++ (padR g P p GP ++ [histW g hst arr xs R]))) : List va_W)) {I26 : Nat → RV → Int32 → Int32 → Int32 → Int32 → Int32 → Int32 → Int32 → Prop} {I237 : Nat → RV → Int32 → Int32 → Int32 → Int32 → Int32 → Int32 → Int32 → Prop} (o26 : ∀ (w0 : Nat) (t : RV) (x1 : Int32) (x2 : Int32) (x3 : Int32) (x4 : Int32) (x5 : Int32) (x6 : Int32) (x7 : Int32), I26 w0 t x1 x2 x3 x4 x5 x6 x7 → wp_L_holds_26 d p xs (fun (t9 : RV) (x19 : Int32) (x29 : Int32) (x39 : Int32) (x49 : Int32) (x59 : Int32) (x69 : Int32) (x79 : Int32) => ∃ w9, w9 < w0 ∧ I26 w9 t9 x19 x29 x39 x49 x59 x69 x79) (fun (t9 : RV) (x19 : Int32) (x29 : Int32) (x39 : Int32) (x49 : Int32) (x59 : Int32) (x69 : Int32) (x79 : Int32) => ∃ w9, w9 < w0 ∧ I237 w9 t9 x19 x29 x39 x49 x59 x69 x79) K t x1 x2 x3 x4 x5 x6 x7) (o237 : ∀ (w0 : Nat) (t : RV) (x1 : Int32) (x2 : Int32) (x3 : Int32) (x4 : Int32) (x5 : Int32) (x6 : Int32) (x7 : Int32), I237 w0 t x1 x2 x3 x4 x5 x6 x7 → wp_L_holds_237 d p xs (fun (t9 : RV) (x19 : Int32) (x29 : Int32) (x39 : Int32) (x49 : Int32) (x59 : Int32) (x69 : Int32) (x79 : Int32) => ∃ w9, w9 < w0 ∧ I26 w9 t9 x19 x29 x39 x49 x59 x69 x79) (fun (t9 : RV) (x19 : Int32) (x29 : Int32) (x39 : Int32) (x49 : Int32) (x59 : Int32) (x69 : Int32) (x79 : Int32) => ∃ w9, w9 < w0 ∧ I237 w9 t9 x19 x29 x39 x49 x59 x69 x79) K t x1 x2 x3 x4 x5 x6 x7) : ∀ w0 : Nat, (∀ (t : RV) (x1 : Int32) (x2 : Int32) (x3 : Int32) (x4 : Int32) (x5 : Int32) (x6 : Int32) (x7 : Int32) (GT : Nat → Nat → Int32), I26 w0 t x1 x2 x3 x4 x5 x6 x7 → yJ Z ({ frames := 6, cells := 0, slots := 0, locals := 136 } : Room) 0 0 ([mnC x (A 0) (T 0) rs (P 0) hst rl, dayC A d, tabC T t, padC P p] ++ (dayR g A d G ++ (tabR g T t GT ++ (padR g P p GP ++ [histW g hst arr xs R]))) : List va_W) 26 [(0, .ref x), (1, .int x1), (2, .int x2), (3, .int x3), (4, .int x4), (5, .int x5), (6, .int x6), (7, .int x7)] []) ∧ (∀ (t : RV) (x1 : Int32) (x2 : Int32) (x3 : Int32) (x4 : Int32) (x5 : Int32) (x6 : Int32) (x7 : Int32) (GT : Nat → Nat → Int32), I237 w0 t x1 x2 x3 x4 x5 x6 x7 → yJ Z ({ frames := 6, cells := 0, slots := 0, locals := 136 } : Room) 0 0 ([mnC x (A 0) (T 0) rs (P 0) hst rl, dayC A d, tabC T t, padC P p] ++ (dayR g A d G ++ (tabR g T t GT ++ (padR g P p GP ++ [histW g hst arr xs R]))) : List va_W) 237 [(0, .ref x), (1, .int x1), (2, .int x2), (3, .int x3), (4, .int x4), (5, .int x5), (6, .int x6), (7, .int x7)] []) := by
  intro w0
  induction w0 using Nat.strongRecOn with
  | _ w0 ih =>
    exact ⟨fun t x1 x2 x3 x4 x5 x6 x7 GT hi => w_L_holds_26 g x rs rl A d G T P p GP hst arr xs R C HR (fun t x1 x2 x3 x4 x5 x6 x7 GT hq => by obtain ⟨w9, hlt, hi⟩ := hq; exact (ih w9 hlt).1 t x1 x2 x3 x4 x5 x6 x7 GT hi) (fun t x1 x2 x3 x4 x5 x6 x7 GT hq => by obtain ⟨w9, hlt, hi⟩ := hq; exact (ih w9 hlt).2 t x1 x2 x3 x4 x5 x6 x7 GT hi) hK t x1 x2 x3 x4 x5 x6 x7 GT (o26 w0 t x1 x2 x3 x4 x5 x6 x7 hi), fun t x1 x2 x3 x4 x5 x6 x7 GT hi => w_L_holds_237 g x rs rl A d G T P p GP hst arr xs R C HR (fun t x1 x2 x3 x4 x5 x6 x7 GT hq => by obtain ⟨w9, hlt, hi⟩ := hq; exact (ih w9 hlt).1 t x1 x2 x3 x4 x5 x6 x7 GT hi) (fun t x1 x2 x3 x4 x5 x6 x7 GT hq => by obtain ⟨w9, hlt, hi⟩ := hq; exact (ih w9 hlt).2 t x1 x2 x3 x4 x5 x6 x7 GT hi) hK t x1 x2 x3 x4 x5 x6 x7 GT (o237 w0 t x1 x2 x3 x4 x5 x6 x7 hi)⟩
