set_option maxHeartbeats 4000000 in
set_option maxRecDepth 100000 in
theorem w_L_areKept_46 {Z : yZ} (g : yG) (x rs rl : Nat) (A : Nat → Nat) (d : RV) (G : Nat → Nat → Int32) (T : Nat → Nat) (P : Nat → Nat) (p : RV) (GP : Nat → Nat → Int32) (hst arr : Nat) (xs : List RV) (R : List ((Nat → Nat) × RV × (Nat → Nat → Int32))) (C : yC Z g cL_areKept 3 wsL_areKept RL) {post : Int32 → List va_W → Prop} (HR : yRi Z ({ frames := 6, cells := 0, slots := 0, locals := 136 } : Room) cL_areKept .boolean post 0 0) {X4 : RV → Int32 → Int32 → Prop} {X46 : RV → Int32 → Int32 → Prop} (hX4 : ∀ (t : RV) (x1 : Int32) (x2 : Int32) (GT : Nat → Nat → Int32), X4 t x1 x2 → yJ Z ({ frames := 6, cells := 0, slots := 0, locals := 136 } : Room) 0 0 ([mnC x (A 0) (T 0) rs (P 0) hst rl, dayC A d, tabC T t, padC P p] ++ (dayR g A d G ++ (tabR g T t GT ++ (padR g P p GP ++ [histW g hst arr xs R]))) : List va_W) 4 [(0, .ref x), (1, .int x1), (2, .int x2)] []) (hX46 : ∀ (t : RV) (x1 : Int32) (x2 : Int32) (GT : Nat → Nat → Int32), X46 t x1 x2 → yJ Z ({ frames := 6, cells := 0, slots := 0, locals := 136 } : Room) 0 0 ([mnC x (A 0) (T 0) rs (P 0) hst rl, dayC A d, tabC T t, padC P p] ++ (dayR g A d G ++ (tabR g T t GT ++ (padR g P p GP ++ [histW g hst arr xs R]))) : List va_W) 46 [(0, .ref x), (1, .int x1), (2, .int x2)] []) {K : Int32 → RV → Prop} (hK : ∀ (r0 : Int32) (t : RV) (GT : Nat → Nat → Int32), K r0 t → post r0 ([mnC x (A 0) (T 0) rs (P 0) hst rl, dayC A d, tabC T t, padC P p] ++ (dayR g A d G ++ (tabR g T t GT ++ (padR g P p GP ++ [histW g hst arr xs R]))) : List va_W)) (t : RV) (x1 : Int32) (x2 : Int32) (GT : Nat → Nat → Int32) (h : wp_L_areKept_46 d p xs X4 X46 K t x1 x2) : yJ Z ({ frames := 6, cells := 0, slots := 0, locals := 136 } : Room) 0 0 ([mnC x (A 0) (T 0) rs (P 0) hst rl, dayC A d, tabC T t, padC P p] ++ (dayR g A d G ++ (tabR g T t GT ++ (padR g P p GP ++ [histW g hst arr xs R]))) : List va_W) 46 [(0, .ref x), (1, .int x1), (2, .int x2)] [] := by
  unfold wp_L_areKept_46 at h
  refine y_iload_n C dL_areKept_46 2 rfl rfl ?_
  refine y_aload_n C dL_areKept_47 0 rfl rfl ?_
  refine y_iconst (v := 1) C dL_areKept_48 (by decide) ?_
  refine y_callV (As := [.int (1 : Int32)]) (rest := [.int x2]) C dL_areKept_49 (k_X6_count g x rs rl A d G T t GT P p GP hst arr xs R (1 : Int32)) rfl rfl rfl rfl ⟨Nat.le_of_ble_eq_true rfl, Nat.le_of_ble_eq_true rfl⟩ gL_areKept_X6_count (nA := 1) (by decide +kernel) rfl (sh_9001 g x (A 0) (T 0) rs (P 0) hst rl A d G T t GT P p GP hst arr xs R) (Nat.le_of_ble_eq_true rfl) ⟨Nat.le_of_ble_eq_true rfl, Nat.le_of_ble_eq_true rfl⟩ [0, 1, 2, 3, 4, 5, 6, 7, 8, 9, 10, 11, 12, 13, 14, 15, 16, 17, 18, 19, 20, 21, 22, 23] [] (nB := 24) rfl (by decide +kernel) (sh_9000 g x (A 0) (T 0) rs (P 0) hst rl A d G T t GT P p GP hst arr xs R) (fun r4 w9 hw => ?_)
  obtain ⟨er4, t1, G2, e3, rfl⟩ := hw
  have h := y_letP h er4
  have h := y_letP h e3
  refine ⟨([mnC x (A 0) (T 0) rs (P 0) hst rl, dayC A d, tabC T t1, padC P p] ++ (dayR g A d G ++ (tabR g T t1 G2 ++ (padR g P p GP ++ [histW g hst arr xs R]))) : List va_W), (sh_9002 g x (A 0) (T 0) rs (P 0) hst rl A d G T t GT P p GP hst arr xs R t1 G2), ?_⟩
  refine y_icmp_ge (tgt := 127) C dL_areKept_52 rfl h (fun c52 h => ?_) (fun c52 h => ?_)
  · refine y_iload_n C dL_areKept_127 1 rfl rfl ?_
    obtain ⟨hz5, h⟩ := h
    exact HR 128 dL_areKept_128 x1 _ _ _ _ (hz5) (Nat.le_of_ble_eq_true rfl) (Nat.le_of_ble_eq_true rfl) (hK _ _ _ h)
  · refine y_aload_n C dL_areKept_55 0 rfl rfl ?_
    refine y_iload_n C dL_areKept_56 2 rfl rfl ?_
    refine y_iconst (v := 4) C dL_areKept_57 (by decide) ?_
    refine y_callV (As := [.int x2, .int (4 : Int32)]) (rest := []) C dL_areKept_58 (c_X6_ride g x rs (P 0) hst rl A d G T t1 G2 x2 (4 : Int32)) rfl rfl rfl rfl ⟨Nat.le_of_ble_eq_true rfl, Nat.le_of_ble_eq_true rfl⟩ gL_areKept_X6_ride (nA := 2) (by decide +kernel) rfl (sh_9004 g x (A 0) (T 0) rs (P 0) hst rl A d G T t1 G2) (Nat.le_of_ble_eq_true rfl) ⟨Nat.le_of_ble_eq_true rfl, Nat.le_of_ble_eq_true rfl⟩ [0, 1, 2, 4, 5, 6, 7, 8, 9, 10, 11, 12, 13, 14, 15, 16, 17, 18, 19, 20] [3, 21, 22, 23] (nB := 24) rfl (by decide +kernel) (sh_9003 g x (A 0) (T 0) rs (P 0) hst rl A d G T t1 G2 P p GP hst arr xs R) (fun r9 w9 hw => ?_)
    obtain ⟨er9, t6, G7, e8, rfl⟩ := hw
    have h := y_letP h er9
    have h := y_letP h e8
    refine ⟨([mnC x (A 0) (T 0) rs (P 0) hst rl, dayC A d, tabC T t6, padC P p] ++ (dayR g A d G ++ (tabR g T t6 G7 ++ (padR g P p GP ++ [histW g hst arr xs R]))) : List va_W), (sh_9005 g x (A 0) (T 0) rs (P 0) hst rl A d G T t1 G2 P p GP hst arr xs R t6 G7), ?_⟩
    refine y_iconst (v := 2) C dL_areKept_61 (by decide) ?_
    refine y_icmp_ge (tgt := 121) C dL_areKept_62 rfl h (fun c62 h => ?_) (fun c62 h => ?_)
    · refine y_sub (lv' := [(0, .ref x), (1, .int x1), (2, .int x2)]) [0, 1, 2] rfl ?_
      exact w_L_areKept_121 g x rs rl A d G T P p GP hst arr xs R C HR hX4 hX46 hK _ _ _ _ h
    · refine y_iload_n C dL_areKept_65 1 rfl rfl ?_
      refine y_if_eq (tgt := 119) C dL_areKept_66 rfl h (fun c66 h => ?_) (fun c66 h => ?_)
      · refine y_sub (lv' := [(0, .ref x), (2, .int x2)]) [0, 2] rfl ?_
        exact w_L_areKept_119 g x rs rl A d G T P p GP hst arr xs R C HR hX4 hX46 hK _ _ _ h
      · refine y_aload_n C dL_areKept_69 0 rfl rfl ?_
        refine y_iload_n C dL_areKept_70 2 rfl rfl ?_
        refine y_callV (As := [.int x2]) (rest := []) C dL_areKept_71 (c_X6_spare g x rs (P 0) hst rl A d G T t6 G7 x2) rfl rfl rfl rfl ⟨Nat.le_of_ble_eq_true rfl, Nat.le_of_ble_eq_true rfl⟩ gL_areKept_X6_spare (nA := 1) (by decide +kernel) rfl (sh_9004 g x (A 0) (T 0) rs (P 0) hst rl A d G T t6 G7) (Nat.le_of_ble_eq_true rfl) ⟨Nat.le_of_ble_eq_true rfl, Nat.le_of_ble_eq_true rfl⟩ [0, 1, 2, 4, 5, 6, 7, 8, 9, 10, 11, 12, 13, 14, 15, 16, 17, 18, 19, 20] [3, 21, 22, 23] (nB := 24) rfl (by decide +kernel) (sh_9003 g x (A 0) (T 0) rs (P 0) hst rl A d G T t6 G7 P p GP hst arr xs R) (fun r13 w9 hw => ?_)
        obtain ⟨er13, t10, G11, e12, rfl⟩ := hw
        have h := y_letP h er13
        have h := y_letP h e12
        refine ⟨([mnC x (A 0) (T 0) rs (P 0) hst rl, dayC A d, tabC T t10, padC P p] ++ (dayR g A d G ++ (tabR g T t10 G11 ++ (padR g P p GP ++ [histW g hst arr xs R]))) : List va_W), (sh_9005 g x (A 0) (T 0) rs (P 0) hst rl A d G T t6 G7 P p GP hst arr xs R t10 G11), ?_⟩
        refine y_if_lt (tgt := 119) C dL_areKept_74 rfl h (fun c74 h => ?_) (fun c74 h => ?_)
        · refine y_sub (lv' := [(0, .ref x), (2, .int x2)]) [0, 2] rfl ?_
          exact w_L_areKept_119 g x rs rl A d G T P p GP hst arr xs R C HR hX4 hX46 hK _ _ _ h
        · refine y_aload_n C dL_areKept_77 0 rfl rfl ?_
          refine y_iload_n C dL_areKept_78 2 rfl rfl ?_
          refine y_bipush (v := 6) C dL_areKept_79 (by decide) ?_
          refine y_callV (As := [.int x2, .int (6 : Int32)]) (rest := []) C dL_areKept_81 (c_X6_ride g x rs (P 0) hst rl A d G T t10 G11 x2 (6 : Int32)) rfl rfl rfl rfl ⟨Nat.le_of_ble_eq_true rfl, Nat.le_of_ble_eq_true rfl⟩ gL_areKept_X6_ride (nA := 2) (by decide +kernel) rfl (sh_9004 g x (A 0) (T 0) rs (P 0) hst rl A d G T t10 G11) (Nat.le_of_ble_eq_true rfl) ⟨Nat.le_of_ble_eq_true rfl, Nat.le_of_ble_eq_true rfl⟩ [0, 1, 2, 4, 5, 6, 7, 8, 9, 10, 11, 12, 13, 14, 15, 16, 17, 18, 19, 20] [3, 21, 22, 23] (nB := 24) rfl (by decide +kernel) (sh_9003 g x (A 0) (T 0) rs (P 0) hst rl A d G T t10 G11 P p GP hst arr xs R) (fun r17 w9 hw => ?_)
          obtain ⟨er17, t14, G15, e16, rfl⟩ := hw
          have h := y_letP h er17
          have h := y_letP h e16
          refine ⟨([mnC x (A 0) (T 0) rs (P 0) hst rl, dayC A d, tabC T t14, padC P p] ++ (dayR g A d G ++ (tabR g T t14 G15 ++ (padR g P p GP ++ [histW g hst arr xs R]))) : List va_W), (sh_9005 g x (A 0) (T 0) rs (P 0) hst rl A d G T t10 G11 P p GP hst arr xs R t14 G15), ?_⟩
          refine y_aload_n C dL_areKept_84 0 rfl rfl ?_
          refine y_iload_n C dL_areKept_85 2 rfl rfl ?_
          refine y_iconst (v := 5) C dL_areKept_86 (by decide) ?_
          refine y_callV (As := [.int x2, .int (5 : Int32)]) (rest := [.int r17]) C dL_areKept_87 (c_X6_ride g x rs (P 0) hst rl A d G T t14 G15 x2 (5 : Int32)) rfl rfl rfl rfl ⟨Nat.le_of_ble_eq_true rfl, Nat.le_of_ble_eq_true rfl⟩ gL_areKept_X6_ride (nA := 2) (by decide +kernel) rfl (sh_9004 g x (A 0) (T 0) rs (P 0) hst rl A d G T t14 G15) (Nat.le_of_ble_eq_true rfl) ⟨Nat.le_of_ble_eq_true rfl, Nat.le_of_ble_eq_true rfl⟩ [0, 1, 2, 4, 5, 6, 7, 8, 9, 10, 11, 12, 13, 14, 15, 16, 17, 18, 19, 20] [3, 21, 22, 23] (nB := 24) rfl (by decide +kernel) (sh_9003 g x (A 0) (T 0) rs (P 0) hst rl A d G T t14 G15 P p GP hst arr xs R) (fun r21 w9 hw => ?_)
          obtain ⟨er21, t18, G19, e20, rfl⟩ := hw
          have h := y_letP h er21
          have h := y_letP h e20
          refine ⟨([mnC x (A 0) (T 0) rs (P 0) hst rl, dayC A d, tabC T t18, padC P p] ++ (dayR g A d G ++ (tabR g T t18 G19 ++ (padR g P p GP ++ [histW g hst arr xs R]))) : List va_W), (sh_9005 g x (A 0) (T 0) rs (P 0) hst rl A d G T t14 G15 P p GP hst arr xs R t18 G19), ?_⟩
          refine y_isub C dL_areKept_90 ?_
          refine y_aload_n C dL_areKept_91 0 rfl rfl ?_
          refine y_bipush (v := 11) C dL_areKept_92 (by decide) ?_
          refine y_callV (As := [.int (11 : Int32)]) (rest := [.int (r17 - r21)]) C dL_areKept_94 (k_X6_count g x rs rl A d G T t18 G19 P p GP hst arr xs R (11 : Int32)) rfl rfl rfl rfl ⟨Nat.le_of_ble_eq_true rfl, Nat.le_of_ble_eq_true rfl⟩ gL_areKept_X6_count (nA := 1) (by decide +kernel) rfl (sh_9001 g x (A 0) (T 0) rs (P 0) hst rl A d G T t18 G19 P p GP hst arr xs R) (Nat.le_of_ble_eq_true rfl) ⟨Nat.le_of_ble_eq_true rfl, Nat.le_of_ble_eq_true rfl⟩ [0, 1, 2, 3, 4, 5, 6, 7, 8, 9, 10, 11, 12, 13, 14, 15, 16, 17, 18, 19, 20, 21, 22, 23] [] (nB := 24) rfl (by decide +kernel) (sh_9000 g x (A 0) (T 0) rs (P 0) hst rl A d G T t18 G19 P p GP hst arr xs R) (fun r25 w9 hw => ?_)
          obtain ⟨er25, t22, G23, e24, rfl⟩ := hw
          have h := y_letP h er25
          have h := y_letP h e24
          refine ⟨([mnC x (A 0) (T 0) rs (P 0) hst rl, dayC A d, tabC T t22, padC P p] ++ (dayR g A d G ++ (tabR g T t22 G23 ++ (padR g P p GP ++ [histW g hst arr xs R]))) : List va_W), (sh_9002 g x (A 0) (T 0) rs (P 0) hst rl A d G T t18 G19 P p GP hst arr xs R t22 G23), ?_⟩
          refine y_isub C dL_areKept_97 ?_
          refine y_aload_n C dL_areKept_98 0 rfl rfl ?_
          refine y_iload_n C dL_areKept_99 2 rfl rfl ?_
          refine y_bipush (v := 7) C dL_areKept_100 (by decide) ?_
          refine y_callV (As := [.int x2, .int (7 : Int32)]) (rest := [.int ((r17 - r21) - r25)]) C dL_areKept_102 (c_X6_ride g x rs (P 0) hst rl A d G T t22 G23 x2 (7 : Int32)) rfl rfl rfl rfl ⟨Nat.le_of_ble_eq_true rfl, Nat.le_of_ble_eq_true rfl⟩ gL_areKept_X6_ride (nA := 2) (by decide +kernel) rfl (sh_9004 g x (A 0) (T 0) rs (P 0) hst rl A d G T t22 G23) (Nat.le_of_ble_eq_true rfl) ⟨Nat.le_of_ble_eq_true rfl, Nat.le_of_ble_eq_true rfl⟩ [0, 1, 2, 4, 5, 6, 7, 8, 9, 10, 11, 12, 13, 14, 15, 16, 17, 18, 19, 20] [3, 21, 22, 23] (nB := 24) rfl (by decide +kernel) (sh_9003 g x (A 0) (T 0) rs (P 0) hst rl A d G T t22 G23 P p GP hst arr xs R) (fun r29 w9 hw => ?_)
          obtain ⟨er29, t26, G27, e28, rfl⟩ := hw
          have h := y_letP h er29
          have h := y_letP h e28
          refine ⟨([mnC x (A 0) (T 0) rs (P 0) hst rl, dayC A d, tabC T t26, padC P p] ++ (dayR g A d G ++ (tabR g T t26 G27 ++ (padR g P p GP ++ [histW g hst arr xs R]))) : List va_W), (sh_9005 g x (A 0) (T 0) rs (P 0) hst rl A d G T t22 G23 P p GP hst arr xs R t26 G27), ?_⟩
          refine y_aload_n C dL_areKept_105 0 rfl rfl ?_
          refine y_bipush (v := 10) C dL_areKept_106 (by decide) ?_
          refine y_callV (As := [.int (10 : Int32)]) (rest := [.int r29, .int ((r17 - r21) - r25)]) C dL_areKept_108 (k_X6_count g x rs rl A d G T t26 G27 P p GP hst arr xs R (10 : Int32)) rfl rfl rfl rfl ⟨Nat.le_of_ble_eq_true rfl, Nat.le_of_ble_eq_true rfl⟩ gL_areKept_X6_count (nA := 1) (by decide +kernel) rfl (sh_9001 g x (A 0) (T 0) rs (P 0) hst rl A d G T t26 G27 P p GP hst arr xs R) (Nat.le_of_ble_eq_true rfl) ⟨Nat.le_of_ble_eq_true rfl, Nat.le_of_ble_eq_true rfl⟩ [0, 1, 2, 3, 4, 5, 6, 7, 8, 9, 10, 11, 12, 13, 14, 15, 16, 17, 18, 19, 20, 21, 22, 23] [] (nB := 24) rfl (by decide +kernel) (sh_9000 g x (A 0) (T 0) rs (P 0) hst rl A d G T t26 G27 P p GP hst arr xs R) (fun r33 w9 hw => ?_)
          obtain ⟨er33, t30, G31, e32, rfl⟩ := hw
          have h := y_letP h er33
          have h := y_letP h e32
          refine ⟨([mnC x (A 0) (T 0) rs (P 0) hst rl, dayC A d, tabC T t30, padC P p] ++ (dayR g A d G ++ (tabR g T t30 G31 ++ (padR g P p GP ++ [histW g hst arr xs R]))) : List va_W), (sh_9002 g x (A 0) (T 0) rs (P 0) hst rl A d G T t26 G27 P p GP hst arr xs R t30 G31), ?_⟩
          refine y_iadd C dL_areKept_111 ?_
          refine y_icmp_gt (tgt := 119) C dL_areKept_112 rfl h (fun c112 h => ?_) (fun c112 h => ?_)
          · refine y_sub (lv' := [(0, .ref x), (2, .int x2)]) [0, 2] rfl ?_
            exact w_L_areKept_119 g x rs rl A d G T P p GP hst arr xs R C HR hX4 hX46 hK _ _ _ h
          · refine y_iconst (v := 1) C dL_areKept_115 (by decide) ?_
            refine y_goto (tgt := 120) C dL_areKept_116 rfl ?_
            refine y_istore_n (lv' := [(1, .int (1 : Int32)), (0, .ref x), (2, .int x2)]) C dL_areKept_120 rfl (Nat.le_of_ble_eq_true rfl) rfl ?_
            refine y_sub (lv' := [(0, .ref x), (1, .int (1 : Int32)), (2, .int x2)]) [1, 0, 2] rfl ?_
            exact w_L_areKept_121 g x rs rl A d G T P p GP hst arr xs R C HR hX4 hX46 hK _ _ _ _ h
set_option maxHeartbeats 4000000 in
set_option maxRecDepth 100000 in
theorem l_L_areKept {Z : yZ} (g : yG) (x rs rl : Nat) (A : Nat → Nat) (d : RV) (G : Nat → Nat → Int32) (T : Nat → Nat) (P : Nat → Nat) (p : RV) (GP : Nat → Nat → Int32) (hst arr : Nat) (xs : List RV) (R : List ((Nat → Nat) × RV × (Nat → Nat → Int32))) (C : yC Z g cL_areKept 3 wsL_areKept RL) {post : Int32 → List va_W → Prop} (HR : yRi Z ({ frames := 6, cells := 0, slots := 0, locals := 136 } : Room) cL_areKept .boolean post 0 0) {K : Int32 → RV → Prop} (hK : ∀ (r0 : Int32) (t : RV) (GT : Nat → Nat → Int32), K r0 t → post r0 ([mnC x (A 0) (T 0) rs (P 0) hst rl, dayC A d, tabC T t, padC P p] ++ (dayR g A d G ++ (tabR g T t GT ++ (padR g P p GP ++ [histW g hst arr xs R]))) : List va_W)) {I4 : Nat → RV → Int32 → Int32 → Prop} {I46 : Nat → RV → Int32 → Int32 → Prop} (o4 : ∀ (w0 : Nat) (t : RV) (x1 : Int32) (x2 : Int32), I4 w0 t x1 x2 → wp_L_areKept_4 d p xs (fun (t9 : RV) (x19 : Int32) (x29 : Int32) => ∃ w9, w9 < w0 ∧ I4 w9 t9 x19 x29) (fun (t9 : RV) (x19 : Int32) (x29 : Int32) => ∃ w9, w9 < w0 ∧ I46 w9 t9 x19 x29) K t x1 x2) (o46 : ∀ (w0 : Nat) (t : RV) (x1 : Int32) (x2 : Int32), I46 w0 t x1 x2 → wp_L_areKept_46 d p xs (fun (t9 : RV) (x19 : Int32) (x29 : Int32) => ∃ w9, w9 < w0 ∧ I4 w9 t9 x19 x29) (fun (t9 : RV) (x19 : Int32) (x29 : Int32) => ∃ w9, w9 < w0 ∧ I46 w9 t9 x19 x29) K t x1 x2) : ∀ w0 : Nat, (∀ (t : RV) (x1 : Int32) (x2 : Int32) (GT : Nat → Nat → Int32), I4 w0 t x1 x2 → yJ Z ({ frames := 6, cells := 0, slots := 0, locals := 136 } : Room) 0 0 ([mnC x (A 0) (T 0) rs (P 0) hst rl, dayC A d, tabC T t, padC P p] ++ (dayR g A d G ++ (tabR g T t GT ++ (padR g P p GP ++ [histW g hst arr xs R]))) : List va_W) 4 [(0, .ref x), (1, .int x1), (2, .int x2)] []) ∧ (∀ (t : RV) (x1 : Int32) (x2 : Int32) (GT : Nat → Nat → Int32), I46 w0 t x1 x2 → yJ Z ({ frames := 6, cells := 0, slots := 0, locals := 136 } : Room) 0 0 ([mnC x (A 0) (T 0) rs (P 0) hst rl, dayC A d, tabC T t, padC P p] ++ (dayR g A d G ++ (tabR g T t GT ++ (padR g P p GP ++ [histW g hst arr xs R]))) : List va_W) 46 [(0, .ref x), (1, .int x1), (2, .int x2)] []) := by
  intro w0
  induction w0 using Nat.strongRecOn with
  | _ w0 ih =>
    exact ⟨fun t x1 x2 GT hi => w_L_areKept_4 g x rs rl A d G T P p GP hst arr xs R C HR (fun t x1 x2 GT hq => by obtain ⟨w9, hlt, hi⟩ := hq; exact (ih w9 hlt).1 t x1 x2 GT hi) (fun t x1 x2 GT hq => by obtain ⟨w9, hlt, hi⟩ := hq; exact (ih w9 hlt).2 t x1 x2 GT hi) hK t x1 x2 GT (o4 w0 t x1 x2 hi), fun t x1 x2 GT hi => w_L_areKept_46 g x rs rl A d G T P p GP hst arr xs R C HR (fun t x1 x2 GT hq => by obtain ⟨w9, hlt, hi⟩ := hq; exact (ih w9 hlt).1 t x1 x2 GT hi) (fun t x1 x2 GT hq => by obtain ⟨w9, hlt, hi⟩ := hq; exact (ih w9 hlt).2 t x1 x2 GT hi) hK t x1 x2 GT (o46 w0 t x1 x2 hi)⟩
