set_option maxHeartbeats 4000000 in
set_option maxRecDepth 100000 in
theorem lw_45 {Z : yZ} {g : yG} (x S hst arr sl : Nat) (A T SA ST P : Nat → Nat) {k0 n0 b L : Nat} {sx : Nat → Int32} (hLb : L < 2147483648) (C : yC Z g cL_law 14 wsL_law RL) (HX : ySc Z b L sx) (hk : k0 + 50 ≤ 600000) (hn : n0 + 472 ≤ 7302250) (HR1 : ∀ (k n : Nat) (W0 : List va_W) (lv : List (Nat × Value)), k ≤ 600000 → n ≤ 7302250 → yJ Z room_1 k n W0 330 lv [.int 1]) {X158 : RV → RV → RV → RV → RV → RV → SL × SL → List RV → Int64 → Int32 → Int32 → Int32 → Int64 → Int32 → Int64 → Prop} (hX158 : ∀ k1 n1, k1 ≤ k0 + 50 → n1 ≤ n0 + 472 → ∀ (d t sv sd st p : RV) (o : SL × SL) (xs : List RV) (x2 : Int64) (x4 : Int32) (x5 : Int32) (x6 : Int32) (x7 : Int64) (x10 : Int32) (x11 : Int64) (G GT SG SGT GP : Nat → Nat → Int32) (R : List ((Nat → Nat) × RV × (Nat → Nat → Int32))), X158 d t sv sd st p o xs x2 x4 x5 x6 x7 x10 x11 → yJ Z room_1 k1 n1 ([mnC x (A 0) (T 0) S (P 0) hst sl, dayC A d, tabC T t, seaC S (SA 0) (ST 0) sv, dayC SA sd, tabC ST st, padC P p] ++ (dayR g A d G ++ (tabR g T t GT ++ (dayR g SA sd SG ++ (tabR g ST st SGT ++ (padR g P p GP ++ ([slW g sl o.1 o.2] ++ [histW g hst arr xs R])))))) : List va_W) 158 [(0, .ref b), (1, .ref x), (2, .long x2), (4, .int x4), (5, .int x5), (6, .int x6), (7, .long x7), (10, .int x10), (11, .long x11)] []) (d t sv sd st p : RV) (o : SL × SL) (xs : List RV) (x2 : Int64) (x4 : Int32) (G GT SG SGT GP : Nat → Nat → Int32) (R : List ((Nat → Nat) × RV × (Nat → Nat → Int32))) (h : wl_45 L sx X158 d t sv sd st p o xs x2 x4) : yJ Z room_1 k0 n0 ([mnC x (A 0) (T 0) S (P 0) hst sl, dayC A d, tabC T t, seaC S (SA 0) (ST 0) sv, dayC SA sd, tabC ST st, padC P p] ++ (dayR g A d G ++ (tabR g T t GT ++ (dayR g SA sd SG ++ (tabR g ST st SGT ++ (padR g P p GP ++ ([slW g sl o.1 o.2] ++ [histW g hst arr xs R])))))) : List va_W) 45 [(0, .ref b), (1, .ref x), (2, .long x2), (4, .int x4)] [] := by
  unfold wl_45 at h
  refine y_iload C dL_law_45 3 rfl ?_
  refine y_bipush (v := 36) C dL_law_47 (by decide) ?_
  refine y_icmp_ge (tgt := 303) C dL_law_49 rfl h (fun c49 h => ?_) (fun c49 h => ?_)
  · refine y_aload_n C dL_law_303 1 rfl rfl ?_
    refine y_iconst (v := 0) C dL_law_304 (by decide) ?_
    refine y_callV (As := [.int (0 : Int32)]) (rest := []) C dL_law_305 (k_X6_restore g x (T 0) S (P 0) A d G hst arr xs R sl o (0 : Int32)) rfl rfl rfl rfl ⟨Nat.le_of_ble_eq_true rfl, Nat.le_of_ble_eq_true rfl⟩ gL_law_X6_restore (nA := 1) (by decide +kernel) rfl (sh_9504 g x (A 0) (T 0) S (P 0) hst sl A d G hst arr xs R sl o) (Nat.le_of_ble_eq_true rfl) ⟨by rw [lw_rc]; omega, by rw [lw_rs]; omega⟩ [0, 1, 7, 8, 9, 10, 11, 12, 13, 14, 15, 16, 17, 18, 44, 43] [2, 3, 4, 5, 6, 19, 20, 21, 22, 23, 24, 25, 26, 27, 28, 29, 30, 31, 32, 33, 34, 35, 36, 37, 38, 39, 40, 41, 42] (nB := 45) rfl (by decide +kernel) (sh_9503 g x (A 0) (T 0) S (P 0) hst sl A d G T t GT S (SA 0) (ST 0) sv SA sd SG ST st SGT P p GP sl o hst arr xs R) (fun r7 w9 hw => ?_)
    obtain ⟨d1, xs4, G2, G5, hq8, rfl⟩ := hw
    have h := h r7 d1 xs4 hq8
    refine ⟨([mnC x (A 0) (T 0) S (P 0) hst sl, dayC A d1, tabC T t, seaC S (SA 0) (ST 0) sv, dayC SA sd, tabC ST st, padC P p] ++ (dayR g A d1 G2 ++ (tabR g T t GT ++ (dayR g SA sd SG ++ (tabR g ST st SGT ++ (padR g P p GP ++ ([slW g sl o.1 o.2] ++ [histW g hst arr xs4 G5])))))) : List va_W), (sh_9505 g x (A 0) (T 0) S (P 0) hst sl A d G T t GT S (SA 0) (ST 0) sv SA sd SG ST st SGT P p GP sl o hst arr xs R d1 G2 xs4 G5), ?_⟩
    refine y_aload_n C dL_law_308 1 rfl rfl ?_
    refine y_iconst (v := 1) C dL_law_309 (by decide) ?_
    refine y_callV (As := [.int (1 : Int32)]) (rest := [.int r7]) C dL_law_310 (k_X6_count g x S sl A d1 G2 T t GT P p GP hst arr xs4 G5 (1 : Int32)) rfl rfl rfl rfl ⟨Nat.le_of_ble_eq_true rfl, Nat.le_of_ble_eq_true rfl⟩ gL_law_X6_count (nA := 1) (by decide +kernel) rfl (sh_9512 g x (A 0) (T 0) S (P 0) hst sl A d1 G2 T t GT P p GP hst arr xs4 G5) (Nat.le_of_ble_eq_true rfl) ⟨by rw [lw_rc]; omega, by rw [lw_rs]; omega⟩ [0, 1, 2, 6, 7, 8, 9, 10, 11, 12, 13, 14, 15, 16, 17, 18, 19, 20, 21, 22, 23, 41, 42, 44] [3, 4, 5, 24, 25, 26, 27, 28, 29, 30, 31, 32, 33, 34, 35, 36, 37, 38, 39, 40, 43] (nB := 45) rfl (by decide +kernel) (sh_9511 g x (A 0) (T 0) S (P 0) hst sl A d1 G2 T t GT S (SA 0) (ST 0) sv SA sd SG ST st SGT P p GP sl o hst arr xs4 G5) (fun r12 w9 hw => ?_)
    obtain ⟨er12, t9, G10, e11, rfl⟩ := hw
    have h := y_letP h er12
    have h := y_letP h e11
    refine ⟨([mnC x (A 0) (T 0) S (P 0) hst sl, dayC A d1, tabC T t9, seaC S (SA 0) (ST 0) sv, dayC SA sd, tabC ST st, padC P p] ++ (dayR g A d1 G2 ++ (tabR g T t9 G10 ++ (dayR g SA sd SG ++ (tabR g ST st SGT ++ (padR g P p GP ++ ([slW g sl o.1 o.2] ++ [histW g hst arr xs4 G5])))))) : List va_W), (sh_9513 g x (A 0) (T 0) S (P 0) hst sl A d1 G2 T t GT S (SA 0) (ST 0) sv SA sd SG ST st SGT P p GP sl o hst arr xs4 G5 t9 G10), ?_⟩
    refine y_icmp_ne (tgt := 329) C dL_law_313 rfl h (fun c313 h => ?_) (fun c313 h => ?_)
    · refine y_iconst (v := 0) C dL_law_329 (by decide) ?_
      exact h.elim
    · refine y_aload_n C dL_law_316 1 rfl rfl ?_
      obtain ⟨hp13, h⟩ := h
      refine y_callSWl (As := [.ref x]) (rest := []) C dL_law_317 (k_L_digest g x S sl A d1 G2 T t9 G10 P p GP hst arr xs4 G5 hp13) rfl rfl rfl rfl ⟨Nat.le_of_ble_eq_true rfl, Nat.le_of_ble_eq_true rfl⟩ gL_law_L_digest (nA := 1) (by decide +kernel) rfl (Nat.le_of_ble_eq_true rfl) ⟨by rw [lw_rc]; omega, by rw [lw_rs]; omega⟩ [0, 1, 2, 6, 7, 8, 9, 10, 11, 12, 13, 14, 15, 16, 17, 18, 19, 20, 21, 22, 23, 41, 42, 44] [3, 4, 5, 24, 25, 26, 27, 28, 29, 30, 31, 32, 33, 34, 35, 36, 37, 38, 39, 40, 43] (nB := 45) rfl (by decide +kernel) (sh_9509 g x (A 0) (T 0) S (P 0) hst sl A d1 G2 T t9 G10 S (SA 0) (ST 0) sv SA sd SG ST st SGT P p GP sl o hst arr xs4 G5) (fun r17 w9 hw => ?_)
      obtain ⟨t14, G15, hq18, rfl⟩ := hw
      have h := h r17 t14 hq18
      refine ⟨([mnC x (A 0) (T 0) S (P 0) hst sl, dayC A d1, tabC T t14, seaC S (SA 0) (ST 0) sv, dayC SA sd, tabC ST st, padC P p] ++ (dayR g A d1 G2 ++ (tabR g T t14 G15 ++ (dayR g SA sd SG ++ (tabR g ST st SGT ++ (padR g P p GP ++ ([slW g sl o.1 o.2] ++ [histW g hst arr xs4 G5])))))) : List va_W), (sh_9510 g x (A 0) (T 0) S (P 0) hst sl A d1 G2 T t9 G10 S (SA 0) (ST 0) sv SA sd SG ST st SGT P p GP sl o hst arr xs4 G5 t14 G15), ?_⟩
      refine y_lload_n C dL_law_320 2 rfl rfl ?_
      refine y_lcmp C dL_law_321 ?_
      refine y_if_ne (tgt := 329) C dL_law_322 rfl h (fun c322 h => ?_) (fun c322 h => ?_)
      · refine y_iconst (v := 0) C dL_law_329 (by decide) ?_
        exact h.elim
      · refine y_iconst (v := 1) C dL_law_325 (by decide) ?_
        refine y_goto (tgt := 330) C dL_law_326 rfl ?_
        exact HR1 _ _ _ _ (by omega) (by omega)
  · refine y_aload_n C dL_law_52 0 rfl rfl ?_
    refine y_iconst (v := 2) C dL_law_53 (by decide) ?_
    refine y_iload C dL_law_54 3 rfl ?_
    refine y_imul C dL_law_56 ?_
    obtain ⟨hp19, h⟩ := h
    refine y_callSX (As := [.ref b, .int ((2 : Int32) * x4)]) (rest := []) C HX dL_law_57 (c_L_cell g b L sx ((2 : Int32) * x4) hp19 hLb) rfl rfl rfl rfl ⟨Nat.le_of_ble_eq_true rfl, Nat.le_of_ble_eq_true rfl⟩ gL_law_L_cell (nA := 2) (by decide +kernel) rfl (Nat.le_of_ble_eq_true rfl) ⟨by rw [lw_rc]; omega, by rw [lw_rs]; omega⟩ ?_
    refine y_istore (lv' := [(5, .int (fCell L sx ((2 : Int32) * x4))), (0, .ref b), (1, .ref x), (2, .long x2), (4, .int x4)]) C dL_law_60 (Nat.le_of_ble_eq_true rfl) rfl ?_
    refine y_aload_n C dL_law_62 1 rfl rfl ?_
    refine y_iconst (v := 2) C dL_law_63 (by decide) ?_
    refine y_iload C dL_law_64 4 rfl ?_
    refine y_imul C dL_law_66 ?_
    refine y_iconst (v := 1) C dL_law_67 (by decide) ?_
    refine y_iadd C dL_law_68 ?_
    obtain ⟨hp20, h⟩ := h
    refine y_callSX (As := [.ref b, .int (((2 : Int32) * x4) + (1 : Int32))]) (rest := []) C HX dL_law_69 (c_L_cell g b L sx (((2 : Int32) * x4) + (1 : Int32)) hp20 hLb) rfl rfl rfl rfl ⟨Nat.le_of_ble_eq_true rfl, Nat.le_of_ble_eq_true rfl⟩ gL_law_L_cell (nA := 2) (by decide +kernel) rfl (Nat.le_of_ble_eq_true rfl) ⟨by rw [lw_rc]; omega, by rw [lw_rs]; omega⟩ ?_
    refine y_istore (lv' := [(6, .int (fCell L sx (((2 : Int32) * x4) + (1 : Int32)))), (5, .int (fCell L sx ((2 : Int32) * x4))), (0, .ref b), (1, .ref x), (2, .long x2), (4, .int x4)]) C dL_law_72 (Nat.le_of_ble_eq_true rfl) rfl ?_
    refine y_aload_n C dL_law_74 3 rfl rfl ?_
    obtain ⟨hp21, h⟩ := h
    refine y_callSWl (As := [.ref x]) (rest := []) C dL_law_75 (k_L_digest g x S sl A d G T t GT P p GP hst arr xs R hp21) rfl rfl rfl rfl ⟨Nat.le_of_ble_eq_true rfl, Nat.le_of_ble_eq_true rfl⟩ gL_law_L_digest (nA := 1) (by decide +kernel) rfl (Nat.le_of_ble_eq_true rfl) ⟨by rw [lw_rc]; omega, by rw [lw_rs]; omega⟩ [0, 1, 2, 6, 7, 8, 9, 10, 11, 12, 13, 14, 15, 16, 17, 18, 19, 20, 21, 22, 23, 41, 42, 44] [3, 4, 5, 24, 25, 26, 27, 28, 29, 30, 31, 32, 33, 34, 35, 36, 37, 38, 39, 40, 43] (nB := 45) rfl (by decide +kernel) (sh_9509 g x (A 0) (T 0) S (P 0) hst sl A d G T t GT S (SA 0) (ST 0) sv SA sd SG ST st SGT P p GP sl o hst arr xs R) (fun r25 w9 hw => ?_)
    obtain ⟨t22, G23, hq26, rfl⟩ := hw
    have h := h r25 t22 hq26
    refine ⟨([mnC x (A 0) (T 0) S (P 0) hst sl, dayC A d, tabC T t22, seaC S (SA 0) (ST 0) sv, dayC SA sd, tabC ST st, padC P p] ++ (dayR g A d G ++ (tabR g T t22 G23 ++ (dayR g SA sd SG ++ (tabR g ST st SGT ++ (padR g P p GP ++ ([slW g sl o.1 o.2] ++ [histW g hst arr xs R])))))) : List va_W), (sh_9510 g x (A 0) (T 0) S (P 0) hst sl A d G T t GT S (SA 0) (ST 0) sv SA sd SG ST st SGT P p GP sl o hst arr xs R t22 G23), ?_⟩
    refine y_lstore (lv' := [(7, .long r25), (6, .int (fCell L sx (((2 : Int32) * x4) + (1 : Int32)))), (5, .int (fCell L sx ((2 : Int32) * x4))), (0, .ref b), (1, .ref x), (2, .long x2), (4, .int x4)]) C dL_law_78 (Nat.le_of_ble_eq_true rfl) rfl ?_
    refine y_aload_n C dL_law_80 4 rfl rfl ?_
    refine y_bipush (v := 13) C dL_law_81 (by decide) ?_
    refine y_callV (As := [.int (13 : Int32)]) (rest := []) C dL_law_83 (k_X6_count g x S sl A d G T t22 G23 P p GP hst arr xs R (13 : Int32)) rfl rfl rfl rfl ⟨Nat.le_of_ble_eq_true rfl, Nat.le_of_ble_eq_true rfl⟩ gL_law_X6_count (nA := 1) (by decide +kernel) rfl (sh_9512 g x (A 0) (T 0) S (P 0) hst sl A d G T t22 G23 P p GP hst arr xs R) (Nat.le_of_ble_eq_true rfl) ⟨by rw [lw_rc]; omega, by rw [lw_rs]; omega⟩ [0, 1, 2, 6, 7, 8, 9, 10, 11, 12, 13, 14, 15, 16, 17, 18, 19, 20, 21, 22, 23, 41, 42, 44] [3, 4, 5, 24, 25, 26, 27, 28, 29, 30, 31, 32, 33, 34, 35, 36, 37, 38, 39, 40, 43] (nB := 45) rfl (by decide +kernel) (sh_9511 g x (A 0) (T 0) S (P 0) hst sl A d G T t22 G23 S (SA 0) (ST 0) sv SA sd SG ST st SGT P p GP sl o hst arr xs R) (fun r30 w9 hw => ?_)
    obtain ⟨er30, t27, G28, e29, rfl⟩ := hw
    have h := y_letP h er30
    have h := y_letP h e29
    refine ⟨([mnC x (A 0) (T 0) S (P 0) hst sl, dayC A d, tabC T t27, seaC S (SA 0) (ST 0) sv, dayC SA sd, tabC ST st, padC P p] ++ (dayR g A d G ++ (tabR g T t27 G28 ++ (dayR g SA sd SG ++ (tabR g ST st SGT ++ (padR g P p GP ++ ([slW g sl o.1 o.2] ++ [histW g hst arr xs R])))))) : List va_W), (sh_9513 g x (A 0) (T 0) S (P 0) hst sl A d G T t22 G23 S (SA 0) (ST 0) sv SA sd SG ST st SGT P p GP sl o hst arr xs R t27 G28), ?_⟩
    refine y_istore (lv' := [(9, .int r30), (7, .long r25), (6, .int (fCell L sx (((2 : Int32) * x4) + (1 : Int32)))), (5, .int (fCell L sx ((2 : Int32) * x4))), (0, .ref b), (1, .ref x), (2, .long x2), (4, .int x4)]) C dL_law_86 (Nat.le_of_ble_eq_true rfl) rfl ?_
    refine y_aload_n C dL_law_88 5 rfl rfl ?_
    refine y_iload C dL_law_89 3 rfl ?_
    refine y_iload C dL_law_91 2 rfl ?_
    obtain ⟨hp31, h⟩ := h
    refine y_callSW (As := [.ref x, .int (fCell L sx ((2 : Int32) * x4)), .int (fCell L sx (((2 : Int32) * x4) + (1 : Int32)))]) (rest := []) C dL_law_93 (k_L_act g x A d G T t27 G28 S sv SA sd SG ST st SGT P p GP sl o hst arr xs R (fCell L sx ((2 : Int32) * x4)) (fCell L sx (((2 : Int32) * x4) + (1 : Int32))) hp31) rfl rfl rfl rfl ⟨Nat.le_of_ble_eq_true rfl, Nat.le_of_ble_eq_true rfl⟩ gL_law_L_act (nA := 3) (by decide +kernel) rfl (Nat.le_of_ble_eq_true rfl) ⟨by rw [lw_rc]; omega, by rw [lw_rs]; omega⟩ [0, 1, 2, 3, 4, 5, 6, 7, 8, 9, 10, 11, 12, 13, 14, 15, 16, 17, 18, 19, 20, 21, 22, 23, 24, 25, 26, 27, 28, 29, 30, 31, 32, 33, 34, 35, 36, 37, 38, 39, 40, 41, 42, 43, 44] [] (nB := 45) rfl (by decide +kernel) (sh_9514 g x (A 0) (T 0) S (P 0) hst sl A d G T t27 G28 S (SA 0) (ST 0) sv SA sd SG ST st SGT P p GP sl o hst arr xs R) (fun r49 w9 hw => ?_)
    obtain ⟨d32, t35, sv38, sd40, st43, xs46, G33, G36, G41, G44, G47, hq50, rfl⟩ := hw
    have h := h r49 d32 t35 sv38 sd40 st43 xs46 hq50
    refine ⟨([mnC x (A 0) (T 0) S (P 0) hst sl, dayC A d32, tabC T t35, seaC S (SA 0) (ST 0) sv38, dayC SA sd40, tabC ST st43, padC P p] ++ (dayR g A d32 G33 ++ (tabR g T t35 G36 ++ (dayR g SA sd40 G41 ++ (tabR g ST st43 G44 ++ (padR g P p GP ++ ([slW g sl o.1 o.2] ++ [histW g hst arr xs46 G47])))))) : List va_W), (sh_9515 g x (A 0) (T 0) S (P 0) hst sl A d G T t27 G28 S (SA 0) (ST 0) sv SA sd SG ST st SGT P p GP sl o hst arr xs R d32 G33 t35 G36 sv38 sd40 G41 st43 G44 xs46 G47), ?_⟩
    refine y_istore (lv' := [(10, .int r49), (9, .int r30), (7, .long r25), (6, .int (fCell L sx (((2 : Int32) * x4) + (1 : Int32)))), (5, .int (fCell L sx ((2 : Int32) * x4))), (0, .ref b), (1, .ref x), (2, .long x2), (4, .int x4)]) C dL_law_96 (Nat.le_of_ble_eq_true rfl) rfl ?_
    refine y_aload_n C dL_law_98 6 rfl rfl ?_
    obtain ⟨hp51, h⟩ := h
    refine y_callSWl (As := [.ref x]) (rest := []) C dL_law_99 (k_L_digest g x S sl A d32 G33 T t35 G36 P p GP hst arr xs46 G47 hp51) rfl rfl rfl rfl ⟨Nat.le_of_ble_eq_true rfl, Nat.le_of_ble_eq_true rfl⟩ gL_law_L_digest (nA := 1) (by decide +kernel) rfl (Nat.le_of_ble_eq_true rfl) ⟨by rw [lw_rc]; omega, by rw [lw_rs]; omega⟩ [0, 1, 2, 6, 7, 8, 9, 10, 11, 12, 13, 14, 15, 16, 17, 18, 19, 20, 21, 22, 23, 41, 42, 44] [3, 4, 5, 24, 25, 26, 27, 28, 29, 30, 31, 32, 33, 34, 35, 36, 37, 38, 39, 40, 43] (nB := 45) rfl (by decide +kernel) (sh_9509 g x (A 0) (T 0) S (P 0) hst sl A d32 G33 T t35 G36 S (SA 0) (ST 0) sv38 SA sd40 G41 ST st43 G44 P p GP sl o hst arr xs46 G47) (fun r55 w9 hw => ?_)
    obtain ⟨t52, G53, hq56, rfl⟩ := hw
    have h := h r55 t52 hq56
    refine ⟨([mnC x (A 0) (T 0) S (P 0) hst sl, dayC A d32, tabC T t52, seaC S (SA 0) (ST 0) sv38, dayC SA sd40, tabC ST st43, padC P p] ++ (dayR g A d32 G33 ++ (tabR g T t52 G53 ++ (dayR g SA sd40 G41 ++ (tabR g ST st43 G44 ++ (padR g P p GP ++ ([slW g sl o.1 o.2] ++ [histW g hst arr xs46 G47])))))) : List va_W), (sh_9510 g x (A 0) (T 0) S (P 0) hst sl A d32 G33 T t35 G36 S (SA 0) (ST 0) sv38 SA sd40 G41 ST st43 G44 P p GP sl o hst arr xs46 G47 t52 G53), ?_⟩
    refine y_lstore (lv' := [(11, .long r55), (10, .int r49), (9, .int r30), (7, .long r25), (6, .int (fCell L sx (((2 : Int32) * x4) + (1 : Int32)))), (5, .int (fCell L sx ((2 : Int32) * x4))), (0, .ref b), (1, .ref x), (2, .long x2), (4, .int x4)]) C dL_law_102 (Nat.le_of_ble_eq_true rfl) rfl ?_
    refine y_iload C dL_law_104 1 rfl ?_
    refine y_if_ge (tgt := 131) C dL_law_106 rfl h (fun c106 h => ?_) (fun c106 h => ?_)
    · refine y_aload_n C dL_law_131 7 rfl rfl ?_
      refine y_bipush (v := 13) C dL_law_132 (by decide) ?_
      refine y_callV (As := [.int (13 : Int32)]) (rest := []) C dL_law_134 (k_X6_count g x S sl A d32 G33 T t52 G53 P p GP hst arr xs46 G47 (13 : Int32)) rfl rfl rfl rfl ⟨Nat.le_of_ble_eq_true rfl, Nat.le_of_ble_eq_true rfl⟩ gL_law_X6_count (nA := 1) (by decide +kernel) rfl (sh_9512 g x (A 0) (T 0) S (P 0) hst sl A d32 G33 T t52 G53 P p GP hst arr xs46 G47) (Nat.le_of_ble_eq_true rfl) ⟨by rw [lw_rc]; omega, by rw [lw_rs]; omega⟩ [0, 1, 2, 6, 7, 8, 9, 10, 11, 12, 13, 14, 15, 16, 17, 18, 19, 20, 21, 22, 23, 41, 42, 44] [3, 4, 5, 24, 25, 26, 27, 28, 29, 30, 31, 32, 33, 34, 35, 36, 37, 38, 39, 40, 43] (nB := 45) rfl (by decide +kernel) (sh_9511 g x (A 0) (T 0) S (P 0) hst sl A d32 G33 T t52 G53 S (SA 0) (ST 0) sv38 SA sd40 G41 ST st43 G44 P p GP sl o hst arr xs46 G47) (fun r60 w9 hw => ?_)
      obtain ⟨er60, t57, G58, e59, rfl⟩ := hw
      have h := y_letP h er60
      have h := y_letP h e59
      refine ⟨([mnC x (A 0) (T 0) S (P 0) hst sl, dayC A d32, tabC T t57, seaC S (SA 0) (ST 0) sv38, dayC SA sd40, tabC ST st43, padC P p] ++ (dayR g A d32 G33 ++ (tabR g T t57 G58 ++ (dayR g SA sd40 G41 ++ (tabR g ST st43 G44 ++ (padR g P p GP ++ ([slW g sl o.1 o.2] ++ [histW g hst arr xs46 G47])))))) : List va_W), (sh_9513 g x (A 0) (T 0) S (P 0) hst sl A d32 G33 T t52 G53 S (SA 0) (ST 0) sv38 SA sd40 G41 ST st43 G44 P p GP sl o hst arr xs46 G47 t57 G58), ?_⟩
      refine y_iload C dL_law_137 2 rfl ?_
      refine y_bipush (v := 6) C dL_law_139 (by decide) ?_
      refine y_icmp_ge (tgt := 151) C dL_law_141 rfl h (fun c141 h => ?_) (fun c141 h => ?_)
      · refine y_bipush (v := 6) C dL_law_151 (by decide) ?_
        refine y_icmp_eq (tgt := 158) C dL_law_153 rfl h (fun c153 h => ?_) (fun c153 h => ?_)
        · refine y_sub (lv' := [(0, .ref b), (1, .ref x), (2, .long x2), (4, .int x4), (5, .int (fCell L sx ((2 : Int32) * x4))), (6, .int (fCell L sx (((2 : Int32) * x4) + (1 : Int32)))), (7, .long r25), (10, .int r49), (11, .long r55)]) [6, 7, 8, 9, 5, 4, 3, 1, 0] rfl ?_
          exact hX158 _ _ (by omega) (by omega) d32 t57 sv38 sd40 st43 p o xs46 x2 x4 (fCell L sx ((2 : Int32) * x4)) (fCell L sx (((2 : Int32) * x4) + (1 : Int32))) r25 r49 r55 G33 G58 G41 G44 GP G47 h
        · refine y_iconst (v := 0) C dL_law_156 (by decide) ?_
          exact h.elim
      · refine y_iload C dL_law_144 2 rfl ?_
        refine y_iconst (v := 1) C dL_law_146 (by decide) ?_
        refine y_iadd C dL_law_147 ?_
        refine y_goto (tgt := 153) C dL_law_148 rfl ?_
        refine y_icmp_eq (tgt := 158) C dL_law_153 rfl h (fun c153 h => ?_) (fun c153 h => ?_)
        · refine y_sub (lv' := [(0, .ref b), (1, .ref x), (2, .long x2), (4, .int x4), (5, .int (fCell L sx ((2 : Int32) * x4))), (6, .int (fCell L sx (((2 : Int32) * x4) + (1 : Int32)))), (7, .long r25), (10, .int r49), (11, .long r55)]) [6, 7, 8, 9, 5, 4, 3, 1, 0] rfl ?_
          exact hX158 _ _ (by omega) (by omega) d32 t57 sv38 sd40 st43 p o xs46 x2 x4 (fCell L sx ((2 : Int32) * x4)) (fCell L sx (((2 : Int32) * x4) + (1 : Int32))) r25 r49 r55 G33 G58 G41 G44 GP G47 h
        · refine y_iconst (v := 0) C dL_law_156 (by decide) ?_
          exact h.elim
    · refine y_lload C dL_law_109 0 rfl ?_
      refine y_lload C dL_law_111 3 rfl ?_
      refine y_lcmp C dL_law_113 ?_
      refine y_if_ne (tgt := 156) C dL_law_114 rfl h (fun c114 h => ?_) (fun c114 h => ?_)
      · refine y_iconst (v := 0) C dL_law_156 (by decide) ?_
        exact h.elim
      · refine y_aload_n C dL_law_117 7 rfl rfl ?_
        refine y_bipush (v := 13) C dL_law_118 (by decide) ?_
        refine y_callV (As := [.int (13 : Int32)]) (rest := []) C dL_law_120 (k_X6_count g x S sl A d32 G33 T t52 G53 P p GP hst arr xs46 G47 (13 : Int32)) rfl rfl rfl rfl ⟨Nat.le_of_ble_eq_true rfl, Nat.le_of_ble_eq_true rfl⟩ gL_law_X6_count (nA := 1) (by decide +kernel) rfl (sh_9512 g x (A 0) (T 0) S (P 0) hst sl A d32 G33 T t52 G53 P p GP hst arr xs46 G47) (Nat.le_of_ble_eq_true rfl) ⟨by rw [lw_rc]; omega, by rw [lw_rs]; omega⟩ [0, 1, 2, 6, 7, 8, 9, 10, 11, 12, 13, 14, 15, 16, 17, 18, 19, 20, 21, 22, 23, 41, 42, 44] [3, 4, 5, 24, 25, 26, 27, 28, 29, 30, 31, 32, 33, 34, 35, 36, 37, 38, 39, 40, 43] (nB := 45) rfl (by decide +kernel) (sh_9511 g x (A 0) (T 0) S (P 0) hst sl A d32 G33 T t52 G53 S (SA 0) (ST 0) sv38 SA sd40 G41 ST st43 G44 P p GP sl o hst arr xs46 G47) (fun r64 w9 hw => ?_)
        obtain ⟨er64, t61, G62, e63, rfl⟩ := hw
        have h := y_letP h er64
        have h := y_letP h e63
        refine ⟨([mnC x (A 0) (T 0) S (P 0) hst sl, dayC A d32, tabC T t61, seaC S (SA 0) (ST 0) sv38, dayC SA sd40, tabC ST st43, padC P p] ++ (dayR g A d32 G33 ++ (tabR g T t61 G62 ++ (dayR g SA sd40 G41 ++ (tabR g ST st43 G44 ++ (padR g P p GP ++ ([slW g sl o.1 o.2] ++ [histW g hst arr xs46 G47])))))) : List va_W), (sh_9513 g x (A 0) (T 0) S (P 0) hst sl A d32 G33 T t52 G53 S (SA 0) (ST 0) sv38 SA sd40 G41 ST st43 G44 P p GP sl o hst arr xs46 G47 t61 G62), ?_⟩
        refine y_iload C dL_law_123 2 rfl ?_
        refine y_icmp_eq (tgt := 158) C dL_law_125 rfl h (fun c125 h => ?_) (fun c125 h => ?_)
        · refine y_sub (lv' := [(0, .ref b), (1, .ref x), (2, .long x2), (4, .int x4), (5, .int (fCell L sx ((2 : Int32) * x4))), (6, .int (fCell L sx (((2 : Int32) * x4) + (1 : Int32)))), (7, .long r25), (10, .int r49), (11, .long r55)]) [6, 7, 8, 9, 5, 4, 3, 1, 0] rfl ?_
          exact hX158 _ _ (by omega) (by omega) d32 t61 sv38 sd40 st43 p o xs46 x2 x4 (fCell L sx ((2 : Int32) * x4)) (fCell L sx (((2 : Int32) * x4) + (1 : Int32))) r25 r49 r55 G33 G62 G41 G44 GP G47 h
        · refine y_goto (tgt := 156) C dL_law_128 rfl ?_
          refine y_iconst (v := 0) C dL_law_156 (by decide) ?_
          exact h.elim
