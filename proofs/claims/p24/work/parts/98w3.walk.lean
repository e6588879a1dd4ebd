set_option maxHeartbeats 4000000 in
set_option maxRecDepth 100000 in
theorem lw_199 {Z : yZ} {g : yG} (x S hst arr sl : Nat) (A T SA ST P : Nat → Nat) {k0 n0 b L : Nat} {sx : Nat → Int32} (hLb : L < 2147483648) (C : yC Z g cL_law 14 wsL_law RL) (HX : ySc Z b L sx) (hk : k0 + 50 ≤ 600000) (hn : n0 + 472 ≤ 7302250) (HR1 : ∀ (k n : Nat) (W0 : List va_W) (lv : List (Nat × Value)), k ≤ 600000 → n ≤ 7302250 → yJ Z room_1 k n W0 330 lv [.int 1]) {X268 : RV → RV → RV → RV → RV → RV → SL × SL → List RV → Int64 → Int32 → Int32 → Int64 → Prop} (hX268 : ∀ k1 n1, k1 ≤ k0 + 50 → n1 ≤ n0 + 472 → ∀ (d t sv sd st p : RV) (o : SL × SL) (xs : List RV) (x2 : Int64) (x4 : Int32) (x5 : Int32) (x11 : Int64) (G GT SG SGT GP : Nat → Nat → Int32) (R : List ((Nat → Nat) × RV × (Nat → Nat → Int32))), X268 d t sv sd st p o xs x2 x4 x5 x11 → yJ Z room_1 k1 n1 ([mnC x (A 0) (T 0) S (P 0) hst sl, dayC A d, tabC T t, seaC S (SA 0) (ST 0) sv, dayC SA sd, tabC ST st, padC P p] ++ (dayR g A d G ++ (tabR g T t GT ++ (dayR g SA sd SG ++ (tabR g ST st SGT ++ (padR g P p GP ++ ([slW g sl o.1 o.2] ++ [histW g hst arr xs R])))))) : List va_W) 268 [(0, .ref b), (1, .ref x), (2, .long x2), (4, .int x4), (5, .int x5), (11, .long x11)] []) (d t sv sd st p : RV) (o : SL × SL) (xs : List RV) (x2 : Int64) (x4 : Int32) (x5 : Int32) (x6 : Int32) (x7 : Int64) (x10 : Int32) (x11 : Int64) (G GT SG SGT GP : Nat → Nat → Int32) (R : List ((Nat → Nat) × RV × (Nat → Nat → Int32))) (h : wl_199 L sx X268 d t sv sd st p o xs x2 x4 x5 x6 x7 x10 x11) : yJ Z room_1 k0 n0 ([mnC x (A 0) (T 0) S (P 0) hst sl, dayC A d, tabC T t, seaC S (SA 0) (ST 0) sv, dayC SA sd, tabC ST st, padC P p] ++ (dayR g A d G ++ (tabR g T t GT ++ (dayR g SA sd SG ++ (tabR g ST st SGT ++ (padR g P p GP ++ ([slW g sl o.1 o.2] ++ [histW g hst arr xs R])))))) : List va_W) 199 [(0, .ref b), (1, .ref x), (2, .long x2), (4, .int x4), (5, .int x5), (6, .int x6), (7, .long x7), (10, .int x10), (11, .long x11)] [] := by
  unfold wl_199 at h
  refine y_iload C dL_law_199 7 rfl ?_
  refine y_if_lt (tgt := 268) C dL_law_201 rfl h (fun c201 h => ?_) (fun c201 h => ?_)
  · refine y_sub (lv' := [(0, .ref b), (1, .ref x), (2, .long x2), (4, .int x4), (5, .int x5), (11, .long x11)]) [0, 1, 2, 3, 4, 8] rfl ?_
    exact hX268 _ _ (by omega) (by omega) d t sv sd st p o xs x2 x4 x5 x11 G GT SG SGT GP R h
  · refine y_iload C dL_law_204 4 rfl ?_
    refine y_bipush (v := 9) C dL_law_206 (by decide) ?_
    refine y_ishr C dL_law_208 ?_
    refine y_iconst (v := 1) C dL_law_209 (by decide) ?_
    refine y_iand C dL_law_210 ?_
    refine y_if_ne (tgt := 268) C dL_law_211 rfl h (fun c211 h => ?_) (fun c211 h => ?_)
    · refine y_sub (lv' := [(0, .ref b), (1, .ref x), (2, .long x2), (4, .int x4), (5, .int x5), (11, .long x11)]) [0, 1, 2, 3, 4, 8] rfl ?_
      exact hX268 _ _ (by omega) (by omega) d t sv sd st p o xs x2 x4 x5 x11 G GT SG SGT GP R h
    · refine y_aload_n C dL_law_214 1 rfl rfl ?_
      refine y_bipush (v := 13) C dL_law_215 (by decide) ?_
      refine y_callV (As := [.int (13 : Int32)]) (rest := []) C dL_law_217 (k_X6_count g x S sl A d G T t GT P p GP hst arr xs R (13 : Int32)) rfl rfl rfl rfl ⟨Nat.le_of_ble_eq_true rfl, Nat.le_of_ble_eq_true rfl⟩ gL_law_X6_count (nA := 1) (by decide +kernel) rfl (sh_9512 g x (A 0) (T 0) S (P 0) hst sl A d G T t GT P p GP hst arr xs R) (Nat.le_of_ble_eq_true rfl) ⟨by rw [lw_rc]; omega, by rw [lw_rs]; omega⟩ [0, 1, 2, 6, 7, 8, 9, 10, 11, 12, 13, 14, 15, 16, 17, 18, 19, 20, 21, 22, 23, 41, 42, 44] [3, 4, 5, 24, 25, 26, 27, 28, 29, 30, 31, 32, 33, 34, 35, 36, 37, 38, 39, 40, 43] (nB := 45) rfl (by decide +kernel) (sh_9511 g x (A 0) (T 0) S (P 0) hst sl A d G T t GT S (SA 0) (ST 0) sv SA sd SG ST st SGT P p GP sl o hst arr xs R) (fun r4 w9 hw => ?_)
      obtain ⟨er4, t1, G2, e3, rfl⟩ := hw
      have h := y_letP h er4
      have h := y_letP h e3
      refine ⟨([mnC x (A 0) (T 0) S (P 0) hst sl, dayC A d, tabC T t1, seaC S (SA 0) (ST 0) sv, dayC SA sd, tabC ST st, padC P p] ++ (dayR g A d G ++ (tabR g T t1 G2 ++ (dayR g SA sd SG ++ (tabR g ST st SGT ++ (padR g P p GP ++ ([slW g sl o.1 o.2] ++ [histW g hst arr xs R])))))) : List va_W), (sh_9513 g x (A 0) (T 0) S (P 0) hst sl A d G T t GT S (SA 0) (ST 0) sv SA sd SG ST st SGT P p GP sl o hst arr xs R t1 G2), ?_⟩
      refine y_iconst (v := 1) C dL_law_220 (by decide) ?_
      refine y_isub C dL_law_221 ?_
      refine y_istore (lv' := [(13, .int (r4 - (1 : Int32))), (0, .ref b), (1, .ref x), (2, .long x2), (4, .int x4), (5, .int x5), (6, .int x6), (7, .long x7), (10, .int x10), (11, .long x11)]) C dL_law_222 (Nat.le_of_ble_eq_true rfl) rfl ?_
      refine y_aload_n C dL_law_224 2 rfl rfl ?_
      refine y_callV (As := []) (rest := []) C dL_law_225 (k_X6_undo g x (T 0) S (P 0) sl A d G hst arr xs R) rfl rfl rfl rfl ⟨Nat.le_of_ble_eq_true rfl, Nat.le_of_ble_eq_true rfl⟩ gL_law_X6_undo (nA := 0) (by decide +kernel) rfl (sh_9501 g x (A 0) (T 0) S (P 0) hst sl A d G hst arr xs R) (Nat.le_of_ble_eq_true rfl) ⟨by rw [lw_rc]; omega, by rw [lw_rs]; omega⟩ [0, 1, 7, 8, 9, 10, 11, 12, 13, 14, 15, 16, 17, 18, 44] [2, 3, 4, 5, 6, 19, 20, 21, 22, 23, 24, 25, 26, 27, 28, 29, 30, 31, 32, 33, 34, 35, 36, 37, 38, 39, 40, 41, 42, 43] (nB := 45) rfl (by decide +kernel) (sh_9500 g x (A 0) (T 0) S (P 0) hst sl A d G T t1 G2 S (SA 0) (ST 0) sv SA sd SG ST st SGT P p GP sl o hst arr xs R) (fun r11 w9 hw => ?_)
      obtain ⟨d5, xs8, G6, G9, hq12, rfl⟩ := hw
      have h := h r11 d5 xs8 hq12
      refine ⟨([mnC x (A 0) (T 0) S (P 0) hst sl, dayC A d5, tabC T t1, seaC S (SA 0) (ST 0) sv, dayC SA sd, tabC ST st, padC P p] ++ (dayR g A d5 G6 ++ (tabR g T t1 G2 ++ (dayR g SA sd SG ++ (tabR g ST st SGT ++ (padR g P p GP ++ ([slW g sl o.1 o.2] ++ [histW g hst arr xs8 G9])))))) : List va_W), (sh_9502 g x (A 0) (T 0) S (P 0) hst sl A d G T t1 G2 S (SA 0) (ST 0) sv SA sd SG ST st SGT P p GP sl o hst arr xs R d5 G6 xs8 G9), ?_⟩
      refine y_iload C dL_law_228 0 rfl ?_
      refine y_icmp_ne (tgt := 266) C dL_law_230 rfl h (fun c230 h => ?_) (fun c230 h => ?_)
      · refine y_iconst (v := 0) C dL_law_266 (by decide) ?_
        exact h.elim
      · refine y_aload_n C dL_law_233 2 rfl rfl ?_
        obtain ⟨hp13, h⟩ := h
        refine y_callSWl (As := [.ref x]) (rest := []) C dL_law_234 (k_L_digest g x S sl A d5 G6 T t1 G2 P p GP hst arr xs8 G9 hp13) rfl rfl rfl rfl ⟨Nat.le_of_ble_eq_true rfl, Nat.le_of_ble_eq_true rfl⟩ gL_law_L_digest (nA := 1) (by decide +kernel) rfl (Nat.le_of_ble_eq_true rfl) ⟨by rw [lw_rc]; omega, by rw [lw_rs]; omega⟩ [0, 1, 2, 6, 7, 8, 9, 10, 11, 12, 13, 14, 15, 16, 17, 18, 19, 20, 21, 22, 23, 41, 42, 44] [3, 4, 5, 24, 25, 26, 27, 28, 29, 30, 31, 32, 33, 34, 35, 36, 37, 38, 39, 40, 43] (nB := 45) rfl (by decide +kernel) (sh_9509 g x (A 0) (T 0) S (P 0) hst sl A d5 G6 T t1 G2 S (SA 0) (ST 0) sv SA sd SG ST st SGT P p GP sl o hst arr xs8 G9) (fun r17 w9 hw => ?_)
        obtain ⟨t14, G15, hq18, rfl⟩ := hw
        have h := h r17 t14 hq18
        refine ⟨([mnC x (A 0) (T 0) S (P 0) hst sl, dayC A d5, tabC T t14, seaC S (SA 0) (ST 0) sv, dayC SA sd, tabC ST st, padC P p] ++ (dayR g A d5 G6 ++ (tabR g T t14 G15 ++ (dayR g SA sd SG ++ (tabR g ST st SGT ++ (padR g P p GP ++ ([slW g sl o.1 o.2] ++ [histW g hst arr xs8 G9])))))) : List va_W), (sh_9510 g x (A 0) (T 0) S (P 0) hst sl A d5 G6 T t1 G2 S (SA 0) (ST 0) sv SA sd SG ST st SGT P p GP sl o hst arr xs8 G9 t14 G15), ?_⟩
        refine y_lload C dL_law_237 7 rfl ?_
        refine y_lcmp C dL_law_239 ?_
        refine y_if_ne (tgt := 266) C dL_law_240 rfl h (fun c240 h => ?_) (fun c240 h => ?_)
        · refine y_iconst (v := 0) C dL_law_266 (by decide) ?_
          exact h.elim
        · refine y_aload_n C dL_law_243 2 rfl rfl ?_
          refine y_iload C dL_law_244 5 rfl ?_
          refine y_iload C dL_law_246 6 rfl ?_
          obtain ⟨hp19, h⟩ := h
          refine y_callSW (As := [.ref x, .int x5, .int x6]) (rest := []) C dL_law_248 (k_L_act g x A d5 G6 T t14 G15 S sv SA sd SG ST st SGT P p GP sl o hst arr xs8 G9 x5 x6 hp19) rfl rfl rfl rfl ⟨Nat.le_of_ble_eq_true rfl, Nat.le_of_ble_eq_true rfl⟩ gL_law_L_act (nA := 3) (by decide +kernel) rfl (Nat.le_of_ble_eq_true rfl) ⟨by rw [lw_rc]; omega, by rw [lw_rs]; omega⟩ [0, 1, 2, 3, 4, 5, 6, 7, 8, 9, 10, 11, 12, 13, 14, 15, 16, 17, 18, 19, 20, 21, 22, 23, 24, 25, 26, 27, 28, 29, 30, 31, 32, 33, 34, 35, 36, 37, 38, 39, 40, 41, 42, 43, 44] [] (nB := 45) rfl (by decide +kernel) (sh_9514 g x (A 0) (T 0) S (P 0) hst sl A d5 G6 T t14 G15 S (SA 0) (ST 0) sv SA sd SG ST st SGT P p GP sl o hst arr xs8 G9) (fun r37 w9 hw => ?_)
          obtain ⟨d20, t23, sv26, sd28, st31, xs34, G21, G24, G29, G32, G35, hq38, rfl⟩ := hw
          have h := h r37 d20 t23 sv26 sd28 st31 xs34 hq38
          refine ⟨([mnC x (A 0) (T 0) S (P 0) hst sl, dayC A d20, tabC T t23, seaC S (SA 0) (ST 0) sv26, dayC SA sd28, tabC ST st31, padC P p] ++ (dayR g A d20 G21 ++ (tabR g T t23 G24 ++ (dayR g SA sd28 G29 ++ (tabR g ST st31 G32 ++ (padR g P p GP ++ ([slW g sl o.1 o.2] ++ [histW g hst arr xs34 G35])))))) : List va_W), (sh_9515 g x (A 0) (T 0) S (P 0) hst sl A d5 G6 T t14 G15 S (SA 0) (ST 0) sv SA sd SG ST st SGT P p GP sl o hst arr xs8 G9 d20 G21 t23 G24 sv26 sd28 G29 st31 G32 xs34 G35), ?_⟩
          refine y_iload C dL_law_251 8 rfl ?_
          refine y_icmp_ne (tgt := 266) C dL_law_253 rfl h (fun c253 h => ?_) (fun c253 h => ?_)
          · refine y_iconst (v := 0) C dL_law_266 (by decide) ?_
            exact h.elim
          · refine y_aload_n C dL_law_256 2 rfl rfl ?_
            obtain ⟨hp39, h⟩ := h
            refine y_callSWl (As := [.ref x]) (rest := []) C dL_law_257 (k_L_digest g x S sl A d20 G21 T t23 G24 P p GP hst arr xs34 G35 hp39) rfl rfl rfl rfl ⟨Nat.le_of_ble_eq_true rfl, Nat.le_of_ble_eq_true rfl⟩ gL_law_L_digest (nA := 1) (by decide +kernel) rfl (Nat.le_of_ble_eq_true rfl) ⟨by rw [lw_rc]; omega, by rw [lw_rs]; omega⟩ [0, 1, 2, 6, 7, 8, 9, 10, 11, 12, 13, 14, 15, 16, 17, 18, 19, 20, 21, 22, 23, 41, 42, 44] [3, 4, 5, 24, 25, 26, 27, 28, 29, 30, 31, 32, 33, 34, 35, 36, 37, 38, 39, 40, 43] (nB := 45) rfl (by decide +kernel) (sh_9509 g x (A 0) (T 0) S (P 0) hst sl A d20 G21 T t23 G24 S (SA 0) (ST 0) sv26 SA sd28 G29 ST st31 G32 P p GP sl o hst arr xs34 G35) (fun r43 w9 hw => ?_)
            obtain ⟨t40, G41, hq44, rfl⟩ := hw
            have h := h r43 t40 hq44
            refine ⟨([mnC x (A 0) (T 0) S (P 0) hst sl, dayC A d20, tabC T t40, seaC S (SA 0) (ST 0) sv26, dayC SA sd28, tabC ST st31, padC P p] ++ (dayR g A d20 G21 ++ (tabR g T t40 G41 ++ (dayR g SA sd28 G29 ++ (tabR g ST st31 G32 ++ (padR g P p GP ++ ([slW g sl o.1 o.2] ++ [histW g hst arr xs34 G35])))))) : List va_W), (sh_9510 g x (A 0) (T 0) S (P 0) hst sl A d20 G21 T t23 G24 S (SA 0) (ST 0) sv26 SA sd28 G29 ST st31 G32 P p GP sl o hst arr xs34 G35 t40 G41), ?_⟩
            refine y_lload C dL_law_260 9 rfl ?_
            refine y_lcmp C dL_law_262 ?_
            refine y_if_eq (tgt := 268) C dL_law_263 rfl h (fun c263 h => ?_) (fun c263 h => ?_)
            · refine y_sub (lv' := [(0, .ref b), (1, .ref x), (2, .long x2), (4, .int x4), (5, .int x5), (11, .long x11)]) [1, 2, 3, 4, 5, 9] rfl ?_
              exact hX268 _ _ (by omega) (by omega) d20 t40 sv26 sd28 st31 p o xs34 x2 x4 x5 x11 G21 G41 G29 G32 GP G35 h
            · refine y_iconst (v := 0) C dL_law_266 (by decide) ?_
              exact h.elim
