set_option maxHeartbeats 4000000 in
set_option maxRecDepth 100000 in
theorem lw_268 {Z : yZ} {g : yG} (x S hst arr sl : Nat) (A T SA ST P : Nat → Nat) {k0 n0 b L : Nat} {sx : Nat → Int32} (hLb : L < 2147483648) (C : yC Z g cL_law 14 wsL_law RL) (HX : ySc Z b L sx) (hk : k0 + 50 ≤ 600000) (hn : n0 + 472 ≤ 7302250) (HR1 : ∀ (k n : Nat) (W0 : List va_W) (lv : List (Nat × Value)), k ≤ 600000 → n ≤ 7302250 → yJ Z room_1 k n W0 330 lv [.int 1]) {X45 : RV → RV → RV → RV → RV → RV → SL × SL → List RV → Int64 → Int32 → Prop} (hX45 : ∀ k1 n1, k1 ≤ k0 + 50 → n1 ≤ n0 + 472 → ∀ (d t sv sd st p : RV) (o : SL × SL) (xs : List RV) (x2 : Int64) (x4 : Int32) (G GT SG SGT GP : Nat → Nat → Int32) (R : List ((Nat → Nat) × RV × (Nat → Nat → Int32))), X45 d t sv sd st p o xs x2 x4 → yJ Z room_1 k1 n1 ([mnC x (A 0) (T 0) S (P 0) hst sl, dayC A d, tabC T t, seaC S (SA 0) (ST 0) sv, dayC SA sd, tabC ST st, padC P p] ++ (dayR g A d G ++ (tabR g T t GT ++ (dayR g SA sd SG ++ (tabR g ST st SGT ++ (padR g P p GP ++ ([slW g sl o.1 o.2] ++ [histW g hst arr xs R])))))) : List va_W) 45 [(0, .ref b), (1, .ref x), (2, .long x2), (4, .int x4)] []) (d t sv sd st p : RV) (o : SL × SL) (xs : List RV) (x2 : Int64) (x4 : Int32) (x5 : Int32) (x11 : Int64) (G GT SG SGT GP : Nat → Nat → Int32) (R : List ((Nat → Nat) × RV × (Nat → Nat → Int32))) (h : wl_268 L sx X45 d t sv sd st p o xs x2 x4 x5 x11) : yJ Z room_1 k0 n0 ([mnC x (A 0) (T 0) S (P 0) hst sl, dayC A d, tabC T t, seaC S (SA 0) (ST 0) sv, dayC SA sd, tabC ST st, padC P p] ++ (dayR g A d G ++ (tabR g T t GT ++ (dayR g SA sd SG ++ (tabR g ST st SGT ++ (padR g P p GP ++ ([slW g sl o.1 o.2] ++ [histW g hst arr xs R])))))) : List va_W) 268 [(0, .ref b), (1, .ref x), (2, .long x2), (4, .int x4), (5, .int x5), (11, .long x11)] [] := by
  unfold wl_268 at h
  refine y_aload_n C dL_law_268 1 rfl rfl ?_
  obtain ⟨hp1, h⟩ := h
  refine y_callSW (As := [.ref x]) (rest := []) C dL_law_269 (k_L_holds g x S sl A d G T t GT P p GP hst arr xs R hp1) rfl rfl rfl rfl ⟨Nat.le_of_ble_eq_true rfl, Nat.le_of_ble_eq_true rfl⟩ gL_law_L_holds (nA := 1) (by decide +kernel) rfl (Nat.le_of_ble_eq_true rfl) ⟨by rw [lw_rc]; omega, by rw [lw_rs]; omega⟩ [0, 1, 2, 6, 7, 8, 9, 10, 11, 12, 13, 14, 15, 16, 17, 18, 19, 20, 21, 22, 23, 41, 42, 44] [3, 4, 5, 24, 25, 26, 27, 28, 29, 30, 31, 32, 33, 34, 35, 36, 37, 38, 39, 40, 43] (nB := 45) rfl (by decide +kernel) (sh_9518 g x (A 0) (T 0) S (P 0) hst sl A d G T t GT S (SA 0) (ST 0) sv SA sd SG ST st SGT P p GP sl o hst arr xs R) (fun r5 w9 hw => ?_)
  obtain ⟨t2, G3, hq6, rfl⟩ := hw
  have h := h r5 t2 hq6
  refine ⟨([mnC x (A 0) (T 0) S (P 0) hst sl, dayC A d, tabC T t2, seaC S (SA 0) (ST 0) sv, dayC SA sd, tabC ST st, padC P p] ++ (dayR g A d G ++ (tabR g T t2 G3 ++ (dayR g SA sd SG ++ (tabR g ST st SGT ++ (padR g P p GP ++ ([slW g sl o.1 o.2] ++ [histW g hst arr xs R])))))) : List va_W), (sh_9519 g x (A 0) (T 0) S (P 0) hst sl A d G T t GT S (SA 0) (ST 0) sv SA sd SG ST st SGT P p GP sl o hst arr xs R t2 G3), ?_⟩
  refine y_if_ne (tgt := 277) C dL_law_272 rfl h (fun c272 h => ?_) (fun c272 h => ?_)
  · refine y_iload C dL_law_277 4 rfl ?_
    refine y_bipush (v := 10) C dL_law_279 (by decide) ?_
    refine y_ishr C dL_law_281 ?_
    refine y_bipush (v := 7) C dL_law_282 (by decide) ?_
    refine y_iand C dL_law_284 ?_
    refine y_if_ne (tgt := 297) C dL_law_285 rfl h (fun c285 h => ?_) (fun c285 h => ?_)
    · refine y_iinc (v := (x4 + (1 : Int32))) (lv' := [(4, .int (x4 + (1 : Int32))), (0, .ref b), (1, .ref x), (2, .long x2), (5, .int x5), (11, .long x11)]) C dL_law_297 3 rfl rfl (Nat.le_of_ble_eq_true rfl) rfl ?_
      refine y_goto (tgt := 45) C dL_law_300 rfl ?_
      refine y_sub (lv' := [(0, .ref b), (1, .ref x), (2, .long x2), (4, .int (x4 + (1 : Int32)))]) [1, 2, 3, 0] rfl ?_
      exact hX45 _ _ (by omega) (by omega) d t2 sv sd st p o xs x2 (x4 + (1 : Int32)) G G3 SG SGT GP R h
    · refine y_aload_n C dL_law_288 1 rfl rfl ?_
      refine y_iconst (v := 0) C dL_law_289 (by decide) ?_
      refine y_callV (As := [.int (0 : Int32)]) (rest := []) C dL_law_290 (k_X6_save g x (T 0) S (P 0) hst A d G sl o (0 : Int32)) rfl rfl rfl rfl ⟨Nat.le_of_ble_eq_true rfl, Nat.le_of_ble_eq_true rfl⟩ gL_law_X6_save (nA := 1) (by decide +kernel) rfl (sh_9507 g x (A 0) (T 0) S (P 0) hst sl A d G sl o) (Nat.le_of_ble_eq_true rfl) ⟨by rw [lw_rc]; omega, by rw [lw_rs]; omega⟩ [0, 1, 7, 8, 9, 10, 11, 12, 13, 14, 15, 16, 17, 18, 43] [2, 3, 4, 5, 6, 19, 20, 21, 22, 23, 24, 25, 26, 27, 28, 29, 30, 31, 32, 33, 34, 35, 36, 37, 38, 39, 40, 41, 42, 44] (nB := 45) rfl (by decide +kernel) (sh_9506 g x (A 0) (T 0) S (P 0) hst sl A d G T t2 G3 S (SA 0) (ST 0) sv SA sd SG ST st SGT P p GP sl o hst arr xs R) (fun r9 w9 hw => ?_)
      obtain ⟨o7, hq10, rfl⟩ := hw
      have h := h r9 o7 hq10
      refine ⟨([mnC x (A 0) (T 0) S (P 0) hst sl, dayC A d, tabC T t2, seaC S (SA 0) (ST 0) sv, dayC SA sd, tabC ST st, padC P p] ++ (dayR g A d G ++ (tabR g T t2 G3 ++ (dayR g SA sd SG ++ (tabR g ST st SGT ++ (padR g P p GP ++ ([slW g sl o7.1 o7.2] ++ [histW g hst arr xs R])))))) : List va_W), (sh_9508 g x (A 0) (T 0) S (P 0) hst sl A d G T t2 G3 S (SA 0) (ST 0) sv SA sd SG ST st SGT P p GP sl o hst arr xs R o7), ?_⟩
      refine y_pop C dL_law_293 rfl ?_
      refine y_lload C dL_law_294 5 rfl ?_
      refine y_lstore_n (lv' := [(2, .long x11), (0, .ref b), (1, .ref x), (4, .int x4), (5, .int x5), (11, .long x11)]) C dL_law_296 rfl (Nat.le_of_ble_eq_true rfl) rfl ?_
      refine y_iinc (v := (x4 + (1 : Int32))) (lv' := [(4, .int (x4 + (1 : Int32))), (2, .long x11), (0, .ref b), (1, .ref x), (5, .int x5), (11, .long x11)]) C dL_law_297 3 rfl rfl (Nat.le_of_ble_eq_true rfl) rfl ?_
      refine y_goto (tgt := 45) C dL_law_300 rfl ?_
      refine y_sub (lv' := [(0, .ref b), (1, .ref x), (2, .long x11), (4, .int (x4 + (1 : Int32)))]) [2, 3, 1, 0] rfl ?_
      exact hX45 _ _ (by omega) (by omega) d t2 sv sd st p o7 xs x11 (x4 + (1 : Int32)) G G3 SG SGT GP R h
  · refine y_iconst (v := 0) C dL_law_275 (by decide) ?_
    exact h.elim
