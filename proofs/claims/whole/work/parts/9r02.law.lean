set_option maxHeartbeats 4000000 in
set_option maxRecDepth 100000 in
theorem lw_333 {Z : yZ} {g : yG} (x S hst arr sl : Nat) (A T SA ST P M : Nat → Nat) {k0 n0 b L : Nat} {sx : Nat → Int32} (C : yC Z g cL_law 4 wsL_law RL) (HX : ySc Z b L sx) (hk : k0 + 25 ≤ 600000) (hn : n0 + 236 ≤ 7302249) {X745 : RV → RV → RV → RV → RV → RV → MV → SL × SL → List RV → Int32 → Prop}  (hX745 : ∀ k1 n1, k1 ≤ k0 + 25 → n1 ≤ n0 + 236 → ∀ (d t sv sd st p : RV) (m : MV) (o : SL × SL) (xs : List RV) (x3 : Int32) (G GT SG SGT GP : Nat → Nat → Int32) (R : HRt), X745 d t sv sd st p m o xs x3 → yJ Z room_1 k1 n1 ([mnC x (A 0) (T 0) S (P 0) hst sl, dayC A d, tabC T t, seaC S (SA 0) (ST 0) sv, dayC SA sd, tabC ST st, padC P p, modW g M m] ++ (dayR g A d G ++ (tabR g T t GT ++ (dayR g SA sd SG ++ (tabR g ST st SGT ++ (padR g P p GP ++ ([slW g sl o.1 o.2] ++ [histW g hst arr xs R])))))) : List va_W) 745 [(0, .ref b), (1, .ref x), (2, .ref (M 0)), (3, .int x3)] []) (d t sv sd st p : RV) (m : MV) (o : SL × SL) (xs : List RV) (x3 : Int32) (G GT SG SGT GP : Nat → Nat → Int32) (R : HRt) (h : wl_333 L sx X745 d t sv sd st p m o xs x3) : yJ Z room_1 k0 n0 ([mnC x (A 0) (T 0) S (P 0) hst sl, dayC A d, tabC T t, seaC S (SA 0) (ST 0) sv, dayC SA sd, tabC ST st, padC P p, modW g M m] ++ (dayR g A d G ++ (tabR g T t GT ++ (dayR g SA sd SG ++ (tabR g ST st SGT ++ (padR g P p GP ++ ([slW g sl o.1 o.2] ++ [histW g hst arr xs R])))))) : List va_W) 333 [(0, .ref b), (1, .ref x), (2, .ref (M 0)), (3, .int x3)] [] := by
  unfold wl_333 at h
  refine y_aload_n C dL_law_333 1 rfl rfl ?_
  refine y_aload_n C dL_law_334 0 rfl rfl ?_
  refine y_iload_n C dL_law_335 3 rfl rfl ?_
  refine y_iconst (v := 1) C dL_law_336 (by decide) ?_
  refine y_iadd C dL_law_337 ?_
  obtain ⟨hb1, h⟩ := h
  refine y_sld C HX dL_law_338 hb1 ?_
  refine y_aload_n C dL_law_339 0 rfl rfl ?_
  refine y_iload_n C dL_law_340 3 rfl rfl ?_
  refine y_iconst (v := 2) C dL_law_341 (by decide) ?_
  refine y_iadd C dL_law_342 ?_
  obtain ⟨hb2, h⟩ := h
  refine y_sld C HX dL_law_343 hb2 ?_
  refine y_callV (As := [.int (sx (x3 + (1 : Int32)).toNatClampNeg), .int (sx (x3 + (2 : Int32)).toNatClampNeg)]) (rest := []) C dL_law_344 (c_X6_ride g x S (P 0) hst sl A d G T t GT (sx (x3 + (1 : Int32)).toNatClampNeg) (sx (x3 + (2 : Int32)).toNatClampNeg)) rfl rfl rfl rfl ⟨Nat.le_of_ble_eq_true rfl, Nat.le_of_ble_eq_true rfl⟩ gL_law_X6_ride (nA := 2) (by decide +kernel) rfl (sh_8022 g x (A 0) (T 0) S (P 0) hst sl A d G T t GT) (Nat.le_of_ble_eq_true rfl) ⟨by rw [lw_rc]; omega, by rw [lw_rs]; omega⟩ [0, 1, 2, 8, 9, 10, 11, 12, 13, 14, 15, 16, 17, 18, 19, 20, 21, 22, 23, 24] [3, 4, 5, 6, 7, 25, 26, 27, 28, 29, 30, 31, 32, 33, 34, 35, 36, 37, 38, 39, 40, 41, 42, 43, 44, 45] (nB := 46) rfl (by decide +kernel) (sh_8021 g x (A 0) (T 0) S (P 0) hst sl A d G T t GT S (SA 0) (ST 0) sv SA sd SG ST st SGT P p GP M m sl o hst arr xs R) (fun r6 w9 hw => ?_)
  obtain ⟨er6, t3, G4, e5, rfl⟩ := hw
  have h := y_letP h er6
  have h := y_letP h e5
  refine ⟨([mnC x (A 0) (T 0) S (P 0) hst sl, dayC A d, tabC T t3, seaC S (SA 0) (ST 0) sv, dayC SA sd, tabC ST st, padC P p, modW g M m] ++ (dayR g A d G ++ (tabR g T t3 G4 ++ (dayR g SA sd SG ++ (tabR g ST st SGT ++ (padR g P p GP ++ ([slW g sl o.1 o.2] ++ [histW g hst arr xs R])))))) : List va_W), (sh_8023 g x (A 0) (T 0) S (P 0) hst sl A d G T t GT S (SA 0) (ST 0) sv SA sd SG ST st SGT P p GP M m sl o hst arr xs R t3 G4), ?_⟩
  refine y_aload_n C dL_law_347 2 rfl rfl ?_
  refine y_aload_n C dL_law_348 0 rfl rfl ?_
  refine y_iload_n C dL_law_349 3 rfl rfl ?_
  refine y_iconst (v := 1) C dL_law_350 (by decide) ?_
  refine y_iadd C dL_law_351 ?_
  obtain ⟨hb7, h⟩ := h
  refine y_sld C HX dL_law_352 hb7 ?_
  refine y_aload_n C dL_law_353 0 rfl rfl ?_
  refine y_iload_n C dL_law_354 3 rfl rfl ?_
  refine y_iconst (v := 2) C dL_law_355 (by decide) ?_
  refine y_iadd C dL_law_356 ?_
  obtain ⟨hb8, h⟩ := h
  refine y_sld C HX dL_law_357 hb8 ?_
  refine y_callV (As := [.int (sx (x3 + (1 : Int32)).toNatClampNeg), .int (sx (x3 + (2 : Int32)).toNatClampNeg)]) (rest := [.int r6]) C dL_law_358 (u_X7_ride g M m (sx (x3 + (1 : Int32)).toNatClampNeg) (sx (x3 + (2 : Int32)).toNatClampNeg) h) rfl rfl rfl rfl ⟨Nat.le_of_ble_eq_true rfl, Nat.le_of_ble_eq_true rfl⟩ gL_law_X7_ride (nA := 2) (by decide +kernel) rfl (sh_8004 g M m) (Nat.le_of_ble_eq_true rfl) ⟨by rw [lw_rc]; omega, by rw [lw_rs]; omega⟩ [7] [0, 1, 2, 3, 4, 5, 6, 8, 9, 10, 11, 12, 13, 14, 15, 16, 17, 18, 19, 20, 21, 22, 23, 24, 25, 26, 27, 28, 29, 30, 31, 32, 33, 34, 35, 36, 37, 38, 39, 40, 41, 42, 43, 44, 45] (nB := 46) rfl (by decide +kernel) (sh_8003 g x (A 0) (T 0) S (P 0) hst sl A d G T t3 G4 S (SA 0) (ST 0) sv SA sd SG ST st SGT P p GP M m sl o hst arr xs R) (fun r11 w9 hw => ?_)
  obtain ⟨m9, h, rfl⟩ := hw
  refine ⟨([mnC x (A 0) (T 0) S (P 0) hst sl, dayC A d, tabC T t3, seaC S (SA 0) (ST 0) sv, dayC SA sd, tabC ST st, padC P p, modW g M m9] ++ (dayR g A d G ++ (tabR g T t3 G4 ++ (dayR g SA sd SG ++ (tabR g ST st SGT ++ (padR g P p GP ++ ([slW g sl o.1 o.2] ++ [histW g hst arr xs R])))))) : List va_W), (sh_8005 g x (A 0) (T 0) S (P 0) hst sl A d G T t3 G4 S (SA 0) (ST 0) sv SA sd SG ST st SGT P p GP M m sl o hst arr xs R m9), ?_⟩
  refine y_icmp_eq (tgt := 745) C dL_law_361 rfl h (fun c361 h => ?_) (fun c361 h => ?_)
  · refine y_sub (lv' := [(0, .ref b), (1, .ref x), (2, .ref (M 0)), (3, .int x3)]) [0, 1, 2, 3] rfl ?_
    exact hX745 _ _ (by omega) (by omega) d t3 sv sd st p m9 o xs x3 G G4 SG SGT GP R h
  · refine y_iconst (v := 0) C dL_law_364 (by decide) ?_
    exact h.elim
set_option maxHeartbeats 4000000 in
set_option maxRecDepth 100000 in
theorem lw_366 {Z : yZ} {g : yG} (x S hst arr sl : Nat) (A T SA ST P M : Nat → Nat) {k0 n0 b L : Nat} {sx : Nat → Int32} (C : yC Z g cL_law 4 wsL_law RL) (HX : ySc Z b L sx) (hk : k0 + 25 ≤ 600000) (hn : n0 + 236 ≤ 7302249) {X745 : RV → RV → RV → RV → RV → RV → MV → SL × SL → List RV → Int32 → Prop}  (hX745 : ∀ k1 n1, k1 ≤ k0 + 25 → n1 ≤ n0 + 236 → ∀ (d t sv sd st p : RV) (m : MV) (o : SL × SL) (xs : List RV) (x3 : Int32) (G GT SG SGT GP : Nat → Nat → Int32) (R : HRt), X745 d t sv sd st p m o xs x3 → yJ Z room_1 k1 n1 ([mnC x (A 0) (T 0) S (P 0) hst sl, dayC A d, tabC T t, seaC S (SA 0) (ST 0) sv, dayC SA sd, tabC ST st, padC P p, modW g M m] ++ (dayR g A d G ++ (tabR g T t GT ++ (dayR g SA sd SG ++ (tabR g ST st SGT ++ (padR g P p GP ++ ([slW g sl o.1 o.2] ++ [histW g hst arr xs R])))))) : List va_W) 745 [(0, .ref b), (1, .ref x), (2, .ref (M 0)), (3, .int x3)] []) (d t sv sd st p : RV) (m : MV) (o : SL × SL) (xs : List RV) (x3 : Int32) (G GT SG SGT GP : Nat → Nat → Int32) (R : HRt) (h : wl_366 L sx X745 d t sv sd st p m o xs x3) : yJ Z room_1 k0 n0 ([mnC x (A 0) (T 0) S (P 0) hst sl, dayC A d, tabC T t, seaC S (SA 0) (ST 0) sv, dayC SA sd, tabC ST st, padC P p, modW g M m] ++ (dayR g A d G ++ (tabR g T t GT ++ (dayR g SA sd SG ++ (tabR g ST st SGT ++ (padR g P p GP ++ ([slW g sl o.1 o.2] ++ [histW g hst arr xs R])))))) : List va_W) 366 [(0, .ref b), (1, .ref x), (2, .ref (M 0)), (3, .int x3)] [] := by
  unfold wl_366 at h
  refine y_aload_n C dL_law_366 1 rfl rfl ?_
  refine y_aload_n C dL_law_367 0 rfl rfl ?_
  refine y_iload_n C dL_law_368 3 rfl rfl ?_
  refine y_iconst (v := 1) C dL_law_369 (by decide) ?_
  refine y_iadd C dL_law_370 ?_
  obtain ⟨hb1, h⟩ := h
  refine y_sld C HX dL_law_371 hb1 ?_
  refine y_aload_n C dL_law_372 0 rfl rfl ?_
  refine y_iload_n C dL_law_373 3 rfl rfl ?_
  refine y_iconst (v := 2) C dL_law_374 (by decide) ?_
  refine y_iadd C dL_law_375 ?_
  obtain ⟨hb2, h⟩ := h
  refine y_sld C HX dL_law_376 hb2 ?_
  refine y_callV (As := [.int (sx (x3 + (1 : Int32)).toNatClampNeg), .int (sx (x3 + (2 : Int32)).toNatClampNeg)]) (rest := []) C dL_law_377 (c_X6_visit g x S (P 0) hst sl A d G T t GT (sx (x3 + (1 : Int32)).toNatClampNeg) (sx (x3 + (2 : Int32)).toNatClampNeg)) rfl rfl rfl rfl ⟨Nat.le_of_ble_eq_true rfl, Nat.le_of_ble_eq_true rfl⟩ gL_law_X6_visit (nA := 2) (by decide +kernel) rfl (sh_8022 g x (A 0) (T 0) S (P 0) hst sl A d G T t GT) (Nat.le_of_ble_eq_true rfl) ⟨by rw [lw_rc]; omega, by rw [lw_rs]; omega⟩ [0, 1, 2, 8, 9, 10, 11, 12, 13, 14, 15, 16, 17, 18, 19, 20, 21, 22, 23, 24] [3, 4, 5, 6, 7, 25, 26, 27, 28, 29, 30, 31, 32, 33, 34, 35, 36, 37, 38, 39, 40, 41, 42, 43, 44, 45] (nB := 46) rfl (by decide +kernel) (sh_8021 g x (A 0) (T 0) S (P 0) hst sl A d G T t GT S (SA 0) (ST 0) sv SA sd SG ST st SGT P p GP M m sl o hst arr xs R) (fun r6 w9 hw => ?_)
  obtain ⟨er6, t3, G4, e5, rfl⟩ := hw
  have h := y_letP h er6
  have h := y_letP h e5
  refine ⟨([mnC x (A 0) (T 0) S (P 0) hst sl, dayC A d, tabC T t3, seaC S (SA 0) (ST 0) sv, dayC SA sd, tabC ST st, padC P p, modW g M m] ++ (dayR g A d G ++ (tabR g T t3 G4 ++ (dayR g SA sd SG ++ (tabR g ST st SGT ++ (padR g P p GP ++ ([slW g sl o.1 o.2] ++ [histW g hst arr xs R])))))) : List va_W), (sh_8023 g x (A 0) (T 0) S (P 0) hst sl A d G T t GT S (SA 0) (ST 0) sv SA sd SG ST st SGT P p GP M m sl o hst arr xs R t3 G4), ?_⟩
  refine y_aload_n C dL_law_380 2 rfl rfl ?_
  refine y_aload_n C dL_law_381 0 rfl rfl ?_
  refine y_iload_n C dL_law_382 3 rfl rfl ?_
  refine y_iconst (v := 1) C dL_law_383 (by decide) ?_
  refine y_iadd C dL_law_384 ?_
  obtain ⟨hb7, h⟩ := h
  refine y_sld C HX dL_law_385 hb7 ?_
  refine y_aload_n C dL_law_386 0 rfl rfl ?_
  refine y_iload_n C dL_law_387 3 rfl rfl ?_
  refine y_iconst (v := 2) C dL_law_388 (by decide) ?_
  refine y_iadd C dL_law_389 ?_
  obtain ⟨hb8, h⟩ := h
  refine y_sld C HX dL_law_390 hb8 ?_
  refine y_callV (As := [.int (sx (x3 + (1 : Int32)).toNatClampNeg), .int (sx (x3 + (2 : Int32)).toNatClampNeg)]) (rest := [.int r6]) C dL_law_391 (u_X7_visit g M m (sx (x3 + (1 : Int32)).toNatClampNeg) (sx (x3 + (2 : Int32)).toNatClampNeg) h) rfl rfl rfl rfl ⟨Nat.le_of_ble_eq_true rfl, Nat.le_of_ble_eq_true rfl⟩ gL_law_X7_visit (nA := 2) (by decide +kernel) rfl (sh_8004 g M m) (Nat.le_of_ble_eq_true rfl) ⟨by rw [lw_rc]; omega, by rw [lw_rs]; omega⟩ [7] [0, 1, 2, 3, 4, 5, 6, 8, 9, 10, 11, 12, 13, 14, 15, 16, 17, 18, 19, 20, 21, 22, 23, 24, 25, 26, 27, 28, 29, 30, 31, 32, 33, 34, 35, 36, 37, 38, 39, 40, 41, 42, 43, 44, 45] (nB := 46) rfl (by decide +kernel) (sh_8003 g x (A 0) (T 0) S (P 0) hst sl A d G T t3 G4 S (SA 0) (ST 0) sv SA sd SG ST st SGT P p GP M m sl o hst arr xs R) (fun r11 w9 hw => ?_)
  obtain ⟨m9, h, rfl⟩ := hw
  refine ⟨([mnC x (A 0) (T 0) S (P 0) hst sl, dayC A d, tabC T t3, seaC S (SA 0) (ST 0) sv, dayC SA sd, tabC ST st, padC P p, modW g M m9] ++ (dayR g A d G ++ (tabR g T t3 G4 ++ (dayR g SA sd SG ++ (tabR g ST st SGT ++ (padR g P p GP ++ ([slW g sl o.1 o.2] ++ [histW g hst arr xs R])))))) : List va_W), (sh_8005 g x (A 0) (T 0) S (P 0) hst sl A d G T t3 G4 S (SA 0) (ST 0) sv SA sd SG ST st SGT P p GP M m sl o hst arr xs R m9), ?_⟩
  refine y_icmp_eq (tgt := 745) C dL_law_394 rfl h (fun c394 h => ?_) (fun c394 h => ?_)
  · refine y_sub (lv' := [(0, .ref b), (1, .ref x), (2, .ref (M 0)), (3, .int x3)]) [0, 1, 2, 3] rfl ?_
    exact hX745 _ _ (by omega) (by omega) d t3 sv sd st p m9 o xs x3 G G4 SG SGT GP R h
  · refine y_iconst (v := 0) C dL_law_397 (by decide) ?_
    exact h.elim
set_option maxHeartbeats 4000000 in
set_option maxRecDepth 100000 in
theorem lw_399 {Z : yZ} {g : yG} (x S hst arr sl : Nat) (A T SA ST P M : Nat → Nat) {k0 n0 b L : Nat} {sx : Nat → Int32} (C : yC Z g cL_law 4 wsL_law RL) (HX : ySc Z b L sx) (hk : k0 + 25 ≤ 600000) (hn : n0 + 236 ≤ 7302249) {X745 : RV → RV → RV → RV → RV → RV → MV → SL × SL → List RV → Int32 → Prop}  (hX745 : ∀ k1 n1, k1 ≤ k0 + 25 → n1 ≤ n0 + 236 → ∀ (d t sv sd st p : RV) (m : MV) (o : SL × SL) (xs : List RV) (x3 : Int32) (G GT SG SGT GP : Nat → Nat → Int32) (R : HRt), X745 d t sv sd st p m o xs x3 → yJ Z room_1 k1 n1 ([mnC x (A 0) (T 0) S (P 0) hst sl, dayC A d, tabC T t, seaC S (SA 0) (ST 0) sv, dayC SA sd, tabC ST st, padC P p, modW g M m] ++ (dayR g A d G ++ (tabR g T t GT ++ (dayR g SA sd SG ++ (tabR g ST st SGT ++ (padR g P p GP ++ ([slW g sl o.1 o.2] ++ [histW g hst arr xs R])))))) : List va_W) 745 [(0, .ref b), (1, .ref x), (2, .ref (M 0)), (3, .int x3)] []) (d t sv sd st p : RV) (m : MV) (o : SL × SL) (xs : List RV) (x3 : Int32) (G GT SG SGT GP : Nat → Nat → Int32) (R : HRt) (h : wl_399 L sx X745 d t sv sd st p m o xs x3) : yJ Z room_1 k0 n0 ([mnC x (A 0) (T 0) S (P 0) hst sl, dayC A d, tabC T t, seaC S (SA 0) (ST 0) sv, dayC SA sd, tabC ST st, padC P p, modW g M m] ++ (dayR g A d G ++ (tabR g T t GT ++ (dayR g SA sd SG ++ (tabR g ST st SGT ++ (padR g P p GP ++ ([slW g sl o.1 o.2] ++ [histW g hst arr xs R])))))) : List va_W) 399 [(0, .ref b), (1, .ref x), (2, .ref (M 0)), (3, .int x3)] [] := by
  unfold wl_399 at h
  refine y_aload_n C dL_law_399 1 rfl rfl ?_
  refine y_aload_n C dL_law_400 0 rfl rfl ?_
  refine y_iload_n C dL_law_401 3 rfl rfl ?_
  refine y_iconst (v := 1) C dL_law_402 (by decide) ?_
  refine y_iadd C dL_law_403 ?_
  obtain ⟨hb1, h⟩ := h
  refine y_sld C HX dL_law_404 hb1 ?_
  refine y_aload_n C dL_law_405 0 rfl rfl ?_
  refine y_iload_n C dL_law_406 3 rfl rfl ?_
  refine y_iconst (v := 2) C dL_law_407 (by decide) ?_
  refine y_iadd C dL_law_408 ?_
  obtain ⟨hb2, h⟩ := h
  refine y_sld C HX dL_law_409 hb2 ?_
  refine y_callV (As := [.int (sx (x3 + (1 : Int32)).toNatClampNeg), .int (sx (x3 + (2 : Int32)).toNatClampNeg)]) (rest := []) C dL_law_410 (c_X6_coordinate g x (T 0) S (P 0) hst sl A d G (sx (x3 + (1 : Int32)).toNatClampNeg) (sx (x3 + (2 : Int32)).toNatClampNeg)) rfl rfl rfl rfl ⟨Nat.le_of_ble_eq_true rfl, Nat.le_of_ble_eq_true rfl⟩ gL_law_X6_coordinate (nA := 2) (by decide +kernel) rfl (sh_8025 g x (A 0) (T 0) S (P 0) hst sl A d G) (Nat.le_of_ble_eq_true rfl) ⟨by rw [lw_rc]; omega, by rw [lw_rs]; omega⟩ [0, 1, 8, 9, 10, 11, 12, 13, 14, 15, 16, 17, 18, 19] [2, 3, 4, 5, 6, 7, 20, 21, 22, 23, 24, 25, 26, 27, 28, 29, 30, 31, 32, 33, 34, 35, 36, 37, 38, 39, 40, 41, 42, 43, 44, 45] (nB := 46) rfl (by decide +kernel) (sh_8024 g x (A 0) (T 0) S (P 0) hst sl A d G T t GT S (SA 0) (ST 0) sv SA sd SG ST st SGT P p GP M m sl o hst arr xs R) (fun r3 w9 hw => ?_)
  obtain ⟨er3, rfl⟩ := hw
  have h := y_letP h er3
  refine ⟨([mnC x (A 0) (T 0) S (P 0) hst sl, dayC A d, tabC T t, seaC S (SA 0) (ST 0) sv, dayC SA sd, tabC ST st, padC P p, modW g M m] ++ (dayR g A d G ++ (tabR g T t GT ++ (dayR g SA sd SG ++ (tabR g ST st SGT ++ (padR g P p GP ++ ([slW g sl o.1 o.2] ++ [histW g hst arr xs R])))))) : List va_W), ⟨(sh_8024 g x (A 0) (T 0) S (P 0) hst sl A d G T t GT S (SA 0) (ST 0) sv SA sd SG ST st SGT P p GP M m sl o hst arr xs R), rfl, rfl⟩, ?_⟩
  refine y_aload_n C dL_law_413 2 rfl rfl ?_
  refine y_aload_n C dL_law_414 0 rfl rfl ?_
  refine y_iload_n C dL_law_415 3 rfl rfl ?_
  refine y_iconst (v := 1) C dL_law_416 (by decide) ?_
  refine y_iadd C dL_law_417 ?_
  obtain ⟨hb4, h⟩ := h
  refine y_sld C HX dL_law_418 hb4 ?_
  refine y_aload_n C dL_law_419 0 rfl rfl ?_
  refine y_iload_n C dL_law_420 3 rfl rfl ?_
  refine y_iconst (v := 2) C dL_law_421 (by decide) ?_
  refine y_iadd C dL_law_422 ?_
  obtain ⟨hb5, h⟩ := h
  refine y_sld C HX dL_law_423 hb5 ?_
  refine y_callV (As := [.int (sx (x3 + (1 : Int32)).toNatClampNeg), .int (sx (x3 + (2 : Int32)).toNatClampNeg)]) (rest := [.int r3]) C dL_law_424 (u_X7_coordinate g M m (sx (x3 + (1 : Int32)).toNatClampNeg) (sx (x3 + (2 : Int32)).toNatClampNeg) h) rfl rfl rfl rfl ⟨Nat.le_of_ble_eq_true rfl, Nat.le_of_ble_eq_true rfl⟩ gL_law_X7_coordinate (nA := 2) (by decide +kernel) rfl (sh_8004 g M m) (Nat.le_of_ble_eq_true rfl) ⟨by rw [lw_rc]; omega, by rw [lw_rs]; omega⟩ [7] [0, 1, 2, 3, 4, 5, 6, 8, 9, 10, 11, 12, 13, 14, 15, 16, 17, 18, 19, 20, 21, 22, 23, 24, 25, 26, 27, 28, 29, 30, 31, 32, 33, 34, 35, 36, 37, 38, 39, 40, 41, 42, 43, 44, 45] (nB := 46) rfl (by decide +kernel) (sh_8003 g x (A 0) (T 0) S (P 0) hst sl A d G T t GT S (SA 0) (ST 0) sv SA sd SG ST st SGT P p GP M m sl o hst arr xs R) (fun r8 w9 hw => ?_)
  obtain ⟨m6, h, rfl⟩ := hw
  refine ⟨([mnC x (A 0) (T 0) S (P 0) hst sl, dayC A d, tabC T t, seaC S (SA 0) (ST 0) sv, dayC SA sd, tabC ST st, padC P p, modW g M m6] ++ (dayR g A d G ++ (tabR g T t GT ++ (dayR g SA sd SG ++ (tabR g ST st SGT ++ (padR g P p GP ++ ([slW g sl o.1 o.2] ++ [histW g hst arr xs R])))))) : List va_W), (sh_8005 g x (A 0) (T 0) S (P 0) hst sl A d G T t GT S (SA 0) (ST 0) sv SA sd SG ST st SGT P p GP M m sl o hst arr xs R m6), ?_⟩
  refine y_icmp_eq (tgt := 745) C dL_law_427 rfl h (fun c427 h => ?_) (fun c427 h => ?_)
  · refine y_sub (lv' := [(0, .ref b), (1, .ref x), (2, .ref (M 0)), (3, .int x3)]) [0, 1, 2, 3] rfl ?_
    exact hX745 _ _ (by omega) (by omega) d t sv sd st p m6 o xs x3 G GT SG SGT GP R h
  · refine y_iconst (v := 0) C dL_law_430 (by decide) ?_
    exact h.elim
set_option maxHeartbeats 4000000 in
set_option maxRecDepth 100000 in
theorem lw_432 {Z : yZ} {g : yG} (x S hst arr sl : Nat) (A T SA ST P M : Nat → Nat) {k0 n0 b L : Nat} {sx : Nat → Int32} (C : yC Z g cL_law 4 wsL_law RL) (HX : ySc Z b L sx) (hk : k0 + 25 ≤ 600000) (hn : n0 + 236 ≤ 7302249) {X745 : RV → RV → RV → RV → RV → RV → MV → SL × SL → List RV → Int32 → Prop} (xs : List RV) (R : HRt) (hX745 : ∀ k1 n1, k1 ≤ k0 + 25 → n1 ≤ n0 + 236 → ∀ (d t sv sd st p : RV) (m : MV) (o : SL × SL) (x3 : Int32) (G GT SG SGT GP : Nat → Nat → Int32), X745 d t sv sd st p m o xs x3 → yJ Z room_1 k1 n1 ([mnC x (A 0) (T 0) S (P 0) hst sl, dayC A d, tabC T t, seaC S (SA 0) (ST 0) sv, dayC SA sd, tabC ST st, padC P p, modW g M m, hcC hst arr (nI xs.length)] ++ (dayR g A d G ++ (tabR g T t GT ++ (dayR g SA sd SG ++ (tabR g ST st SGT ++ (padR g P p GP ++ ([slW g sl o.1 o.2] ++ [acC g arr 6 (rmF R) ++ rmW g R])))))) : List va_W) 745 [(0, .ref b), (1, .ref x), (2, .ref (M 0)), (3, .int x3)] []) (d t sv sd st p : RV) (m : MV) (o : SL × SL) (x3 : Int32) (G GT SG SGT GP : Nat → Nat → Int32) (h : wl_432 L sx X745 d t sv sd st p m o xs x3) : yJ Z room_1 k0 n0 ([mnC x (A 0) (T 0) S (P 0) hst sl, dayC A d, tabC T t, seaC S (SA 0) (ST 0) sv, dayC SA sd, tabC ST st, padC P p, modW g M m, hcC hst arr (nI xs.length)] ++ (dayR g A d G ++ (tabR g T t GT ++ (dayR g SA sd SG ++ (tabR g ST st SGT ++ (padR g P p GP ++ ([slW g sl o.1 o.2] ++ [acC g arr 6 (rmF R) ++ rmW g R])))))) : List va_W) 432 [(0, .ref b), (1, .ref x), (2, .ref (M 0)), (3, .int x3)] [] := by
  unfold wl_432 at h
  refine y_aload_n C dL_law_432 1 rfl rfl ?_
  refine y_aload_n C dL_law_433 0 rfl rfl ?_
  refine y_iload_n C dL_law_434 3 rfl rfl ?_
  refine y_iconst (v := 1) C dL_law_435 (by decide) ?_
  refine y_iadd C dL_law_436 ?_
  obtain ⟨hb1, h⟩ := h
  refine y_sld C HX dL_law_437 hb1 ?_
  refine y_callV (As := [.int (sx (x3 + (1 : Int32)).toNatClampNeg)]) (rest := []) C dL_law_438 (c_X6_count g x S sl A d G T t GT P p GP hst arr (nI xs.length) (sx (x3 + (1 : Int32)).toNatClampNeg)) rfl rfl rfl rfl ⟨Nat.le_of_ble_eq_true rfl, Nat.le_of_ble_eq_true rfl⟩ gL_law_X6_count (nA := 1) (by decide +kernel) rfl (sh_8027 g x (A 0) (T 0) S (P 0) hst sl A d G T t GT P p GP hst arr (nI xs.length)) (Nat.le_of_ble_eq_true rfl) ⟨by rw [lw_rc]; omega, by rw [lw_rs]; omega⟩ [0, 1, 2, 6, 8, 9, 10, 11, 12, 13, 14, 15, 16, 17, 18, 19, 20, 21, 22, 23, 24, 25, 43, 44] [3, 4, 5, 7, 26, 27, 28, 29, 30, 31, 32, 33, 34, 35, 36, 37, 38, 39, 40, 41, 42, 45, 46] (nB := 47) rfl (by decide +kernel) (sh_8026 g x (A 0) (T 0) S (P 0) hst sl A d G T t GT S (SA 0) (ST 0) sv SA sd SG ST st SGT P p GP M m sl o hst arr (nI xs.length) arr R) (fun r5 w9 hw => ?_)
  obtain ⟨er5, t2, G3, e4, rfl⟩ := hw
  have h := y_letP h er5
  have h := y_letP h e4
  refine ⟨([mnC x (A 0) (T 0) S (P 0) hst sl, dayC A d, tabC T t2, seaC S (SA 0) (ST 0) sv, dayC SA sd, tabC ST st, padC P p, modW g M m, hcC hst arr (nI xs.length)] ++ (dayR g A d G ++ (tabR g T t2 G3 ++ (dayR g SA sd SG ++ (tabR g ST st SGT ++ (padR g P p GP ++ ([slW g sl o.1 o.2] ++ [acC g arr 6 (rmF R) ++ rmW g R])))))) : List va_W), (sh_8028 g x (A 0) (T 0) S (P 0) hst sl A d G T t GT S (SA 0) (ST 0) sv SA sd SG ST st SGT P p GP M m sl o hst arr (nI xs.length) arr R t2 G3), ?_⟩
  refine y_aload_n C dL_law_441 2 rfl rfl ?_
  refine y_aload_n C dL_law_442 0 rfl rfl ?_
  refine y_iload_n C dL_law_443 3 rfl rfl ?_
  refine y_iconst (v := 1) C dL_law_444 (by decide) ?_
  refine y_iadd C dL_law_445 ?_
  obtain ⟨hb6, h⟩ := h
  refine y_sld C HX dL_law_446 hb6 ?_
  refine y_callV (As := [.int (sx (x3 + (1 : Int32)).toNatClampNeg)]) (rest := [.int r5]) C dL_law_447 (u_X7_count g M m (sx (x3 + (1 : Int32)).toNatClampNeg) h) rfl rfl rfl rfl ⟨Nat.le_of_ble_eq_true rfl, Nat.le_of_ble_eq_true rfl⟩ gL_law_X7_count (nA := 1) (by decide +kernel) rfl (sh_8004 g M m) (Nat.le_of_ble_eq_true rfl) ⟨by rw [lw_rc]; omega, by rw [lw_rs]; omega⟩ [7] [0, 1, 2, 3, 4, 5, 6, 8, 9, 10, 11, 12, 13, 14, 15, 16, 17, 18, 19, 20, 21, 22, 23, 24, 25, 26, 27, 28, 29, 30, 31, 32, 33, 34, 35, 36, 37, 38, 39, 40, 41, 42, 43, 44, 45, 46] (nB := 47) rfl (by decide +kernel) (sh_8029 g x (A 0) (T 0) S (P 0) hst sl A d G T t2 G3 S (SA 0) (ST 0) sv SA sd SG ST st SGT P p GP M m sl o hst arr (nI xs.length) arr R) (fun r9 w9 hw => ?_)
  obtain ⟨m7, h, rfl⟩ := hw
  refine ⟨([mnC x (A 0) (T 0) S (P 0) hst sl, dayC A d, tabC T t2, seaC S (SA 0) (ST 0) sv, dayC SA sd, tabC ST st, padC P p, modW g M m7, hcC hst arr (nI xs.length)] ++ (dayR g A d G ++ (tabR g T t2 G3 ++ (dayR g SA sd SG ++ (tabR g ST st SGT ++ (padR g P p GP ++ ([slW g sl o.1 o.2] ++ [acC g arr 6 (rmF R) ++ rmW g R])))))) : List va_W), (sh_8030 g x (A 0) (T 0) S (P 0) hst sl A d G T t2 G3 S (SA 0) (ST 0) sv SA sd SG ST st SGT P p GP M m sl o hst arr (nI xs.length) arr R m7), ?_⟩
  refine y_icmp_eq (tgt := 745) C dL_law_450 rfl h (fun c450 h => ?_) (fun c450 h => ?_)
  · refine y_sub (lv' := [(0, .ref b), (1, .ref x), (2, .ref (M 0)), (3, .int x3)]) [0, 1, 2, 3] rfl ?_
    exact hX745 _ _ (by omega) (by omega) d t2 sv sd st p m7 o x3 G G3 SG SGT GP h
  · refine y_iconst (v := 0) C dL_law_453 (by decide) ?_
    exact h.elim
