set_option maxHeartbeats 4000000 in
set_option maxRecDepth 100000 in
theorem lw_455 {Z : yZ} {g : yG} (x S hst arr sl : Nat) (A T SA ST P M : Nat → Nat) {k0 n0 b L : Nat} {sx : Nat → Int32} (C : yC Z g cL_law 4 wsL_law RL) (HX : ySc Z b L sx) (hk : k0 + 25 ≤ 600000) (hn : n0 + 236 ≤ 7302249) {X745 : RV → RV → RV → RV → RV → RV → MV → SL × SL → List RV → Int32 → Prop}  (hX745 : ∀ k1 n1, k1 ≤ k0 + 25 → n1 ≤ n0 + 236 → ∀ (d t sv sd st p : RV) (m : MV) (o : SL × SL) (xs : List RV) (x3 : Int32) (G GT SG SGT GP : Nat → Nat → Int32) (R : HRt), X745 d t sv sd st p m o xs x3 → yJ Z room_1 k1 n1 ([mnC x (A 0) (T 0) S (P 0) hst sl, dayC A d, tabC T t, seaC S (SA 0) (ST 0) sv, dayC SA sd, tabC ST st, padC P p, modW g M m] ++ (dayR g A d G ++ (tabR g T t GT ++ (dayR g SA sd SG ++ (tabR g ST st SGT ++ (padR g P p GP ++ ([slW g sl o.1 o.2] ++ [histW g hst arr xs R])))))) : List va_W) 745 [(0, .ref b), (1, .ref x), (2, .ref (M 0)), (3, .int x3)] []) (d t sv sd st p : RV) (m : MV) (o : SL × SL) (xs : List RV) (x3 : Int32) (G GT SG SGT GP : Nat → Nat → Int32) (R : HRt) (h : wl_455 L sx X745 d t sv sd st p m o xs x3) : yJ Z room_1 k0 n0 ([mnC x (A 0) (T 0) S (P 0) hst sl, dayC A d, tabC T t, seaC S (SA 0) (ST 0) sv, dayC SA sd, tabC ST st, padC P p, modW g M m] ++ (dayR g A d G ++ (tabR g T t GT ++ (dayR g SA sd SG ++ (tabR g ST st SGT ++ (padR g P p GP ++ ([slW g sl o.1 o.2] ++ [histW g hst arr xs R])))))) : List va_W) 455 [(0, .ref b), (1, .ref x), (2, .ref (M 0)), (3, .int x3)] [] := by
  unfold wl_455 at h
  refine y_aload_n C dL_law_455 1 rfl rfl ?_
  refine y_aload_n C dL_law_456 0 rfl rfl ?_
  refine y_iload_n C dL_law_457 3 rfl rfl ?_
  refine y_iconst (v := 1) C dL_law_458 (by decide) ?_
  refine y_iadd C dL_law_459 ?_
  obtain ⟨hb1, h⟩ := h
  refine y_sld C HX dL_law_460 hb1 ?_
  refine y_aload_n C dL_law_461 0 rfl rfl ?_
  refine y_iload_n C dL_law_462 3 rfl rfl ?_
  refine y_iconst (v := 2) C dL_law_463 (by decide) ?_
  refine y_iadd C dL_law_464 ?_
  obtain ⟨hb2, h⟩ := h
  refine y_sld C HX dL_law_465 hb2 ?_
  refine y_aload_n C dL_law_466 0 rfl rfl ?_
  refine y_iload_n C dL_law_467 3 rfl rfl ?_
  refine y_iconst (v := 3) C dL_law_468 (by decide) ?_
  refine y_iadd C dL_law_469 ?_
  obtain ⟨hb3, h⟩ := h
  refine y_sld C HX dL_law_470 hb3 ?_
  refine y_aload_n C dL_law_471 0 rfl rfl ?_
  refine y_iload_n C dL_law_472 3 rfl rfl ?_
  refine y_iconst (v := 4) C dL_law_473 (by decide) ?_
  refine y_iadd C dL_law_474 ?_
  obtain ⟨hb4, h⟩ := h
  refine y_sld C HX dL_law_475 hb4 ?_
  refine y_aload_n C dL_law_476 0 rfl rfl ?_
  refine y_iload_n C dL_law_477 3 rfl rfl ?_
  refine y_iconst (v := 5) C dL_law_478 (by decide) ?_
  refine y_iadd C dL_law_479 ?_
  obtain ⟨hb5, h⟩ := h
  refine y_sld C HX dL_law_480 hb5 ?_
  refine y_callV (As := [.int (sx (x3 + (1 : Int32)).toNatClampNeg), .int (sx (x3 + (2 : Int32)).toNatClampNeg), .int (sx (x3 + (3 : Int32)).toNatClampNeg), .int (sx (x3 + (4 : Int32)).toNatClampNeg), .int (sx (x3 + (5 : Int32)).toNatClampNeg)]) (rest := []) C dL_law_481 (c_X6_ifBooked g x (P 0) hst sl A d G T t GT S sv SA sd SG ST st SGT (sx (x3 + (1 : Int32)).toNatClampNeg) (sx (x3 + (2 : Int32)).toNatClampNeg) (sx (x3 + (3 : Int32)).toNatClampNeg) (sx (x3 + (4 : Int32)).toNatClampNeg) (sx (x3 + (5 : Int32)).toNatClampNeg)) rfl rfl rfl rfl ⟨Nat.le_of_ble_eq_true rfl, Nat.le_of_ble_eq_true rfl⟩ gL_law_X6_ifBooked (nA := 5) (by decide +kernel) rfl (sh_8032 g x (A 0) (T 0) S (P 0) hst sl A d G T t GT S (SA 0) (ST 0) sv SA sd SG ST st SGT) (Nat.le_of_ble_eq_true rfl) ⟨by rw [lw_rc]; omega, by rw [lw_rs]; omega⟩ [0, 1, 2, 3, 4, 5, 8, 9, 10, 11, 12, 13, 14, 15, 16, 17, 18, 19, 20, 21, 22, 23, 24, 25, 26, 27, 28, 29, 30, 31, 32, 33, 34, 35, 36, 37, 38, 39, 40, 41] [6, 7, 42, 43, 44, 45] (nB := 46) rfl (by decide +kernel) (sh_8031 g x (A 0) (T 0) S (P 0) hst sl A d G T t GT S (SA 0) (ST 0) sv SA sd SG ST st SGT P p GP M m sl o hst arr xs R) (fun r17 w9 hw => ?_)
  obtain ⟨er17, t6, sv9, sd11, st14, G7, G12, G15, e8, e10, e13, e16, rfl⟩ := hw
  have h := y_letP h er17
  have h := y_letP h e8
  have h := y_letP h e10
  have h := y_letP h e13
  have h := y_letP h e16
  refine ⟨([mnC x (A 0) (T 0) S (P 0) hst sl, dayC A d, tabC T t6, seaC S (SA 0) (ST 0) sv9, dayC SA sd11, tabC ST st14, padC P p, modW g M m] ++ (dayR g A d G ++ (tabR g T t6 G7 ++ (dayR g SA sd11 G12 ++ (tabR g ST st14 G15 ++ (padR g P p GP ++ ([slW g sl o.1 o.2] ++ [histW g hst arr xs R])))))) : List va_W), (sh_8033 g x (A 0) (T 0) S (P 0) hst sl A d G T t GT S (SA 0) (ST 0) sv SA sd SG ST st SGT P p GP M m sl o hst arr xs R t6 G7 sv9 sd11 G12 st14 G15), ?_⟩
  refine y_aload_n C dL_law_484 2 rfl rfl ?_
  refine y_aload_n C dL_law_485 0 rfl rfl ?_
  refine y_iload_n C dL_law_486 3 rfl rfl ?_
  refine y_iconst (v := 1) C dL_law_487 (by decide) ?_
  refine y_iadd C dL_law_488 ?_
  obtain ⟨hb18, h⟩ := h
  refine y_sld C HX dL_law_489 hb18 ?_
  refine y_aload_n C dL_law_490 0 rfl rfl ?_
  refine y_iload_n C dL_law_491 3 rfl rfl ?_
  refine y_iconst (v := 2) C dL_law_492 (by decide) ?_
  refine y_iadd C dL_law_493 ?_
  obtain ⟨hb19, h⟩ := h
  refine y_sld C HX dL_law_494 hb19 ?_
  refine y_aload_n C dL_law_495 0 rfl rfl ?_
  refine y_iload_n C dL_law_496 3 rfl rfl ?_
  refine y_iconst (v := 3) C dL_law_497 (by decide) ?_
  refine y_iadd C dL_law_498 ?_
  obtain ⟨hb20, h⟩ := h
  refine y_sld C HX dL_law_499 hb20 ?_
  refine y_aload_n C dL_law_500 0 rfl rfl ?_
  refine y_iload_n C dL_law_501 3 rfl rfl ?_
  refine y_iconst (v := 4) C dL_law_502 (by decide) ?_
  refine y_iadd C dL_law_503 ?_
  obtain ⟨hb21, h⟩ := h
  refine y_sld C HX dL_law_504 hb21 ?_
  refine y_aload_n C dL_law_505 0 rfl rfl ?_
  refine y_iload_n C dL_law_506 3 rfl rfl ?_
  refine y_iconst (v := 5) C dL_law_507 (by decide) ?_
  refine y_iadd C dL_law_508 ?_
  obtain ⟨hb22, h⟩ := h
  refine y_sld C HX dL_law_509 hb22 ?_
  refine y_callV (As := [.int (sx (x3 + (1 : Int32)).toNatClampNeg), .int (sx (x3 + (2 : Int32)).toNatClampNeg), .int (sx (x3 + (3 : Int32)).toNatClampNeg), .int (sx (x3 + (4 : Int32)).toNatClampNeg), .int (sx (x3 + (5 : Int32)).toNatClampNeg)]) (rest := [.int r17]) C dL_law_510 (u_X7_ifBooked g M m (sx (x3 + (1 : Int32)).toNatClampNeg) (sx (x3 + (2 : Int32)).toNatClampNeg) (sx (x3 + (3 : Int32)).toNatClampNeg) (sx (x3 + (4 : Int32)).toNatClampNeg) (sx (x3 + (5 : Int32)).toNatClampNeg) h) rfl rfl rfl rfl ⟨Nat.le_of_ble_eq_true rfl, Nat.le_of_ble_eq_true rfl⟩ gL_law_X7_ifBooked (nA := 5) (by decide +kernel) rfl (sh_8004 g M m) (Nat.le_of_ble_eq_true rfl) ⟨by rw [lw_rc]; omega, by rw [lw_rs]; omega⟩ [7] [0, 1, 2, 3, 4, 5, 6, 8, 9, 10, 11, 12, 13, 14, 15, 16, 17, 18, 19, 20, 21, 22, 23, 24, 25, 26, 27, 28, 29, 30, 31, 32, 33, 34, 35, 36, 37, 38, 39, 40, 41, 42, 43, 44, 45] (nB := 46) rfl (by decide +kernel) (sh_8003 g x (A 0) (T 0) S (P 0) hst sl A d G T t6 G7 S (SA 0) (ST 0) sv9 SA sd11 G12 ST st14 G15 P p GP M m sl o hst arr xs R) (fun r25 w9 hw => ?_)
  obtain ⟨m23, h, rfl⟩ := hw
  refine ⟨([mnC x (A 0) (T 0) S (P 0) hst sl, dayC A d, tabC T t6, seaC S (SA 0) (ST 0) sv9, dayC SA sd11, tabC ST st14, padC P p, modW g M m23] ++ (dayR g A d G ++ (tabR g T t6 G7 ++ (dayR g SA sd11 G12 ++ (tabR g ST st14 G15 ++ (padR g P p GP ++ ([slW g sl o.1 o.2] ++ [histW g hst arr xs R])))))) : List va_W), (sh_8005 g x (A 0) (T 0) S (P 0) hst sl A d G T t6 G7 S (SA 0) (ST 0) sv9 SA sd11 G12 ST st14 G15 P p GP M m sl o hst arr xs R m23), ?_⟩
  refine y_icmp_eq (tgt := 745) C dL_law_513 rfl h (fun c513 h => ?_) (fun c513 h => ?_)
  · refine y_sub (lv' := [(0, .ref b), (1, .ref x), (2, .ref (M 0)), (3, .int x3)]) [0, 1, 2, 3] rfl ?_
    exact hX745 _ _ (by omega) (by omega) d t6 sv9 sd11 st14 p m23 o xs x3 G G7 G12 G15 GP R h
  · refine y_iconst (v := 0) C dL_law_516 (by decide) ?_
    exact h.elim
set_option maxHeartbeats 4000000 in
set_option maxRecDepth 100000 in
theorem lw_518 {Z : yZ} {g : yG} (x S hst arr sl : Nat) (A T SA ST P M : Nat → Nat) {k0 n0 b L : Nat} {sx : Nat → Int32} (C : yC Z g cL_law 4 wsL_law RL) (HX : ySc Z b L sx) (hk : k0 + 25 ≤ 600000) (hn : n0 + 236 ≤ 7302249) {X745 : RV → RV → RV → RV → RV → RV → MV → SL × SL → List RV → Int32 → Prop}  (hX745 : ∀ k1 n1, k1 ≤ k0 + 25 → n1 ≤ n0 + 236 → ∀ (d t sv sd st p : RV) (m : MV) (o : SL × SL) (xs : List RV) (x3 : Int32) (G GT SG SGT GP : Nat → Nat → Int32) (R : HRt), X745 d t sv sd st p m o xs x3 → yJ Z room_1 k1 n1 ([mnC x (A 0) (T 0) S (P 0) hst sl, dayC A d, tabC T t, seaC S (SA 0) (ST 0) sv, dayC SA sd, tabC ST st, padC P p, modW g M m] ++ (dayR g A d G ++ (tabR g T t GT ++ (dayR g SA sd SG ++ (tabR g ST st SGT ++ (padR g P p GP ++ ([slW g sl o.1 o.2] ++ [histW g hst arr xs R])))))) : List va_W) 745 [(0, .ref b), (1, .ref x), (2, .ref (M 0)), (3, .int x3)] []) (d t sv sd st p : RV) (m : MV) (o : SL × SL) (xs : List RV) (x3 : Int32) (G GT SG SGT GP : Nat → Nat → Int32) (R : HRt) (h : wl_518 L sx X745 d t sv sd st p m o xs x3) : yJ Z room_1 k0 n0 ([mnC x (A 0) (T 0) S (P 0) hst sl, dayC A d, tabC T t, seaC S (SA 0) (ST 0) sv, dayC SA sd, tabC ST st, padC P p, modW g M m] ++ (dayR g A d G ++ (tabR g T t GT ++ (dayR g SA sd SG ++ (tabR g ST st SGT ++ (padR g P p GP ++ ([slW g sl o.1 o.2] ++ [histW g hst arr xs R])))))) : List va_W) 518 [(0, .ref b), (1, .ref x), (2, .ref (M 0)), (3, .int x3)] [] := by
  unfold wl_518 at h
  refine y_aload_n C dL_law_518 1 rfl rfl ?_
  refine y_aload_n C dL_law_519 0 rfl rfl ?_
  refine y_iload_n C dL_law_520 3 rfl rfl ?_
  refine y_iconst (v := 1) C dL_law_521 (by decide) ?_
  refine y_iadd C dL_law_522 ?_
  obtain ⟨hb1, h⟩ := h
  refine y_sld C HX dL_law_523 hb1 ?_
  refine y_aload_n C dL_law_524 0 rfl rfl ?_
  refine y_iload_n C dL_law_525 3 rfl rfl ?_
  refine y_iconst (v := 2) C dL_law_526 (by decide) ?_
  refine y_iadd C dL_law_527 ?_
  obtain ⟨hb2, h⟩ := h
  refine y_sld C HX dL_law_528 hb2 ?_
  refine y_aload_n C dL_law_529 0 rfl rfl ?_
  refine y_iload_n C dL_law_530 3 rfl rfl ?_
  refine y_iconst (v := 3) C dL_law_531 (by decide) ?_
  refine y_iadd C dL_law_532 ?_
  obtain ⟨hb3, h⟩ := h
  refine y_sld C HX dL_law_533 hb3 ?_
  refine y_callV (As := [.int (sx (x3 + (1 : Int32)).toNatClampNeg), .int (sx (x3 + (2 : Int32)).toNatClampNeg), .int (sx (x3 + (3 : Int32)).toNatClampNeg)]) (rest := []) C dL_law_534 (c_X6_earliestBy g x (T 0) (P 0) hst sl A d G S sv SA sd SG ST st SGT (sx (x3 + (1 : Int32)).toNatClampNeg) (sx (x3 + (2 : Int32)).toNatClampNeg) (sx (x3 + (3 : Int32)).toNatClampNeg)) rfl rfl rfl rfl ⟨Nat.le_of_ble_eq_true rfl, Nat.le_of_ble_eq_true rfl⟩ gL_law_X6_earliestBy (nA := 3) (by decide +kernel) rfl (sh_8035 g x (A 0) (T 0) S (P 0) hst sl A d G S (SA 0) (ST 0) sv SA sd SG ST st SGT) (Nat.le_of_ble_eq_true rfl) ⟨by rw [lw_rc]; omega, by rw [lw_rs]; omega⟩ [0, 1, 3, 4, 5, 8, 9, 10, 11, 12, 13, 14, 15, 16, 17, 18, 19, 25, 26, 27, 28, 29, 30, 31, 32, 33, 34, 35, 36, 37, 38, 39, 40, 41] [2, 6, 7, 20, 21, 22, 23, 24, 42, 43, 44, 45] (nB := 46) rfl (by decide +kernel) (sh_8034 g x (A 0) (T 0) S (P 0) hst sl A d G T t GT S (SA 0) (ST 0) sv SA sd SG ST st SGT P p GP M m sl o hst arr xs R) (fun r12 w9 hw => ?_)
  obtain ⟨er12, sv4, sd6, st9, G7, G10, e5, e8, e11, rfl⟩ := hw
  have h := y_letP h er12
  have h := y_letP h e5
  have h := y_letP h e8
  have h := y_letP h e11
  refine ⟨([mnC x (A 0) (T 0) S (P 0) hst sl, dayC A d, tabC T t, seaC S (SA 0) (ST 0) sv4, dayC SA sd6, tabC ST st9, padC P p, modW g M m] ++ (dayR g A d G ++ (tabR g T t GT ++ (dayR g SA sd6 G7 ++ (tabR g ST st9 G10 ++ (padR g P p GP ++ ([slW g sl o.1 o.2] ++ [histW g hst arr xs R])))))) : List va_W), (sh_8036 g x (A 0) (T 0) S (P 0) hst sl A d G T t GT S (SA 0) (ST 0) sv SA sd SG ST st SGT P p GP M m sl o hst arr xs R sv4 sd6 G7 st9 G10), ?_⟩
  refine y_aload_n C dL_law_537 2 rfl rfl ?_
  refine y_aload_n C dL_law_538 0 rfl rfl ?_
  refine y_iload_n C dL_law_539 3 rfl rfl ?_
  refine y_iconst (v := 1) C dL_law_540 (by decide) ?_
  refine y_iadd C dL_law_541 ?_
  obtain ⟨hb13, h⟩ := h
  refine y_sld C HX dL_law_542 hb13 ?_
  refine y_aload_n C dL_law_543 0 rfl rfl ?_
  refine y_iload_n C dL_law_544 3 rfl rfl ?_
  refine y_iconst (v := 2) C dL_law_545 (by decide) ?_
  refine y_iadd C dL_law_546 ?_
  obtain ⟨hb14, h⟩ := h
  refine y_sld C HX dL_law_547 hb14 ?_
  refine y_aload_n C dL_law_548 0 rfl rfl ?_
  refine y_iload_n C dL_law_549 3 rfl rfl ?_
  refine y_iconst (v := 3) C dL_law_550 (by decide) ?_
  refine y_iadd C dL_law_551 ?_
  obtain ⟨hb15, h⟩ := h
  refine y_sld C HX dL_law_552 hb15 ?_
  refine y_callV (As := [.int (sx (x3 + (1 : Int32)).toNatClampNeg), .int (sx (x3 + (2 : Int32)).toNatClampNeg), .int (sx (x3 + (3 : Int32)).toNatClampNeg)]) (rest := [.int r12]) C dL_law_553 (u_X7_earliestBy g M m (sx (x3 + (1 : Int32)).toNatClampNeg) (sx (x3 + (2 : Int32)).toNatClampNeg) (sx (x3 + (3 : Int32)).toNatClampNeg) h) rfl rfl rfl rfl ⟨Nat.le_of_ble_eq_true rfl, Nat.le_of_ble_eq_true rfl⟩ gL_law_X7_earliestBy (nA := 3) (by decide +kernel) rfl (sh_8004 g M m) (Nat.le_of_ble_eq_true rfl) ⟨by rw [lw_rc]; omega, by rw [lw_rs]; omega⟩ [7] [0, 1, 2, 3, 4, 5, 6, 8, 9, 10, 11, 12, 13, 14, 15, 16, 17, 18, 19, 20, 21, 22, 23, 24, 25, 26, 27, 28, 29, 30, 31, 32, 33, 34, 35, 36, 37, 38, 39, 40, 41, 42, 43, 44, 45] (nB := 46) rfl (by decide +kernel) (sh_8003 g x (A 0) (T 0) S (P 0) hst sl A d G T t GT S (SA 0) (ST 0) sv4 SA sd6 G7 ST st9 G10 P p GP M m sl o hst arr xs R) (fun r18 w9 hw => ?_)
  obtain ⟨m16, h, rfl⟩ := hw
  refine ⟨([mnC x (A 0) (T 0) S (P 0) hst sl, dayC A d, tabC T t, seaC S (SA 0) (ST 0) sv4, dayC SA sd6, tabC ST st9, padC P p, modW g M m16] ++ (dayR g A d G ++ (tabR g T t GT ++ (dayR g SA sd6 G7 ++ (tabR g ST st9 G10 ++ (padR g P p GP ++ ([slW g sl o.1 o.2] ++ [histW g hst arr xs R])))))) : List va_W), (sh_8005 g x (A 0) (T 0) S (P 0) hst sl A d G T t GT S (SA 0) (ST 0) sv4 SA sd6 G7 ST st9 G10 P p GP M m sl o hst arr xs R m16), ?_⟩
  refine y_icmp_eq (tgt := 745) C dL_law_556 rfl h (fun c556 h => ?_) (fun c556 h => ?_)
  · refine y_sub (lv' := [(0, .ref b), (1, .ref x), (2, .ref (M 0)), (3, .int x3)]) [0, 1, 2, 3] rfl ?_
    exact hX745 _ _ (by omega) (by omega) d t sv4 sd6 st9 p m16 o xs x3 G GT G7 G10 GP R h
  · refine y_iconst (v := 0) C dL_law_559 (by decide) ?_
    exact h.elim
set_option maxHeartbeats 4000000 in
set_option maxRecDepth 100000 in
theorem lw_561 {Z : yZ} {g : yG} (x S hst arr sl : Nat) (A T SA ST P M : Nat → Nat) {k0 n0 b L : Nat} {sx : Nat → Int32} (C : yC Z g cL_law 4 wsL_law RL) (HX : ySc Z b L sx) (hk : k0 + 25 ≤ 600000) (hn : n0 + 236 ≤ 7302249) {X745 : RV → RV → RV → RV → RV → RV → MV → SL × SL → List RV → Int32 → Prop}  (hX745 : ∀ k1 n1, k1 ≤ k0 + 25 → n1 ≤ n0 + 236 → ∀ (d t sv sd st p : RV) (m : MV) (o : SL × SL) (xs : List RV) (x3 : Int32) (G GT SG SGT GP : Nat → Nat → Int32) (R : HRt), X745 d t sv sd st p m o xs x3 → yJ Z room_1 k1 n1 ([mnC x (A 0) (T 0) S (P 0) hst sl, dayC A d, tabC T t, seaC S (SA 0) (ST 0) sv, dayC SA sd, tabC ST st, padC P p, modW g M m] ++ (dayR g A d G ++ (tabR g T t GT ++ (dayR g SA sd SG ++ (tabR g ST st SGT ++ (padR g P p GP ++ ([slW g sl o.1 o.2] ++ [histW g hst arr xs R])))))) : List va_W) 745 [(0, .ref b), (1, .ref x), (2, .ref (M 0)), (3, .int x3)] []) (d t sv sd st p : RV) (m : MV) (o : SL × SL) (xs : List RV) (x3 : Int32) (G GT SG SGT GP : Nat → Nat → Int32) (R : HRt) (h : wl_561 L sx X745 d t sv sd st p m o xs x3) : yJ Z room_1 k0 n0 ([mnC x (A 0) (T 0) S (P 0) hst sl, dayC A d, tabC T t, seaC S (SA 0) (ST 0) sv, dayC SA sd, tabC ST st, padC P p, modW g M m] ++ (dayR g A d G ++ (tabR g T t GT ++ (dayR g SA sd SG ++ (tabR g ST st SGT ++ (padR g P p GP ++ ([slW g sl o.1 o.2] ++ [histW g hst arr xs R])))))) : List va_W) 561 [(0, .ref b), (1, .ref x), (2, .ref (M 0)), (3, .int x3)] [] := by
  unfold wl_561 at h
  refine y_aload_n C dL_law_561 1 rfl rfl ?_
  refine y_aload_n C dL_law_562 0 rfl rfl ?_
  refine y_iload_n C dL_law_563 3 rfl rfl ?_
  refine y_iconst (v := 1) C dL_law_564 (by decide) ?_
  refine y_iadd C dL_law_565 ?_
  obtain ⟨hb1, h⟩ := h
  refine y_sld C HX dL_law_566 hb1 ?_
  refine y_callV (As := [.int (sx (x3 + (1 : Int32)).toNatClampNeg)]) (rest := []) C dL_law_567 (c_X6_spare g x S (P 0) hst sl A d G T t GT (sx (x3 + (1 : Int32)).toNatClampNeg)) rfl rfl rfl rfl ⟨Nat.le_of_ble_eq_true rfl, Nat.le_of_ble_eq_true rfl⟩ gL_law_X6_spare (nA := 1) (by decide +kernel) rfl (sh_8022 g x (A 0) (T 0) S (P 0) hst sl A d G T t GT) (Nat.le_of_ble_eq_true rfl) ⟨by rw [lw_rc]; omega, by rw [lw_rs]; omega⟩ [0, 1, 2, 8, 9, 10, 11, 12, 13, 14, 15, 16, 17, 18, 19, 20, 21, 22, 23, 24] [3, 4, 5, 6, 7, 25, 26, 27, 28, 29, 30, 31, 32, 33, 34, 35, 36, 37, 38, 39, 40, 41, 42, 43, 44, 45] (nB := 46) rfl (by decide +kernel) (sh_8021 g x (A 0) (T 0) S (P 0) hst sl A d G T t GT S (SA 0) (ST 0) sv SA sd SG ST st SGT P p GP M m sl o hst arr xs R) (fun r5 w9 hw => ?_)
  obtain ⟨er5, t2, G3, e4, rfl⟩ := hw
  have h := y_letP h er5
  have h := y_letP h e4
  refine ⟨([mnC x (A 0) (T 0) S (P 0) hst sl, dayC A d, tabC T t2, seaC S (SA 0) (ST 0) sv, dayC SA sd, tabC ST st, padC P p, modW g M m] ++ (dayR g A d G ++ (tabR g T t2 G3 ++ (dayR g SA sd SG ++ (tabR g ST st SGT ++ (padR g P p GP ++ ([slW g sl o.1 o.2] ++ [histW g hst arr xs R])))))) : List va_W), (sh_8023 g x (A 0) (T 0) S (P 0) hst sl A d G T t GT S (SA 0) (ST 0) sv SA sd SG ST st SGT P p GP M m sl o hst arr xs R t2 G3), ?_⟩
  refine y_aload_n C dL_law_570 2 rfl rfl ?_
  refine y_aload_n C dL_law_571 0 rfl rfl ?_
  refine y_iload_n C dL_law_572 3 rfl rfl ?_
  refine y_iconst (v := 1) C dL_law_573 (by decide) ?_
  refine y_iadd C dL_law_574 ?_
  obtain ⟨hb6, h⟩ := h
  refine y_sld C HX dL_law_575 hb6 ?_
  refine y_callV (As := [.int (sx (x3 + (1 : Int32)).toNatClampNeg)]) (rest := [.int r5]) C dL_law_576 (u_X7_spare g M m (sx (x3 + (1 : Int32)).toNatClampNeg) h) rfl rfl rfl rfl ⟨Nat.le_of_ble_eq_true rfl, Nat.le_of_ble_eq_true rfl⟩ gL_law_X7_spare (nA := 1) (by decide +kernel) rfl (sh_8004 g M m) (Nat.le_of_ble_eq_true rfl) ⟨by rw [lw_rc]; omega, by rw [lw_rs]; omega⟩ [7] [0, 1, 2, 3, 4, 5, 6, 8, 9, 10, 11, 12, 13, 14, 15, 16, 17, 18, 19, 20, 21, 22, 23, 24, 25, 26, 27, 28, 29, 30, 31, 32, 33, 34, 35, 36, 37, 38, 39, 40, 41, 42, 43, 44, 45] (nB := 46) rfl (by decide +kernel) (sh_8003 g x (A 0) (T 0) S (P 0) hst sl A d G T t2 G3 S (SA 0) (ST 0) sv SA sd SG ST st SGT P p GP M m sl o hst arr xs R) (fun r9 w9 hw => ?_)
  obtain ⟨m7, h, rfl⟩ := hw
  refine ⟨([mnC x (A 0) (T 0) S (P 0) hst sl, dayC A d, tabC T t2, seaC S (SA 0) (ST 0) sv, dayC SA sd, tabC ST st, padC P p, modW g M m7] ++ (dayR g A d G ++ (tabR g T t2 G3 ++ (dayR g SA sd SG ++ (tabR g ST st SGT ++ (padR g P p GP ++ ([slW g sl o.1 o.2] ++ [histW g hst arr xs R])))))) : List va_W), (sh_8005 g x (A 0) (T 0) S (P 0) hst sl A d G T t2 G3 S (SA 0) (ST 0) sv SA sd SG ST st SGT P p GP M m sl o hst arr xs R m7), ?_⟩
  refine y_icmp_eq (tgt := 745) C dL_law_579 rfl h (fun c579 h => ?_) (fun c579 h => ?_)
  · refine y_sub (lv' := [(0, .ref b), (1, .ref x), (2, .ref (M 0)), (3, .int x3)]) [0, 1, 2, 3] rfl ?_
    exact hX745 _ _ (by omega) (by omega) d t2 sv sd st p m7 o xs x3 G G3 SG SGT GP R h
  · refine y_iconst (v := 0) C dL_law_582 (by decide) ?_
    exact h.elim
set_option maxHeartbeats 4000000 in
set_option maxRecDepth 100000 in
theorem lw_584 {Z : yZ} {g : yG} (x S hst arr sl : Nat) (A T SA ST P M : Nat → Nat) {k0 n0 b L : Nat} {sx : Nat → Int32} (C : yC Z g cL_law 4 wsL_law RL) (HX : ySc Z b L sx) (hk : k0 + 25 ≤ 600000) (hn : n0 + 236 ≤ 7302249) {X745 : RV → RV → RV → RV → RV → RV → MV → SL × SL → List RV → Int32 → Prop}  (hX745 : ∀ k1 n1, k1 ≤ k0 + 25 → n1 ≤ n0 + 236 → ∀ (d t sv sd st p : RV) (m : MV) (o : SL × SL) (xs : List RV) (x3 : Int32) (G GT SG SGT GP : Nat → Nat → Int32) (R : HRt), X745 d t sv sd st p m o xs x3 → yJ Z room_1 k1 n1 ([mnC x (A 0) (T 0) S (P 0) hst sl, dayC A d, tabC T t, seaC S (SA 0) (ST 0) sv, dayC SA sd, tabC ST st, padC P p, modW g M m] ++ (dayR g A d G ++ (tabR g T t GT ++ (dayR g SA sd SG ++ (tabR g ST st SGT ++ (padR g P p GP ++ ([slW g sl o.1 o.2] ++ [histW g hst arr xs R])))))) : List va_W) 745 [(0, .ref b), (1, .ref x), (2, .ref (M 0)), (3, .int x3)] []) (d t sv sd st p : RV) (m : MV) (o : SL × SL) (xs : List RV) (x3 : Int32) (G GT SG SGT GP : Nat → Nat → Int32) (R : HRt) (h : wl_584 L sx X745 d t sv sd st p m o xs x3) : yJ Z room_1 k0 n0 ([mnC x (A 0) (T 0) S (P 0) hst sl, dayC A d, tabC T t, seaC S (SA 0) (ST 0) sv, dayC SA sd, tabC ST st, padC P p, modW g M m] ++ (dayR g A d G ++ (tabR g T t GT ++ (dayR g SA sd SG ++ (tabR g ST st SGT ++ (padR g P p GP ++ ([slW g sl o.1 o.2] ++ [histW g hst arr xs R])))))) : List va_W) 584 [(0, .ref b), (1, .ref x), (2, .ref (M 0)), (3, .int x3)] [] := by
  unfold wl_584 at h
  refine y_aload_n C dL_law_584 1 rfl rfl ?_
  refine y_aload_n C dL_law_585 0 rfl rfl ?_
  refine y_iload_n C dL_law_586 3 rfl rfl ?_
  refine y_iconst (v := 1) C dL_law_587 (by decide) ?_
  refine y_iadd C dL_law_588 ?_
  obtain ⟨hb1, h⟩ := h
  refine y_sld C HX dL_law_589 hb1 ?_
  refine y_callV (As := [.int (sx (x3 + (1 : Int32)).toNatClampNeg)]) (rest := []) C dL_law_590 (c_X6_dearest g x (P 0) hst sl A d G T t GT S (ST 0) sv SA sd SG (sx (x3 + (1 : Int32)).toNatClampNeg)) rfl rfl rfl rfl ⟨Nat.le_of_ble_eq_true rfl, Nat.le_of_ble_eq_true rfl⟩ gL_law_X6_dearest (nA := 1) (by decide +kernel) rfl (sh_8038 g x (A 0) (T 0) S (P 0) hst sl A d G T t GT S (SA 0) (ST 0) sv SA sd SG) (Nat.le_of_ble_eq_true rfl) ⟨by rw [lw_rc]; omega, by rw [lw_rs]; omega⟩ [0, 1, 2, 3, 4, 8, 9, 10, 11, 12, 13, 14, 15, 16, 17, 18, 19, 20, 21, 22, 23, 24, 25, 26, 27, 28, 29, 30, 31, 32, 33, 34, 35, 36] [5, 6, 7, 37, 38, 39, 40, 41, 42, 43, 44, 45] (nB := 46) rfl (by decide +kernel) (sh_8037 g x (A 0) (T 0) S (P 0) hst sl A d G T t GT S (SA 0) (ST 0) sv SA sd SG ST st SGT P p GP M m sl o hst arr xs R) (fun r8 w9 hw => ?_)
  obtain ⟨er8, t2, sd5, G3, G6, e4, e7, rfl⟩ := hw
  have h := y_letP h er8
  have h := y_letP h e4
  have h := y_letP h e7
  refine ⟨([mnC x (A 0) (T 0) S (P 0) hst sl, dayC A d, tabC T t2, seaC S (SA 0) (ST 0) sv, dayC SA sd5, tabC ST st, padC P p, modW g M m] ++ (dayR g A d G ++ (tabR g T t2 G3 ++ (dayR g SA sd5 G6 ++ (tabR g ST st SGT ++ (padR g P p GP ++ ([slW g sl o.1 o.2] ++ [histW g hst arr xs R])))))) : List va_W), (sh_8039 g x (A 0) (T 0) S (P 0) hst sl A d G T t GT S (SA 0) (ST 0) sv SA sd SG ST st SGT P p GP M m sl o hst arr xs R t2 G3 sd5 G6), ?_⟩
  refine y_aload_n C dL_law_593 2 rfl rfl ?_
  refine y_aload_n C dL_law_594 0 rfl rfl ?_
  refine y_iload_n C dL_law_595 3 rfl rfl ?_
  refine y_iconst (v := 1) C dL_law_596 (by decide) ?_
  refine y_iadd C dL_law_597 ?_
  obtain ⟨hb9, h⟩ := h
  refine y_sld C HX dL_law_598 hb9 ?_
  refine y_callV (As := [.int (sx (x3 + (1 : Int32)).toNatClampNeg)]) (rest := [.int r8]) C dL_law_599 (u_X7_dearest g M m (sx (x3 + (1 : Int32)).toNatClampNeg) h) rfl rfl rfl rfl ⟨Nat.le_of_ble_eq_true rfl, Nat.le_of_ble_eq_true rfl⟩ gL_law_X7_dearest (nA := 1) (by decide +kernel) rfl (sh_8004 g M m) (Nat.le_of_ble_eq_true rfl) ⟨by rw [lw_rc]; omega, by rw [lw_rs]; omega⟩ [7] [0, 1, 2, 3, 4, 5, 6, 8, 9, 10, 11, 12, 13, 14, 15, 16, 17, 18, 19, 20, 21, 22, 23, 24, 25, 26, 27, 28, 29, 30, 31, 32, 33, 34, 35, 36, 37, 38, 39, 40, 41, 42, 43, 44, 45] (nB := 46) rfl (by decide +kernel) (sh_8003 g x (A 0) (T 0) S (P 0) hst sl A d G T t2 G3 S (SA 0) (ST 0) sv SA sd5 G6 ST st SGT P p GP M m sl o hst arr xs R) (fun r12 w9 hw => ?_)
  obtain ⟨m10, h, rfl⟩ := hw
  refine ⟨([mnC x (A 0) (T 0) S (P 0) hst sl, dayC A d, tabC T t2, seaC S (SA 0) (ST 0) sv, dayC SA sd5, tabC ST st, padC P p, modW g M m10] ++ (dayR g A d G ++ (tabR g T t2 G3 ++ (dayR g SA sd5 G6 ++ (tabR g ST st SGT ++ (padR g P p GP ++ ([slW g sl o.1 o.2] ++ [histW g hst arr xs R])))))) : List va_W), (sh_8005 g x (A 0) (T 0) S (P 0) hst sl A d G T t2 G3 S (SA 0) (ST 0) sv SA sd5 G6 ST st SGT P p GP M m sl o hst arr xs R m10), ?_⟩
  refine y_icmp_eq (tgt := 745) C dL_law_602 rfl h (fun c602 h => ?_) (fun c602 h => ?_)
  · refine y_sub (lv' := [(0, .ref b), (1, .ref x), (2, .ref (M 0)), (3, .int x3)]) [0, 1, 2, 3] rfl ?_
    exact hX745 _ _ (by omega) (by omega) d t2 sv sd5 st p m10 o xs x3 G G3 G6 SGT GP R h
  · refine y_iconst (v := 0) C dL_law_605 (by decide) ?_
    exact h.elim
