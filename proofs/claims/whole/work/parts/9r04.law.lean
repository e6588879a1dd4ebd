set_option maxHeartbeats 4000000 in
set_option maxRecDepth 100000 in
theorem lw_607 {Z : yZ} {g : yG} (x S hst arr sl : Nat) (A T SA ST P M : Nat → Nat) {k0 n0 b L : Nat} {sx : Nat → Int32} (C : yC Z g cL_law 4 wsL_law RL) (HX : ySc Z b L sx) (hk : k0 + 25 ≤ 600000) (hn : n0 + 236 ≤ 7302249) {X745 : RV → RV → RV → RV → RV → RV → MV → SL × SL → List RV → Int32 → Prop}  (hX745 : ∀ k1 n1, k1 ≤ k0 + 25 → n1 ≤ n0 + 236 → ∀ (d t sv sd st p : RV) (m : MV) (o : SL × SL) (xs : List RV) (x3 : Int32) (G GT SG SGT GP : Nat → Nat → Int32) (R : HRt), X745 d t sv sd st p m o xs x3 → yJ Z room_1 k1 n1 ([mnC x (A 0) (T 0) S (P 0) hst sl, dayC A d, tabC T t, seaC S (SA 0) (ST 0) sv, dayC SA sd, tabC ST st, padC P p, modW g M m] ++ (dayR g A d G ++ (tabR g T t GT ++ (dayR g SA sd SG ++ (tabR g ST st SGT ++ (padR g P p GP ++ ([slW g sl o.1 o.2] ++ [histW g hst arr xs R])))))) : List va_W) 745 [(0, .ref b), (1, .ref x), (2, .ref (M 0)), (3, .int x3)] []) (d t sv sd st p : RV) (m : MV) (o : SL × SL) (xs : List RV) (x3 : Int32) (G GT SG SGT GP : Nat → Nat → Int32) (R : HRt) (h : wl_607 L sx X745 d t sv sd st p m o xs x3) : yJ Z room_1 k0 n0 ([mnC x (A 0) (T 0) S (P 0) hst sl, dayC A d, tabC T t, seaC S (SA 0) (ST 0) sv, dayC SA sd, tabC ST st, padC P p, modW g M m] ++ (dayR g A d G ++ (tabR g T t GT ++ (dayR g SA sd SG ++ (tabR g ST st SGT ++ (padR g P p GP ++ ([slW g sl o.1 o.2] ++ [histW g hst arr xs R])))))) : List va_W) 607 [(0, .ref b), (1, .ref x), (2, .ref (M 0)), (3, .int x3)] [] := by
  unfold wl_607 at h
  refine y_aload_n C dL_law_607 1 rfl rfl ?_
  refine y_aload_n C dL_law_608 0 rfl rfl ?_
  refine y_iload_n C dL_law_609 3 rfl rfl ?_
  refine y_iconst (v := 1) C dL_law_610 (by decide) ?_
  refine y_iadd C dL_law_611 ?_
  obtain ⟨hb1, h⟩ := h
  refine y_sld C HX dL_law_612 hb1 ?_
  refine y_i2l C dL_law_613 rfl ?_
  refine y_bipush (v := 32) C dL_law_614 (by decide) ?_
  refine y_lshl C dL_law_616 rfl ?_
  refine y_aload_n C dL_law_617 0 rfl rfl ?_
  refine y_iload_n C dL_law_618 3 rfl rfl ?_
  refine y_iconst (v := 2) C dL_law_619 (by decide) ?_
  refine y_iadd C dL_law_620 ?_
  obtain ⟨hb2, h⟩ := h
  refine y_sld C HX dL_law_621 hb2 ?_
  refine y_i2l C dL_law_622 rfl ?_
  refine y_ldc2 (v := 4294967295) C dL_law_623 kL_law_6 ?_
  refine y_land C dL_law_626 ?_
  refine y_lor C dL_law_627 ?_
  refine y_callV (As := [.long ((((sx (x3 + (1 : Int32)).toNatClampNeg)).toInt64 <<< ((32 : Int32).toInt64 &&& 63)) ||| (((sx (x3 + (2 : Int32)).toNatClampNeg)).toInt64 &&& (4294967295 : Int64)))]) (rest := []) C dL_law_628 (c_X6_put g x (A 0) (T 0) S hst sl P p GP ((((sx (x3 + (1 : Int32)).toNatClampNeg)).toInt64 <<< ((32 : Int32).toInt64 &&& 63)) ||| (((sx (x3 + (2 : Int32)).toNatClampNeg)).toInt64 &&& (4294967295 : Int64)))) rfl rfl rfl rfl ⟨Nat.le_of_ble_eq_true rfl, Nat.le_of_ble_eq_true rfl⟩ gL_law_X6_put (nA := 1) (by decide +kernel) rfl (sh_8041 g x (A 0) (T 0) S (P 0) hst sl P p GP) (Nat.le_of_ble_eq_true rfl) ⟨by rw [lw_rc]; omega, by rw [lw_rs]; omega⟩ [0, 6, 42, 43] [1, 2, 3, 4, 5, 7, 8, 9, 10, 11, 12, 13, 14, 15, 16, 17, 18, 19, 20, 21, 22, 23, 24, 25, 26, 27, 28, 29, 30, 31, 32, 33, 34, 35, 36, 37, 38, 39, 40, 41, 44, 45] (nB := 46) rfl (by decide +kernel) (sh_8040 g x (A 0) (T 0) S (P 0) hst sl A d G T t GT S (SA 0) (ST 0) sv SA sd SG ST st SGT P p GP M m sl o hst arr xs R) (fun r6 w9 hw => ?_)
  obtain ⟨er6, p3, G4, e5, rfl⟩ := hw
  have h := y_letP h er6
  have h := y_letP h e5
  refine ⟨([mnC x (A 0) (T 0) S (P 0) hst sl, dayC A d, tabC T t, seaC S (SA 0) (ST 0) sv, dayC SA sd, tabC ST st, padC P p3, modW g M m] ++ (dayR g A d G ++ (tabR g T t GT ++ (dayR g SA sd SG ++ (tabR g ST st SGT ++ (padR g P p3 G4 ++ ([slW g sl o.1 o.2] ++ [histW g hst arr xs R])))))) : List va_W), (sh_8042 g x (A 0) (T 0) S (P 0) hst sl A d G T t GT S (SA 0) (ST 0) sv SA sd SG ST st SGT P p GP M m sl o hst arr xs R p3 G4), ?_⟩
  refine y_aload_n C dL_law_631 2 rfl rfl ?_
  refine y_aload_n C dL_law_632 0 rfl rfl ?_
  refine y_iload_n C dL_law_633 3 rfl rfl ?_
  refine y_iconst (v := 1) C dL_law_634 (by decide) ?_
  refine y_iadd C dL_law_635 ?_
  obtain ⟨hb7, h⟩ := h
  refine y_sld C HX dL_law_636 hb7 ?_
  refine y_i2l C dL_law_637 rfl ?_
  refine y_bipush (v := 32) C dL_law_638 (by decide) ?_
  refine y_lshl C dL_law_640 rfl ?_
  refine y_aload_n C dL_law_641 0 rfl rfl ?_
  refine y_iload_n C dL_law_642 3 rfl rfl ?_
  refine y_iconst (v := 2) C dL_law_643 (by decide) ?_
  refine y_iadd C dL_law_644 ?_
  obtain ⟨hb8, h⟩ := h
  refine y_sld C HX dL_law_645 hb8 ?_
  refine y_i2l C dL_law_646 rfl ?_
  refine y_ldc2 (v := 4294967295) C dL_law_647 kL_law_6 ?_
  refine y_land C dL_law_650 ?_
  refine y_lor C dL_law_651 ?_
  refine y_callV (As := [.long ((((sx (x3 + (1 : Int32)).toNatClampNeg)).toInt64 <<< ((32 : Int32).toInt64 &&& 63)) ||| (((sx (x3 + (2 : Int32)).toNatClampNeg)).toInt64 &&& (4294967295 : Int64)))]) (rest := [.int r6]) C dL_law_652 (u_X7_put g M m ((((sx (x3 + (1 : Int32)).toNatClampNeg)).toInt64 <<< ((32 : Int32).toInt64 &&& 63)) ||| (((sx (x3 + (2 : Int32)).toNatClampNeg)).toInt64 &&& (4294967295 : Int64))) h) rfl rfl rfl rfl ⟨Nat.le_of_ble_eq_true rfl, Nat.le_of_ble_eq_true rfl⟩ gL_law_X7_put (nA := 1) (by decide +kernel) rfl (sh_8004 g M m) (Nat.le_of_ble_eq_true rfl) ⟨by rw [lw_rc]; omega, by rw [lw_rs]; omega⟩ [7] [0, 1, 2, 3, 4, 5, 6, 8, 9, 10, 11, 12, 13, 14, 15, 16, 17, 18, 19, 20, 21, 22, 23, 24, 25, 26, 27, 28, 29, 30, 31, 32, 33, 34, 35, 36, 37, 38, 39, 40, 41, 42, 43, 44, 45] (nB := 46) rfl (by decide +kernel) (sh_8003 g x (A 0) (T 0) S (P 0) hst sl A d G T t GT S (SA 0) (ST 0) sv SA sd SG ST st SGT P p3 G4 M m sl o hst arr xs R) (fun r11 w9 hw => ?_)
  obtain ⟨m9, h, rfl⟩ := hw
  refine ⟨([mnC x (A 0) (T 0) S (P 0) hst sl, dayC A d, tabC T t, seaC S (SA 0) (ST 0) sv, dayC SA sd, tabC ST st, padC P p3, modW g M m9] ++ (dayR g A d G ++ (tabR g T t GT ++ (dayR g SA sd SG ++ (tabR g ST st SGT ++ (padR g P p3 G4 ++ ([slW g sl o.1 o.2] ++ [histW g hst arr xs R])))))) : List va_W), (sh_8005 g x (A 0) (T 0) S (P 0) hst sl A d G T t GT S (SA 0) (ST 0) sv SA sd SG ST st SGT P p3 G4 M m sl o hst arr xs R m9), ?_⟩
  refine y_icmp_eq (tgt := 745) C dL_law_655 rfl h (fun c655 h => ?_) (fun c655 h => ?_)
  · refine y_sub (lv' := [(0, .ref b), (1, .ref x), (2, .ref (M 0)), (3, .int x3)]) [0, 1, 2, 3] rfl ?_
    exact hX745 _ _ (by omega) (by omega) d t sv sd st p3 m9 o xs x3 G GT SG SGT G4 R h
  · refine y_iconst (v := 0) C dL_law_658 (by decide) ?_
    exact h.elim
set_option maxHeartbeats 4000000 in
set_option maxRecDepth 100000 in
theorem lw_660 {Z : yZ} {g : yG} (x S hst arr sl : Nat) (A T SA ST P M : Nat → Nat) {k0 n0 b L : Nat} {sx : Nat → Int32} (C : yC Z g cL_law 4 wsL_law RL) (HX : ySc Z b L sx) (hk : k0 + 25 ≤ 600000) (hn : n0 + 236 ≤ 7302249) {X745 : RV → RV → RV → RV → RV → RV → MV → SL × SL → List RV → Int32 → Prop}  (hX745 : ∀ k1 n1, k1 ≤ k0 + 25 → n1 ≤ n0 + 236 → ∀ (d t sv sd st p : RV) (m : MV) (o : SL × SL) (xs : List RV) (x3 : Int32) (G GT SG SGT GP : Nat → Nat → Int32) (R : HRt), X745 d t sv sd st p m o xs x3 → yJ Z room_1 k1 n1 ([mnC x (A 0) (T 0) S (P 0) hst sl, dayC A d, tabC T t, seaC S (SA 0) (ST 0) sv, dayC SA sd, tabC ST st, padC P p, modW g M m] ++ (dayR g A d G ++ (tabR g T t GT ++ (dayR g SA sd SG ++ (tabR g ST st SGT ++ (padR g P p GP ++ ([slW g sl o.1 o.2] ++ [histW g hst arr xs R])))))) : List va_W) 745 [(0, .ref b), (1, .ref x), (2, .ref (M 0)), (3, .int x3)] []) (d t sv sd st p : RV) (m : MV) (o : SL × SL) (xs : List RV) (x3 : Int32) (G GT SG SGT GP : Nat → Nat → Int32) (R : HRt) (h : wl_660 L sx X745 d t sv sd st p m o xs x3) : yJ Z room_1 k0 n0 ([mnC x (A 0) (T 0) S (P 0) hst sl, dayC A d, tabC T t, seaC S (SA 0) (ST 0) sv, dayC SA sd, tabC ST st, padC P p, modW g M m] ++ (dayR g A d G ++ (tabR g T t GT ++ (dayR g SA sd SG ++ (tabR g ST st SGT ++ (padR g P p GP ++ ([slW g sl o.1 o.2] ++ [histW g hst arr xs R])))))) : List va_W) 660 [(0, .ref b), (1, .ref x), (2, .ref (M 0)), (3, .int x3)] [] := by
  unfold wl_660 at h
  refine y_aload_n C dL_law_660 1 rfl rfl ?_
  refine y_callV (As := []) (rest := []) C dL_law_661 (c_X6_wipe g x (A 0) (T 0) S hst sl P p GP) rfl rfl rfl rfl ⟨Nat.le_of_ble_eq_true rfl, Nat.le_of_ble_eq_true rfl⟩ gL_law_X6_wipe (nA := 0) (by decide +kernel) rfl (sh_8041 g x (A 0) (T 0) S (P 0) hst sl P p GP) (Nat.le_of_ble_eq_true rfl) ⟨by rw [lw_rc]; omega, by rw [lw_rs]; omega⟩ [0, 6, 42, 43] [1, 2, 3, 4, 5, 7, 8, 9, 10, 11, 12, 13, 14, 15, 16, 17, 18, 19, 20, 21, 22, 23, 24, 25, 26, 27, 28, 29, 30, 31, 32, 33, 34, 35, 36, 37, 38, 39, 40, 41, 44, 45] (nB := 46) rfl (by decide +kernel) (sh_8040 g x (A 0) (T 0) S (P 0) hst sl A d G T t GT S (SA 0) (ST 0) sv SA sd SG ST st SGT P p GP M m sl o hst arr xs R) (fun r4 w9 hw => ?_)
  obtain ⟨er4, p1, G2, e3, rfl⟩ := hw
  have h := y_letP h er4
  have h := y_letP h e3
  refine ⟨([mnC x (A 0) (T 0) S (P 0) hst sl, dayC A d, tabC T t, seaC S (SA 0) (ST 0) sv, dayC SA sd, tabC ST st, padC P p1, modW g M m] ++ (dayR g A d G ++ (tabR g T t GT ++ (dayR g SA sd SG ++ (tabR g ST st SGT ++ (padR g P p1 G2 ++ ([slW g sl o.1 o.2] ++ [histW g hst arr xs R])))))) : List va_W), (sh_8042 g x (A 0) (T 0) S (P 0) hst sl A d G T t GT S (SA 0) (ST 0) sv SA sd SG ST st SGT P p GP M m sl o hst arr xs R p1 G2), ?_⟩
  refine y_aload_n C dL_law_664 2 rfl rfl ?_
  refine y_callV (As := []) (rest := [.int r4]) C dL_law_665 (u_X7_wipe g M m h) rfl rfl rfl rfl ⟨Nat.le_of_ble_eq_true rfl, Nat.le_of_ble_eq_true rfl⟩ gL_law_X7_wipe (nA := 0) (by decide +kernel) rfl (sh_8004 g M m) (Nat.le_of_ble_eq_true rfl) ⟨by rw [lw_rc]; omega, by rw [lw_rs]; omega⟩ [7] [0, 1, 2, 3, 4, 5, 6, 8, 9, 10, 11, 12, 13, 14, 15, 16, 17, 18, 19, 20, 21, 22, 23, 24, 25, 26, 27, 28, 29, 30, 31, 32, 33, 34, 35, 36, 37, 38, 39, 40, 41, 42, 43, 44, 45] (nB := 46) rfl (by decide +kernel) (sh_8003 g x (A 0) (T 0) S (P 0) hst sl A d G T t GT S (SA 0) (ST 0) sv SA sd SG ST st SGT P p1 G2 M m sl o hst arr xs R) (fun r7 w9 hw => ?_)
  obtain ⟨m5, h, rfl⟩ := hw
  refine ⟨([mnC x (A 0) (T 0) S (P 0) hst sl, dayC A d, tabC T t, seaC S (SA 0) (ST 0) sv, dayC SA sd, tabC ST st, padC P p1, modW g M m5] ++ (dayR g A d G ++ (tabR g T t GT ++ (dayR g SA sd SG ++ (tabR g ST st SGT ++ (padR g P p1 G2 ++ ([slW g sl o.1 o.2] ++ [histW g hst arr xs R])))))) : List va_W), (sh_8005 g x (A 0) (T 0) S (P 0) hst sl A d G T t GT S (SA 0) (ST 0) sv SA sd SG ST st SGT P p1 G2 M m sl o hst arr xs R m5), ?_⟩
  refine y_icmp_eq (tgt := 745) C dL_law_668 rfl h (fun c668 h => ?_) (fun c668 h => ?_)
  · refine y_sub (lv' := [(0, .ref b), (1, .ref x), (2, .ref (M 0)), (3, .int x3)]) [0, 1, 2, 3] rfl ?_
    exact hX745 _ _ (by omega) (by omega) d t sv sd st p1 m5 o xs x3 G GT SG SGT G2 R h
  · refine y_iconst (v := 0) C dL_law_671 (by decide) ?_
    exact h.elim
set_option maxHeartbeats 4000000 in
set_option maxRecDepth 100000 in
theorem lw_673 {Z : yZ} {g : yG} (x S hst arr sl : Nat) (A T SA ST P M : Nat → Nat) {k0 n0 b L : Nat} {sx : Nat → Int32} (C : yC Z g cL_law 4 wsL_law RL) (HX : ySc Z b L sx) (hk : k0 + 25 ≤ 600000) (hn : n0 + 236 ≤ 7302249) {X745 : RV → RV → RV → RV → RV → RV → MV → SL × SL → List RV → Int32 → Prop}  (hX745 : ∀ k1 n1, k1 ≤ k0 + 25 → n1 ≤ n0 + 236 → ∀ (d t sv sd st p : RV) (m : MV) (o : SL × SL) (xs : List RV) (x3 : Int32) (G GT SG SGT GP : Nat → Nat → Int32) (R : HRt), X745 d t sv sd st p m o xs x3 → yJ Z room_1 k1 n1 ([mnC x (A 0) (T 0) S (P 0) hst sl, dayC A d, tabC T t, seaC S (SA 0) (ST 0) sv, dayC SA sd, tabC ST st, padC P p, modW g M m] ++ (dayR g A d G ++ (tabR g T t GT ++ (dayR g SA sd SG ++ (tabR g ST st SGT ++ (padR g P p GP ++ ([slW g sl o.1 o.2] ++ [histW g hst arr xs R])))))) : List va_W) 745 [(0, .ref b), (1, .ref x), (2, .ref (M 0)), (3, .int x3)] []) (d t sv sd st p : RV) (m : MV) (o : SL × SL) (xs : List RV) (x3 : Int32) (G GT SG SGT GP : Nat → Nat → Int32) (R : HRt) (h : wl_673 L sx X745 d t sv sd st p m o xs x3) : yJ Z room_1 k0 n0 ([mnC x (A 0) (T 0) S (P 0) hst sl, dayC A d, tabC T t, seaC S (SA 0) (ST 0) sv, dayC SA sd, tabC ST st, padC P p, modW g M m] ++ (dayR g A d G ++ (tabR g T t GT ++ (dayR g SA sd SG ++ (tabR g ST st SGT ++ (padR g P p GP ++ ([slW g sl o.1 o.2] ++ [histW g hst arr xs R])))))) : List va_W) 673 [(0, .ref b), (1, .ref x), (2, .ref (M 0)), (3, .int x3)] [] := by
  unfold wl_673 at h
  refine y_aload_n C dL_law_673 1 rfl rfl ?_
  refine y_callV (As := []) (rest := []) C dL_law_674 (c_X6_fault g x (A 0) (T 0) S hst sl P p GP) rfl rfl rfl rfl ⟨Nat.le_of_ble_eq_true rfl, Nat.le_of_ble_eq_true rfl⟩ gL_law_X6_fault (nA := 0) (by decide +kernel) rfl (sh_8041 g x (A 0) (T 0) S (P 0) hst sl P p GP) (Nat.le_of_ble_eq_true rfl) ⟨by rw [lw_rc]; omega, by rw [lw_rs]; omega⟩ [0, 6, 42, 43] [1, 2, 3, 4, 5, 7, 8, 9, 10, 11, 12, 13, 14, 15, 16, 17, 18, 19, 20, 21, 22, 23, 24, 25, 26, 27, 28, 29, 30, 31, 32, 33, 34, 35, 36, 37, 38, 39, 40, 41, 44, 45] (nB := 46) rfl (by decide +kernel) (sh_8040 g x (A 0) (T 0) S (P 0) hst sl A d G T t GT S (SA 0) (ST 0) sv SA sd SG ST st SGT P p GP M m sl o hst arr xs R) (fun r4 w9 hw => ?_)
  obtain ⟨er4, p1, G2, e3, rfl⟩ := hw
  have h := y_letP h er4
  have h := y_letP h e3
  refine ⟨([mnC x (A 0) (T 0) S (P 0) hst sl, dayC A d, tabC T t, seaC S (SA 0) (ST 0) sv, dayC SA sd, tabC ST st, padC P p1, modW g M m] ++ (dayR g A d G ++ (tabR g T t GT ++ (dayR g SA sd SG ++ (tabR g ST st SGT ++ (padR g P p1 G2 ++ ([slW g sl o.1 o.2] ++ [histW g hst arr xs R])))))) : List va_W), (sh_8042 g x (A 0) (T 0) S (P 0) hst sl A d G T t GT S (SA 0) (ST 0) sv SA sd SG ST st SGT P p GP M m sl o hst arr xs R p1 G2), ?_⟩
  refine y_aload_n C dL_law_677 2 rfl rfl ?_
  refine y_callV (As := []) (rest := [.int r4]) C dL_law_678 (u_X7_fault g M m h) rfl rfl rfl rfl ⟨Nat.le_of_ble_eq_true rfl, Nat.le_of_ble_eq_true rfl⟩ gL_law_X7_fault (nA := 0) (by decide +kernel) rfl (sh_8004 g M m) (Nat.le_of_ble_eq_true rfl) ⟨by rw [lw_rc]; omega, by rw [lw_rs]; omega⟩ [7] [0, 1, 2, 3, 4, 5, 6, 8, 9, 10, 11, 12, 13, 14, 15, 16, 17, 18, 19, 20, 21, 22, 23, 24, 25, 26, 27, 28, 29, 30, 31, 32, 33, 34, 35, 36, 37, 38, 39, 40, 41, 42, 43, 44, 45] (nB := 46) rfl (by decide +kernel) (sh_8003 g x (A 0) (T 0) S (P 0) hst sl A d G T t GT S (SA 0) (ST 0) sv SA sd SG ST st SGT P p1 G2 M m sl o hst arr xs R) (fun r7 w9 hw => ?_)
  obtain ⟨m5, h, rfl⟩ := hw
  refine ⟨([mnC x (A 0) (T 0) S (P 0) hst sl, dayC A d, tabC T t, seaC S (SA 0) (ST 0) sv, dayC SA sd, tabC ST st, padC P p1, modW g M m5] ++ (dayR g A d G ++ (tabR g T t GT ++ (dayR g SA sd SG ++ (tabR g ST st SGT ++ (padR g P p1 G2 ++ ([slW g sl o.1 o.2] ++ [histW g hst arr xs R])))))) : List va_W), (sh_8005 g x (A 0) (T 0) S (P 0) hst sl A d G T t GT S (SA 0) (ST 0) sv SA sd SG ST st SGT P p1 G2 M m sl o hst arr xs R m5), ?_⟩
  refine y_icmp_eq (tgt := 745) C dL_law_681 rfl h (fun c681 h => ?_) (fun c681 h => ?_)
  · refine y_sub (lv' := [(0, .ref b), (1, .ref x), (2, .ref (M 0)), (3, .int x3)]) [0, 1, 2, 3] rfl ?_
    exact hX745 _ _ (by omega) (by omega) d t sv sd st p1 m5 o xs x3 G GT SG SGT G2 R h
  · refine y_iconst (v := 0) C dL_law_684 (by decide) ?_
    exact h.elim
set_option maxHeartbeats 4000000 in
set_option maxRecDepth 100000 in
theorem lw_686 {Z : yZ} {g : yG} (x S hst arr sl : Nat) (A T SA ST P M : Nat → Nat) {k0 n0 b L : Nat} {sx : Nat → Int32} (C : yC Z g cL_law 4 wsL_law RL) (HX : ySc Z b L sx) (hk : k0 + 25 ≤ 600000) (hn : n0 + 236 ≤ 7302249) {X745 : RV → RV → RV → RV → RV → RV → MV → SL × SL → List RV → Int32 → Prop}  (hX745 : ∀ k1 n1, k1 ≤ k0 + 25 → n1 ≤ n0 + 236 → ∀ (d t sv sd st p : RV) (m : MV) (o : SL × SL) (xs : List RV) (x3 : Int32) (G GT SG SGT GP : Nat → Nat → Int32) (R : HRt), X745 d t sv sd st p m o xs x3 → yJ Z room_1 k1 n1 ([mnC x (A 0) (T 0) S (P 0) hst sl, dayC A d, tabC T t, seaC S (SA 0) (ST 0) sv, dayC SA sd, tabC ST st, padC P p, modW g M m] ++ (dayR g A d G ++ (tabR g T t GT ++ (dayR g SA sd SG ++ (tabR g ST st SGT ++ (padR g P p GP ++ ([slW g sl o.1 o.2] ++ [histW g hst arr xs R])))))) : List va_W) 745 [(0, .ref b), (1, .ref x), (2, .ref (M 0)), (3, .int x3)] []) (d t sv sd st p : RV) (m : MV) (o : SL × SL) (xs : List RV) (x3 : Int32) (G GT SG SGT GP : Nat → Nat → Int32) (R : HRt) (h : wl_686 L sx X745 d t sv sd st p m o xs x3) : yJ Z room_1 k0 n0 ([mnC x (A 0) (T 0) S (P 0) hst sl, dayC A d, tabC T t, seaC S (SA 0) (ST 0) sv, dayC SA sd, tabC ST st, padC P p, modW g M m] ++ (dayR g A d G ++ (tabR g T t GT ++ (dayR g SA sd SG ++ (tabR g ST st SGT ++ (padR g P p GP ++ ([slW g sl o.1 o.2] ++ [histW g hst arr xs R])))))) : List va_W) 686 [(0, .ref b), (1, .ref x), (2, .ref (M 0)), (3, .int x3)] [] := by
  unfold wl_686 at h
  refine y_aload_n C dL_law_686 1 rfl rfl ?_
  refine y_callV (As := []) (rest := []) C dL_law_687 (k_X6_undo g x (T 0) S (P 0) sl A d G hst arr xs R) rfl rfl rfl rfl ⟨Nat.le_of_ble_eq_true rfl, Nat.le_of_ble_eq_true rfl⟩ gL_law_X6_undo (nA := 0) (by decide +kernel) rfl (sh_8001 g x (A 0) (T 0) S (P 0) hst sl A d G hst arr xs R) (Nat.le_of_ble_eq_true rfl) ⟨by rw [lw_rc]; omega, by rw [lw_rs]; omega⟩ [0, 1, 8, 9, 10, 11, 12, 13, 14, 15, 16, 17, 18, 19, 45] [2, 3, 4, 5, 6, 7, 20, 21, 22, 23, 24, 25, 26, 27, 28, 29, 30, 31, 32, 33, 34, 35, 36, 37, 38, 39, 40, 41, 42, 43, 44] (nB := 46) rfl (by decide +kernel) (sh_8043 g x (A 0) (T 0) S (P 0) hst sl A d G T t GT S (SA 0) (ST 0) sv SA sd SG ST st SGT P p GP M m sl o hst arr xs R) (fun r7 w9 hw => ?_)
  obtain ⟨d1, xs4, G2, G5, hq8, rfl⟩ := hw
  have h := h r7 d1 xs4 hq8
  refine ⟨([mnC x (A 0) (T 0) S (P 0) hst sl, dayC A d1, tabC T t, seaC S (SA 0) (ST 0) sv, dayC SA sd, tabC ST st, padC P p, modW g M m] ++ (dayR g A d1 G2 ++ (tabR g T t GT ++ (dayR g SA sd SG ++ (tabR g ST st SGT ++ (padR g P p GP ++ ([slW g sl o.1 o.2] ++ [histW g hst arr xs4 G5])))))) : List va_W), (sh_8044 g x (A 0) (T 0) S (P 0) hst sl A d G T t GT S (SA 0) (ST 0) sv SA sd SG ST st SGT P p GP M m sl o hst arr xs R d1 G2 xs4 G5), ?_⟩
  refine y_aload_n C dL_law_690 2 rfl rfl ?_
  refine y_callV (As := []) (rest := [.int r7]) C dL_law_691 (u_X7_undo g M m h) rfl rfl rfl rfl ⟨Nat.le_of_ble_eq_true rfl, Nat.le_of_ble_eq_true rfl⟩ gL_law_X7_undo (nA := 0) (by decide +kernel) rfl (sh_8004 g M m) (Nat.le_of_ble_eq_true rfl) ⟨by rw [lw_rc]; omega, by rw [lw_rs]; omega⟩ [7] [0, 1, 2, 3, 4, 5, 6, 8, 9, 10, 11, 12, 13, 14, 15, 16, 17, 18, 19, 20, 21, 22, 23, 24, 25, 26, 27, 28, 29, 30, 31, 32, 33, 34, 35, 36, 37, 38, 39, 40, 41, 42, 43, 44, 45] (nB := 46) rfl (by decide +kernel) (sh_8003 g x (A 0) (T 0) S (P 0) hst sl A d1 G2 T t GT S (SA 0) (ST 0) sv SA sd SG ST st SGT P p GP M m sl o hst arr xs4 G5) (fun r11 w9 hw => ?_)
  obtain ⟨m9, h, rfl⟩ := hw
  refine ⟨([mnC x (A 0) (T 0) S (P 0) hst sl, dayC A d1, tabC T t, seaC S (SA 0) (ST 0) sv, dayC SA sd, tabC ST st, padC P p, modW g M m9] ++ (dayR g A d1 G2 ++ (tabR g T t GT ++ (dayR g SA sd SG ++ (tabR g ST st SGT ++ (padR g P p GP ++ ([slW g sl o.1 o.2] ++ [histW g hst arr xs4 G5])))))) : List va_W), (sh_8005 g x (A 0) (T 0) S (P 0) hst sl A d1 G2 T t GT S (SA 0) (ST 0) sv SA sd SG ST st SGT P p GP M m sl o hst arr xs4 G5 m9), ?_⟩
  refine y_icmp_eq (tgt := 745) C dL_law_694 rfl h (fun c694 h => ?_) (fun c694 h => ?_)
  · refine y_sub (lv' := [(0, .ref b), (1, .ref x), (2, .ref (M 0)), (3, .int x3)]) [0, 1, 2, 3] rfl ?_
    exact hX745 _ _ (by omega) (by omega) d1 t sv sd st p m9 o xs4 x3 G2 GT SG SGT GP G5 h
  · refine y_iconst (v := 0) C dL_law_697 (by decide) ?_
    exact h.elim
