set_option maxHeartbeats 4000000 in
set_option maxRecDepth 100000 in
theorem lw_699 {Z : yZ} {g : yG} (x S hst arr sl : Nat) (A T SA ST P M : Nat → Nat) {k0 n0 b L : Nat} {sx : Nat → Int32} (C : yC Z g cL_law 4 wsL_law RL) (HX : ySc Z b L sx) (hk : k0 + 25 ≤ 600000) (hn : n0 + 236 ≤ 7302249) {X745 : RV → RV → RV → RV → RV → RV → MV → SL × SL → List RV → Int32 → Prop}  (hX745 : ∀ k1 n1, k1 ≤ k0 + 25 → n1 ≤ n0 + 236 → ∀ (d t sv sd st p : RV) (m : MV) (o : SL × SL) (xs : List RV) (x3 : Int32) (G GT SG SGT GP : Nat → Nat → Int32) (R : HRt), X745 d t sv sd st p m o xs x3 → yJ Z room_1 k1 n1 ([mnC x (A 0) (T 0) S (P 0) hst sl, dayC A d, tabC T t, seaC S (SA 0) (ST 0) sv, dayC SA sd, tabC ST st, padC P p, modW g M m] ++ (dayR g A d G ++ (tabR g T t GT ++ (dayR g SA sd SG ++ (tabR g ST st SGT ++ (padR g P p GP ++ ([slW g sl o.1 o.2] ++ [histW g hst arr xs R])))))) : List va_W) 745 [(0, .ref b), (1, .ref x), (2, .ref (M 0)), (3, .int x3)] []) (d t sv sd st p : RV) (m : MV) (o : SL × SL) (xs : List RV) (x3 : Int32) (G GT SG SGT GP : Nat → Nat → Int32) (R : HRt) (h : wl_699 L sx X745 d t sv sd st p m o xs x3) : yJ Z room_1 k0 n0 ([mnC x (A 0) (T 0) S (P 0) hst sl, dayC A d, tabC T t, seaC S (SA 0) (ST 0) sv, dayC SA sd, tabC ST st, padC P p, modW g M m] ++ (dayR g A d G ++ (tabR g T t GT ++ (dayR g SA sd SG ++ (tabR g ST st SGT ++ (padR g P p GP ++ ([slW g sl o.1 o.2] ++ [histW g hst arr xs R])))))) : List va_W) 699 [(0, .ref b), (1, .ref x), (2, .ref (M 0)), (3, .int x3)] [] := by
  unfold wl_699 at h
  refine y_aload_n C dL_law_699 1 rfl rfl ?_
  refine y_aload_n C dL_law_700 0 rfl rfl ?_
  refine y_iload_n C dL_law_701 3 rfl rfl ?_
  refine y_iconst (v := 1) C dL_law_702 (by decide) ?_
  refine y_iadd C dL_law_703 ?_
  obtain ⟨hb1, h⟩ := h
  refine y_sld C HX dL_law_704 hb1 ?_
  refine y_callV (As := [.int (sx (x3 + (1 : Int32)).toNatClampNeg)]) (rest := []) C dL_law_705 (k_X6_save g x (T 0) S (P 0) hst A d G sl o (sx (x3 + (1 : Int32)).toNatClampNeg)) rfl rfl rfl rfl ⟨Nat.le_of_ble_eq_true rfl, Nat.le_of_ble_eq_true rfl⟩ gL_law_X6_save (nA := 1) (by decide +kernel) rfl (sh_8046 g x (A 0) (T 0) S (P 0) hst sl A d G sl o) (Nat.le_of_ble_eq_true rfl) ⟨by rw [lw_rc]; omega, by rw [lw_rs]; omega⟩ [0, 1, 8, 9, 10, 11, 12, 13, 14, 15, 16, 17, 18, 19, 44] [2, 3, 4, 5, 6, 7, 20, 21, 22, 23, 24, 25, 26, 27, 28, 29, 30, 31, 32, 33, 34, 35, 36, 37, 38, 39, 40, 41, 42, 43, 45] (nB := 46) rfl (by decide +kernel) (sh_8045 g x (A 0) (T 0) S (P 0) hst sl A d G T t GT S (SA 0) (ST 0) sv SA sd SG ST st SGT P p GP M m sl o hst arr xs R) (fun r4 w9 hw => ?_)
  obtain ⟨o2, hq5, rfl⟩ := hw
  have h := h r4 o2 hq5
  refine ⟨([mnC x (A 0) (T 0) S (P 0) hst sl, dayC A d, tabC T t, seaC S (SA 0) (ST 0) sv, dayC SA sd, tabC ST st, padC P p, modW g M m] ++ (dayR g A d G ++ (tabR g T t GT ++ (dayR g SA sd SG ++ (tabR g ST st SGT ++ (padR g P p GP ++ ([slW g sl o2.1 o2.2] ++ [histW g hst arr xs R])))))) : List va_W), (sh_8047 g x (A 0) (T 0) S (P 0) hst sl A d G T t GT S (SA 0) (ST 0) sv SA sd SG ST st SGT P p GP M m sl o hst arr xs R o2), ?_⟩
  refine y_aload_n C dL_law_708 2 rfl rfl ?_
  refine y_aload_n C dL_law_709 0 rfl rfl ?_
  refine y_iload_n C dL_law_710 3 rfl rfl ?_
  refine y_iconst (v := 1) C dL_law_711 (by decide) ?_
  refine y_iadd C dL_law_712 ?_
  obtain ⟨hb6, h⟩ := h
  refine y_sld C HX dL_law_713 hb6 ?_
  refine y_callV (As := [.int (sx (x3 + (1 : Int32)).toNatClampNeg)]) (rest := [.int r4]) C dL_law_714 (u_X7_save g M m (sx (x3 + (1 : Int32)).toNatClampNeg) h) rfl rfl rfl rfl ⟨Nat.le_of_ble_eq_true rfl, Nat.le_of_ble_eq_true rfl⟩ gL_law_X7_save (nA := 1) (by decide +kernel) rfl (sh_8004 g M m) (Nat.le_of_ble_eq_true rfl) ⟨by rw [lw_rc]; omega, by rw [lw_rs]; omega⟩ [7] [0, 1, 2, 3, 4, 5, 6, 8, 9, 10, 11, 12, 13, 14, 15, 16, 17, 18, 19, 20, 21, 22, 23, 24, 25, 26, 27, 28, 29, 30, 31, 32, 33, 34, 35, 36, 37, 38, 39, 40, 41, 42, 43, 44, 45] (nB := 46) rfl (by decide +kernel) (sh_8003 g x (A 0) (T 0) S (P 0) hst sl A d G T t GT S (SA 0) (ST 0) sv SA sd SG ST st SGT P p GP M m sl o2 hst arr xs R) (fun r9 w9 hw => ?_)
  obtain ⟨m7, h, rfl⟩ := hw
  refine ⟨([mnC x (A 0) (T 0) S (P 0) hst sl, dayC A d, tabC T t, seaC S (SA 0) (ST 0) sv, dayC SA sd, tabC ST st, padC P p, modW g M m7] ++ (dayR g A d G ++ (tabR g T t GT ++ (dayR g SA sd SG ++ (tabR g ST st SGT ++ (padR g P p GP ++ ([slW g sl o2.1 o2.2] ++ [histW g hst arr xs R])))))) : List va_W), (sh_8005 g x (A 0) (T 0) S (P 0) hst sl A d G T t GT S (SA 0) (ST 0) sv SA sd SG ST st SGT P p GP M m sl o2 hst arr xs R m7), ?_⟩
  refine y_icmp_eq (tgt := 745) C dL_law_717 rfl h (fun c717 h => ?_) (fun c717 h => ?_)
  · refine y_sub (lv' := [(0, .ref b), (1, .ref x), (2, .ref (M 0)), (3, .int x3)]) [0, 1, 2, 3] rfl ?_
    exact hX745 _ _ (by omega) (by omega) d t sv sd st p m7 o2 xs x3 G GT SG SGT GP R h
  · refine y_iconst (v := 0) C dL_law_720 (by decide) ?_
    exact h.elim
set_option maxHeartbeats 4000000 in
set_option maxRecDepth 100000 in
theorem lw_722 {Z : yZ} {g : yG} (x S hst arr sl : Nat) (A T SA ST P M : Nat → Nat) {k0 n0 b L : Nat} {sx : Nat → Int32} (C : yC Z g cL_law 4 wsL_law RL) (HX : ySc Z b L sx) (hk : k0 + 25 ≤ 600000) (hn : n0 + 236 ≤ 7302249) {X745 : RV → RV → RV → RV → RV → RV → MV → SL × SL → List RV → Int32 → Prop}  (hX745 : ∀ k1 n1, k1 ≤ k0 + 25 → n1 ≤ n0 + 236 → ∀ (d t sv sd st p : RV) (m : MV) (o : SL × SL) (xs : List RV) (x3 : Int32) (G GT SG SGT GP : Nat → Nat → Int32) (R : HRt), X745 d t sv sd st p m o xs x3 → yJ Z room_1 k1 n1 ([mnC x (A 0) (T 0) S (P 0) hst sl, dayC A d, tabC T t, seaC S (SA 0) (ST 0) sv, dayC SA sd, tabC ST st, padC P p, modW g M m] ++ (dayR g A d G ++ (tabR g T t GT ++ (dayR g SA sd SG ++ (tabR g ST st SGT ++ (padR g P p GP ++ ([slW g sl o.1 o.2] ++ [histW g hst arr xs R])))))) : List va_W) 745 [(0, .ref b), (1, .ref x), (2, .ref (M 0)), (3, .int x3)] []) (d t sv sd st p : RV) (m : MV) (o : SL × SL) (xs : List RV) (x3 : Int32) (G GT SG SGT GP : Nat → Nat → Int32) (R : HRt) (h : wl_722 L sx X745 d t sv sd st p m o xs x3) : yJ Z room_1 k0 n0 ([mnC x (A 0) (T 0) S (P 0) hst sl, dayC A d, tabC T t, seaC S (SA 0) (ST 0) sv, dayC SA sd, tabC ST st, padC P p, modW g M m] ++ (dayR g A d G ++ (tabR g T t GT ++ (dayR g SA sd SG ++ (tabR g ST st SGT ++ (padR g P p GP ++ ([slW g sl o.1 o.2] ++ [histW g hst arr xs R])))))) : List va_W) 722 [(0, .ref b), (1, .ref x), (2, .ref (M 0)), (3, .int x3)] [] := by
  unfold wl_722 at h
  refine y_aload_n C dL_law_722 1 rfl rfl ?_
  refine y_aload_n C dL_law_723 0 rfl rfl ?_
  refine y_iload_n C dL_law_724 3 rfl rfl ?_
  refine y_iconst (v := 1) C dL_law_725 (by decide) ?_
  refine y_iadd C dL_law_726 ?_
  obtain ⟨hb1, h⟩ := h
  refine y_sld C HX dL_law_727 hb1 ?_
  refine y_callV (As := [.int (sx (x3 + (1 : Int32)).toNatClampNeg)]) (rest := []) C dL_law_728 (k_X6_restore g x (T 0) S (P 0) A d G hst arr xs R sl o (sx (x3 + (1 : Int32)).toNatClampNeg)) rfl rfl rfl rfl ⟨Nat.le_of_ble_eq_true rfl, Nat.le_of_ble_eq_true rfl⟩ gL_law_X6_restore (nA := 1) (by decide +kernel) rfl (sh_8049 g x (A 0) (T 0) S (P 0) hst sl A d G hst arr xs R sl o) (Nat.le_of_ble_eq_true rfl) ⟨by rw [lw_rc]; omega, by rw [lw_rs]; omega⟩ [0, 1, 8, 9, 10, 11, 12, 13, 14, 15, 16, 17, 18, 19, 45, 44] [2, 3, 4, 5, 6, 7, 20, 21, 22, 23, 24, 25, 26, 27, 28, 29, 30, 31, 32, 33, 34, 35, 36, 37, 38, 39, 40, 41, 42, 43] (nB := 46) rfl (by decide +kernel) (sh_8048 g x (A 0) (T 0) S (P 0) hst sl A d G T t GT S (SA 0) (ST 0) sv SA sd SG ST st SGT P p GP M m sl o hst arr xs R) (fun r8 w9 hw => ?_)
  obtain ⟨d2, xs5, G3, G6, hq9, rfl⟩ := hw
  have h := h r8 d2 xs5 hq9
  refine ⟨([mnC x (A 0) (T 0) S (P 0) hst sl, dayC A d2, tabC T t, seaC S (SA 0) (ST 0) sv, dayC SA sd, tabC ST st, padC P p, modW g M m] ++ (dayR g A d2 G3 ++ (tabR g T t GT ++ (dayR g SA sd SG ++ (tabR g ST st SGT ++ (padR g P p GP ++ ([slW g sl o.1 o.2] ++ [histW g hst arr xs5 G6])))))) : List va_W), (sh_8050 g x (A 0) (T 0) S (P 0) hst sl A d G T t GT S (SA 0) (ST 0) sv SA sd SG ST st SGT P p GP M m sl o hst arr xs R d2 G3 xs5 G6), ?_⟩
  refine y_aload_n C dL_law_731 2 rfl rfl ?_
  refine y_aload_n C dL_law_732 0 rfl rfl ?_
  refine y_iload_n C dL_law_733 3 rfl rfl ?_
  refine y_iconst (v := 1) C dL_law_734 (by decide) ?_
  refine y_iadd C dL_law_735 ?_
  obtain ⟨hb10, h⟩ := h
  refine y_sld C HX dL_law_736 hb10 ?_
  refine y_callV (As := [.int (sx (x3 + (1 : Int32)).toNatClampNeg)]) (rest := [.int r8]) C dL_law_737 (u_X7_restore g M m (sx (x3 + (1 : Int32)).toNatClampNeg) h) rfl rfl rfl rfl ⟨Nat.le_of_ble_eq_true rfl, Nat.le_of_ble_eq_true rfl⟩ gL_law_X7_restore (nA := 1) (by decide +kernel) rfl (sh_8004 g M m) (Nat.le_of_ble_eq_true rfl) ⟨by rw [lw_rc]; omega, by rw [lw_rs]; omega⟩ [7] [0, 1, 2, 3, 4, 5, 6, 8, 9, 10, 11, 12, 13, 14, 15, 16, 17, 18, 19, 20, 21, 22, 23, 24, 25, 26, 27, 28, 29, 30, 31, 32, 33, 34, 35, 36, 37, 38, 39, 40, 41, 42, 43, 44, 45] (nB := 46) rfl (by decide +kernel) (sh_8003 g x (A 0) (T 0) S (P 0) hst sl A d2 G3 T t GT S (SA 0) (ST 0) sv SA sd SG ST st SGT P p GP M m sl o hst arr xs5 G6) (fun r13 w9 hw => ?_)
  obtain ⟨m11, h, rfl⟩ := hw
  refine ⟨([mnC x (A 0) (T 0) S (P 0) hst sl, dayC A d2, tabC T t, seaC S (SA 0) (ST 0) sv, dayC SA sd, tabC ST st, padC P p, modW g M m11] ++ (dayR g A d2 G3 ++ (tabR g T t GT ++ (dayR g SA sd SG ++ (tabR g ST st SGT ++ (padR g P p GP ++ ([slW g sl o.1 o.2] ++ [histW g hst arr xs5 G6])))))) : List va_W), (sh_8005 g x (A 0) (T 0) S (P 0) hst sl A d2 G3 T t GT S (SA 0) (ST 0) sv SA sd SG ST st SGT P p GP M m sl o hst arr xs5 G6 m11), ?_⟩
  refine y_icmp_eq (tgt := 745) C dL_law_740 rfl h (fun c740 h => ?_) (fun c740 h => ?_)
  · refine y_sub (lv' := [(0, .ref b), (1, .ref x), (2, .ref (M 0)), (3, .int x3)]) [0, 1, 2, 3] rfl ?_
    exact hX745 _ _ (by omega) (by omega) d2 t sv sd st p m11 o xs5 x3 G3 GT SG SGT GP G6 h
  · refine y_iconst (v := 0) C dL_law_743 (by decide) ?_
    exact h.elim
