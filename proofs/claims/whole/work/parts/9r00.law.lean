set_option maxHeartbeats 4000000 in
set_option maxRecDepth 100000 in
theorem lw_18 {Z : yZ} {g : yG} {R : Room} {k0 n0 b L x M0 : Nat} {sx : Nat → Int32} {W0 : List va_W} (C : yC Z g cL_law 4 wsL_law RL) (HX : ySc Z b L sx) {Xc : Nat → Prop} {x3 : Int32} (h : wl_18 L sx Xc x3) (K : ∀ t, Xc t → yJ Z R k0 n0 W0 t [(0, .ref b), (1, .ref x), (2, .ref M0), (3, .int x3)] []) : yJ Z R k0 n0 W0 18 [(0, .ref b), (1, .ref x), (2, .ref M0), (3, .int x3)] [] := by
  unfold wl_18 at h
  refine y_iload_n C dL_law_18 3 rfl rfl ?_
  refine y_aload_n C dL_law_19 0 rfl rfl ?_
  refine y_slen C HX dL_law_20 ?_
  refine y_bipush (v := 6) C dL_law_21 (by decide) ?_
  refine y_isub C dL_law_23 ?_
  refine y_icmp_gt (tgt := 751) C dL_law_24 rfl h (fun c24 h => ?_) (fun c24 h => ?_)
  · refine y_sub (lv' := [(0, .ref b), (1, .ref x), (2, .ref M0), (3, .int x3)]) [0, 1, 2, 3] rfl ?_
    exact K 751 h
  · refine y_aload_n C dL_law_27 0 rfl rfl ?_
    refine y_iload_n C dL_law_28 3 rfl rfl ?_
    obtain ⟨hb1, h⟩ := h
    refine y_sld C HX dL_law_29 hb1 ?_
    refine y_bipush (v := 31) C dL_law_30 (by decide) ?_
    refine y_iand C dL_law_32 ?_
    refine y_if h (fun c33_0 h => ?_) (fun c33_0 h => ?_)
    · refine y_tabIn (tgt := 132) C dL_law_33 c33_0 (by decide) (by decide) rfl rfl ?_
      refine y_sub (lv' := [(0, .ref b), (1, .ref x), (2, .ref M0), (3, .int x3)]) [0, 1, 2, 3] rfl ?_
      exact K 132 h
    refine y_if h (fun c33_1 h => ?_) (fun c33_1 h => ?_)
    · refine y_tabIn (tgt := 165) C dL_law_33 c33_1 (by decide) (by decide) rfl rfl ?_
      refine y_sub (lv' := [(0, .ref b), (1, .ref x), (2, .ref M0), (3, .int x3)]) [0, 1, 2, 3] rfl ?_
      exact K 165 h
    refine y_if h (fun c33_2 h => ?_) (fun c33_2 h => ?_)
    · refine y_tabIn (tgt := 198) C dL_law_33 c33_2 (by decide) (by decide) rfl rfl ?_
      refine y_sub (lv' := [(0, .ref b), (1, .ref x), (2, .ref M0), (3, .int x3)]) [0, 1, 2, 3] rfl ?_
      exact K 198 h
    refine y_if h (fun c33_3 h => ?_) (fun c33_3 h => ?_)
    · refine y_tabIn (tgt := 251) C dL_law_33 c33_3 (by decide) (by decide) rfl rfl ?_
      refine y_sub (lv' := [(0, .ref b), (1, .ref x), (2, .ref M0), (3, .int x3)]) [0, 1, 2, 3] rfl ?_
      exact K 251 h
    refine y_if h (fun c33_4 h => ?_) (fun c33_4 h => ?_)
    · refine y_tabIn (tgt := 274) C dL_law_33 c33_4 (by decide) (by decide) rfl rfl ?_
      refine y_sub (lv' := [(0, .ref b), (1, .ref x), (2, .ref M0), (3, .int x3)]) [0, 1, 2, 3] rfl ?_
      exact K 274 h
    refine y_if h (fun c33_5 h => ?_) (fun c33_5 h => ?_)
    · refine y_tabIn (tgt := 297) C dL_law_33 c33_5 (by decide) (by decide) rfl rfl ?_
      refine y_sub (lv' := [(0, .ref b), (1, .ref x), (2, .ref M0), (3, .int x3)]) [0, 1, 2, 3] rfl ?_
      exact K 297 h
    refine y_if h (fun c33_6 h => ?_) (fun c33_6 h => ?_)
    · refine y_tabIn (tgt := 320) C dL_law_33 c33_6 (by decide) (by decide) rfl rfl ?_
      refine y_sub (lv' := [(0, .ref b), (1, .ref x), (2, .ref M0), (3, .int x3)]) [0, 1, 2, 3] rfl ?_
      exact K 320 h
    refine y_if h (fun c33_7 h => ?_) (fun c33_7 h => ?_)
    · refine y_tabIn (tgt := 333) C dL_law_33 c33_7 (by decide) (by decide) rfl rfl ?_
      refine y_sub (lv' := [(0, .ref b), (1, .ref x), (2, .ref M0), (3, .int x3)]) [0, 1, 2, 3] rfl ?_
      exact K 333 h
    refine y_if h (fun c33_8 h => ?_) (fun c33_8 h => ?_)
    · refine y_tabIn (tgt := 366) C dL_law_33 c33_8 (by decide) (by decide) rfl rfl ?_
      refine y_sub (lv' := [(0, .ref b), (1, .ref x), (2, .ref M0), (3, .int x3)]) [0, 1, 2, 3] rfl ?_
      exact K 366 h
    refine y_if h (fun c33_9 h => ?_) (fun c33_9 h => ?_)
    · refine y_tabIn (tgt := 399) C dL_law_33 c33_9 (by decide) (by decide) rfl rfl ?_
      refine y_sub (lv' := [(0, .ref b), (1, .ref x), (2, .ref M0), (3, .int x3)]) [0, 1, 2, 3] rfl ?_
      exact K 399 h
    refine y_if h (fun c33_10 h => ?_) (fun c33_10 h => ?_)
    · refine y_tabIn (tgt := 432) C dL_law_33 c33_10 (by decide) (by decide) rfl rfl ?_
      refine y_sub (lv' := [(0, .ref b), (1, .ref x), (2, .ref M0), (3, .int x3)]) [0, 1, 2, 3] rfl ?_
      exact K 432 h
    refine y_if h (fun c33_11 h => ?_) (fun c33_11 h => ?_)
    · refine y_tabIn (tgt := 455) C dL_law_33 c33_11 (by decide) (by decide) rfl rfl ?_
      refine y_sub (lv' := [(0, .ref b), (1, .ref x), (2, .ref M0), (3, .int x3)]) [0, 1, 2, 3] rfl ?_
      exact K 455 h
    refine y_if h (fun c33_12 h => ?_) (fun c33_12 h => ?_)
    · refine y_tabIn (tgt := 518) C dL_law_33 c33_12 (by decide) (by decide) rfl rfl ?_
      refine y_sub (lv' := [(0, .ref b), (1, .ref x), (2, .ref M0), (3, .int x3)]) [0, 1, 2, 3] rfl ?_
      exact K 518 h
    refine y_if h (fun c33_13 h => ?_) (fun c33_13 h => ?_)
    · refine y_tabIn (tgt := 561) C dL_law_33 c33_13 (by decide) (by decide) rfl rfl ?_
      refine y_sub (lv' := [(0, .ref b), (1, .ref x), (2, .ref M0), (3, .int x3)]) [0, 1, 2, 3] rfl ?_
      exact K 561 h
    refine y_if h (fun c33_14 h => ?_) (fun c33_14 h => ?_)
    · refine y_tabIn (tgt := 584) C dL_law_33 c33_14 (by decide) (by decide) rfl rfl ?_
      refine y_sub (lv' := [(0, .ref b), (1, .ref x), (2, .ref M0), (3, .int x3)]) [0, 1, 2, 3] rfl ?_
      exact K 584 h
    refine y_if h (fun c33_15 h => ?_) (fun c33_15 h => ?_)
    · refine y_tabIn (tgt := 607) C dL_law_33 c33_15 (by decide) (by decide) rfl rfl ?_
      refine y_sub (lv' := [(0, .ref b), (1, .ref x), (2, .ref M0), (3, .int x3)]) [0, 1, 2, 3] rfl ?_
      exact K 607 h
    refine y_if h (fun c33_16 h => ?_) (fun c33_16 h => ?_)
    · refine y_tabIn (tgt := 660) C dL_law_33 c33_16 (by decide) (by decide) rfl rfl ?_
      refine y_sub (lv' := [(0, .ref b), (1, .ref x), (2, .ref M0), (3, .int x3)]) [0, 1, 2, 3] rfl ?_
      exact K 660 h
    refine y_if h (fun c33_17 h => ?_) (fun c33_17 h => ?_)
    · refine y_tabIn (tgt := 673) C dL_law_33 c33_17 (by decide) (by decide) rfl rfl ?_
      refine y_sub (lv' := [(0, .ref b), (1, .ref x), (2, .ref M0), (3, .int x3)]) [0, 1, 2, 3] rfl ?_
      exact K 673 h
    refine y_if h (fun c33_18 h => ?_) (fun c33_18 h => ?_)
    · refine y_tabIn (tgt := 686) C dL_law_33 c33_18 (by decide) (by decide) rfl rfl ?_
      refine y_sub (lv' := [(0, .ref b), (1, .ref x), (2, .ref M0), (3, .int x3)]) [0, 1, 2, 3] rfl ?_
      exact K 686 h
    refine y_if h (fun c33_19 h => ?_) (fun c33_19 h => ?_)
    · refine y_tabIn (tgt := 699) C dL_law_33 c33_19 (by decide) (by decide) rfl rfl ?_
      refine y_sub (lv' := [(0, .ref b), (1, .ref x), (2, .ref M0), (3, .int x3)]) [0, 1, 2, 3] rfl ?_
      exact K 699 h
    refine y_if h (fun c33_20 h => ?_) (fun c33_20 h => ?_)
    · refine y_tabIn (tgt := 722) C dL_law_33 c33_20 (by decide) (by decide) rfl rfl ?_
      refine y_sub (lv' := [(0, .ref b), (1, .ref x), (2, .ref M0), (3, .int x3)]) [0, 1, 2, 3] rfl ?_
      exact K 722 h
    refine y_tabOut (tgt := 745) C dL_law_33 (by have q0 := lv_neT c33_0 (show (0 : Int32).toInt = 0 by decide); have q1 := lv_neT c33_1 (show (1 : Int32).toInt = 1 by decide); have q2 := lv_neT c33_2 (show (2 : Int32).toInt = 2 by decide); have q3 := lv_neT c33_3 (show (3 : Int32).toInt = 3 by decide); have q4 := lv_neT c33_4 (show (4 : Int32).toInt = 4 by decide); have q5 := lv_neT c33_5 (show (5 : Int32).toInt = 5 by decide); have q6 := lv_neT c33_6 (show (6 : Int32).toInt = 6 by decide); have q7 := lv_neT c33_7 (show (7 : Int32).toInt = 7 by decide); have q8 := lv_neT c33_8 (show (8 : Int32).toInt = 8 by decide); have q9 := lv_neT c33_9 (show (9 : Int32).toInt = 9 by decide); have q10 := lv_neT c33_10 (show (10 : Int32).toInt = 10 by decide); have q11 := lv_neT c33_11 (show (11 : Int32).toInt = 11 by decide); have q12 := lv_neT c33_12 (show (12 : Int32).toInt = 12 by decide); have q13 := lv_neT c33_13 (show (13 : Int32).toInt = 13 by decide); have q14 := lv_neT c33_14 (show (14 : Int32).toInt = 14 by decide); have q15 := lv_neT c33_15 (show (15 : Int32).toInt = 15 by decide); have q16 := lv_neT c33_16 (show (16 : Int32).toInt = 16 by decide); have q17 := lv_neT c33_17 (show (17 : Int32).toInt = 17 by decide); have q18 := lv_neT c33_18 (show (18 : Int32).toInt = 18 by decide); have q19 := lv_neT c33_19 (show (19 : Int32).toInt = 19 by decide); have q20 := lv_neT c33_20 (show (20 : Int32).toInt = 20 by decide); omega) rfl ?_
    refine y_sub (lv' := [(0, .ref b), (1, .ref x), (2, .ref M0), (3, .int x3)]) [0, 1, 2, 3] rfl ?_
    exact K 745 h
set_option maxHeartbeats 4000000 in
set_option maxRecDepth 100000 in
theorem lw_132 {Z : yZ} {g : yG} (x S hst arr sl : Nat) (A T SA ST P M : Nat → Nat) {k0 n0 b L : Nat} {sx : Nat → Int32} (C : yC Z g cL_law 4 wsL_law RL) (HX : ySc Z b L sx) (hk : k0 + 25 ≤ 600000) (hn : n0 + 236 ≤ 7302249) {X745 : RV → RV → RV → RV → RV → RV → MV → SL × SL → List RV → Int32 → Prop}  (hX745 : ∀ k1 n1, k1 ≤ k0 + 25 → n1 ≤ n0 + 236 → ∀ (d t sv sd st p : RV) (m : MV) (o : SL × SL) (xs : List RV) (x3 : Int32) (G GT SG SGT GP : Nat → Nat → Int32) (R : HRt), X745 d t sv sd st p m o xs x3 → yJ Z room_1 k1 n1 ([mnC x (A 0) (T 0) S (P 0) hst sl, dayC A d, tabC T t, seaC S (SA 0) (ST 0) sv, dayC SA sd, tabC ST st, padC P p, modW g M m] ++ (dayR g A d G ++ (tabR g T t GT ++ (dayR g SA sd SG ++ (tabR g ST st SGT ++ (padR g P p GP ++ ([slW g sl o.1 o.2] ++ [histW g hst arr xs R])))))) : List va_W) 745 [(0, .ref b), (1, .ref x), (2, .ref (M 0)), (3, .int x3)] []) (d t sv sd st p : RV) (m : MV) (o : SL × SL) (xs : List RV) (x3 : Int32) (G GT SG SGT GP : Nat → Nat → Int32) (R : HRt) (h : wl_132 L sx X745 d t sv sd st p m o xs x3) : yJ Z room_1 k0 n0 ([mnC x (A 0) (T 0) S (P 0) hst sl, dayC A d, tabC T t, seaC S (SA 0) (ST 0) sv, dayC SA sd, tabC ST st, padC P p, modW g M m] ++ (dayR g A d G ++ (tabR g T t GT ++ (dayR g SA sd SG ++ (tabR g ST st SGT ++ (padR g P p GP ++ ([slW g sl o.1 o.2] ++ [histW g hst arr xs R])))))) : List va_W) 132 [(0, .ref b), (1, .ref x), (2, .ref (M 0)), (3, .int x3)] [] := by
  unfold wl_132 at h
  refine y_aload_n C dL_law_132 1 rfl rfl ?_
  refine y_aload_n C dL_law_133 0 rfl rfl ?_
  refine y_iload_n C dL_law_134 3 rfl rfl ?_
  refine y_iconst (v := 1) C dL_law_135 (by decide) ?_
  refine y_iadd C dL_law_136 ?_
  obtain ⟨hb1, h⟩ := h
  refine y_sld C HX dL_law_137 hb1 ?_
  refine y_aload_n C dL_law_138 0 rfl rfl ?_
  refine y_iload_n C dL_law_139 3 rfl rfl ?_
  refine y_iconst (v := 2) C dL_law_140 (by decide) ?_
  refine y_iadd C dL_law_141 ?_
  obtain ⟨hb2, h⟩ := h
  refine y_sld C HX dL_law_142 hb2 ?_
  refine y_callV (As := [.int (sx (x3 + (1 : Int32)).toNatClampNeg), .int (sx (x3 + (2 : Int32)).toNatClampNeg)]) (rest := []) C dL_law_143 (c_X6_set g x (T 0) S (P 0) sl A d G hst arr xs R (sx (x3 + (1 : Int32)).toNatClampNeg) (sx (x3 + (2 : Int32)).toNatClampNeg)) rfl rfl rfl rfl ⟨Nat.le_of_ble_eq_true rfl, Nat.le_of_ble_eq_true rfl⟩ gL_law_X6_set (nA := 2) (by decide +kernel) rfl (sh_8001 g x (A 0) (T 0) S (P 0) hst sl A d G hst arr xs R) (Nat.le_of_ble_eq_true rfl) ⟨by rw [lw_rc]; omega, by rw [lw_rs]; omega⟩ [0, 1, 8, 9, 10, 11, 12, 13, 14, 15, 16, 17, 18, 19, 45] [2, 3, 4, 5, 6, 7, 20, 21, 22, 23, 24, 25, 26, 27, 28, 29, 30, 31, 32, 33, 34, 35, 36, 37, 38, 39, 40, 41, 42, 43, 44] (nB := 46) rfl (by decide +kernel) (sh_8000 g x (A 0) (T 0) S (P 0) hst sl A d G T t GT S (SA 0) (ST 0) sv SA sd SG ST st SGT P p GP M m sl o hst arr xs R) (fun r9 w9 hw => ?_)
  obtain ⟨er9, d3, xs6, G4, G7, e5, e8, rfl⟩ := hw
  have h := y_letP h er9
  have h := y_letP h e5
  have h := y_letP h e8
  refine ⟨([mnC x (A 0) (T 0) S (P 0) hst sl, dayC A d3, tabC T t, seaC S (SA 0) (ST 0) sv, dayC SA sd, tabC ST st, padC P p, modW g M m] ++ (dayR g A d3 G4 ++ (tabR g T t GT ++ (dayR g SA sd SG ++ (tabR g ST st SGT ++ (padR g P p GP ++ ([slW g sl o.1 o.2] ++ [histW g hst arr xs6 G7])))))) : List va_W), (sh_8002 g x (A 0) (T 0) S (P 0) hst sl A d G T t GT S (SA 0) (ST 0) sv SA sd SG ST st SGT P p GP M m sl o hst arr xs R d3 G4 xs6 G7), ?_⟩
  refine y_aload_n C dL_law_146 2 rfl rfl ?_
  refine y_aload_n C dL_law_147 0 rfl rfl ?_
  refine y_iload_n C dL_law_148 3 rfl rfl ?_
  refine y_iconst (v := 1) C dL_law_149 (by decide) ?_
  refine y_iadd C dL_law_150 ?_
  obtain ⟨hb10, h⟩ := h
  refine y_sld C HX dL_law_151 hb10 ?_
  refine y_aload_n C dL_law_152 0 rfl rfl ?_
  refine y_iload_n C dL_law_153 3 rfl rfl ?_
  refine y_iconst (v := 2) C dL_law_154 (by decide) ?_
  refine y_iadd C dL_law_155 ?_
  obtain ⟨hb11, h⟩ := h
  refine y_sld C HX dL_law_156 hb11 ?_
  refine y_callV (As := [.int (sx (x3 + (1 : Int32)).toNatClampNeg), .int (sx (x3 + (2 : Int32)).toNatClampNeg)]) (rest := [.int r9]) C dL_law_157 (u_X7_set g M m (sx (x3 + (1 : Int32)).toNatClampNeg) (sx (x3 + (2 : Int32)).toNatClampNeg) h) rfl rfl rfl rfl ⟨Nat.le_of_ble_eq_true rfl, Nat.le_of_ble_eq_true rfl⟩ gL_law_X7_set (nA := 2) (by decide +kernel) rfl (sh_8004 g M m) (Nat.le_of_ble_eq_true rfl) ⟨by rw [lw_rc]; omega, by rw [lw_rs]; omega⟩ [7] [0, 1, 2, 3, 4, 5, 6, 8, 9, 10, 11, 12, 13, 14, 15, 16, 17, 18, 19, 20, 21, 22, 23, 24, 25, 26, 27, 28, 29, 30, 31, 32, 33, 34, 35, 36, 37, 38, 39, 40, 41, 42, 43, 44, 45] (nB := 46) rfl (by decide +kernel) (sh_8003 g x (A 0) (T 0) S (P 0) hst sl A d3 G4 T t GT S (SA 0) (ST 0) sv SA sd SG ST st SGT P p GP M m sl o hst arr xs6 G7) (fun r14 w9 hw => ?_)
  obtain ⟨m12, h, rfl⟩ := hw
  refine ⟨([mnC x (A 0) (T 0) S (P 0) hst sl, dayC A d3, tabC T t, seaC S (SA 0) (ST 0) sv, dayC SA sd, tabC ST st, padC P p, modW g M m12] ++ (dayR g A d3 G4 ++ (tabR g T t GT ++ (dayR g SA sd SG ++ (tabR g ST st SGT ++ (padR g P p GP ++ ([slW g sl o.1 o.2] ++ [histW g hst arr xs6 G7])))))) : List va_W), (sh_8005 g x (A 0) (T 0) S (P 0) hst sl A d3 G4 T t GT S (SA 0) (ST 0) sv SA sd SG ST st SGT P p GP M m sl o hst arr xs6 G7 m12), ?_⟩
  refine y_icmp_eq (tgt := 745) C dL_law_160 rfl h (fun c160 h => ?_) (fun c160 h => ?_)
  · refine y_sub (lv' := [(0, .ref b), (1, .ref x), (2, .ref (M 0)), (3, .int x3)]) [0, 1, 2, 3] rfl ?_
    exact hX745 _ _ (by omega) (by omega) d3 t sv sd st p m12 o xs6 x3 G4 GT SG SGT GP G7 h
  · refine y_iconst (v := 0) C dL_law_163 (by decide) ?_
    exact h.elim
set_option maxHeartbeats 4000000 in
set_option maxRecDepth 100000 in
theorem lw_165 {Z : yZ} {g : yG} (x S hst arr sl : Nat) (A T SA ST P M : Nat → Nat) {k0 n0 b L : Nat} {sx : Nat → Int32} (C : yC Z g cL_law 4 wsL_law RL) (HX : ySc Z b L sx) (hk : k0 + 25 ≤ 600000) (hn : n0 + 236 ≤ 7302249) {X745 : RV → RV → RV → RV → RV → RV → MV → SL × SL → List RV → Int32 → Prop}  (hX745 : ∀ k1 n1, k1 ≤ k0 + 25 → n1 ≤ n0 + 236 → ∀ (d t sv sd st p : RV) (m : MV) (o : SL × SL) (xs : List RV) (x3 : Int32) (G GT SG SGT GP : Nat → Nat → Int32) (R : HRt), X745 d t sv sd st p m o xs x3 → yJ Z room_1 k1 n1 ([mnC x (A 0) (T 0) S (P 0) hst sl, dayC A d, tabC T t, seaC S (SA 0) (ST 0) sv, dayC SA sd, tabC ST st, padC P p, modW g M m] ++ (dayR g A d G ++ (tabR g T t GT ++ (dayR g SA sd SG ++ (tabR g ST st SGT ++ (padR g P p GP ++ ([slW g sl o.1 o.2] ++ [histW g hst arr xs R])))))) : List va_W) 745 [(0, .ref b), (1, .ref x), (2, .ref (M 0)), (3, .int x3)] []) (d t sv sd st p : RV) (m : MV) (o : SL × SL) (xs : List RV) (x3 : Int32) (G GT SG SGT GP : Nat → Nat → Int32) (R : HRt) (h : wl_165 L sx X745 d t sv sd st p m o xs x3) : yJ Z room_1 k0 n0 ([mnC x (A 0) (T 0) S (P 0) hst sl, dayC A d, tabC T t, seaC S (SA 0) (ST 0) sv, dayC SA sd, tabC ST st, padC P p, modW g M m] ++ (dayR g A d G ++ (tabR g T t GT ++ (dayR g SA sd SG ++ (tabR g ST st SGT ++ (padR g P p GP ++ ([slW g sl o.1 o.2] ++ [histW g hst arr xs R])))))) : List va_W) 165 [(0, .ref b), (1, .ref x), (2, .ref (M 0)), (3, .int x3)] [] := by
  unfold wl_165 at h
  refine y_aload_n C dL_law_165 1 rfl rfl ?_
  refine y_aload_n C dL_law_166 0 rfl rfl ?_
  refine y_iload_n C dL_law_167 3 rfl rfl ?_
  refine y_iconst (v := 1) C dL_law_168 (by decide) ?_
  refine y_iadd C dL_law_169 ?_
  obtain ⟨hb1, h⟩ := h
  refine y_sld C HX dL_law_170 hb1 ?_
  refine y_aload_n C dL_law_171 0 rfl rfl ?_
  refine y_iload_n C dL_law_172 3 rfl rfl ?_
  refine y_iconst (v := 2) C dL_law_173 (by decide) ?_
  refine y_iadd C dL_law_174 ?_
  obtain ⟨hb2, h⟩ := h
  refine y_sld C HX dL_law_175 hb2 ?_
  refine y_callV (As := [.int (sx (x3 + (1 : Int32)).toNatClampNeg), .int (sx (x3 + (2 : Int32)).toNatClampNeg)]) (rest := []) C dL_law_176 (c_X6_stop g x (T 0) S (P 0) sl A d G hst arr xs R (sx (x3 + (1 : Int32)).toNatClampNeg) (sx (x3 + (2 : Int32)).toNatClampNeg)) rfl rfl rfl rfl ⟨Nat.le_of_ble_eq_true rfl, Nat.le_of_ble_eq_true rfl⟩ gL_law_X6_stop (nA := 2) (by decide +kernel) rfl (sh_8001 g x (A 0) (T 0) S (P 0) hst sl A d G hst arr xs R) (Nat.le_of_ble_eq_true rfl) ⟨by rw [lw_rc]; omega, by rw [lw_rs]; omega⟩ [0, 1, 8, 9, 10, 11, 12, 13, 14, 15, 16, 17, 18, 19, 45] [2, 3, 4, 5, 6, 7, 20, 21, 22, 23, 24, 25, 26, 27, 28, 29, 30, 31, 32, 33, 34, 35, 36, 37, 38, 39, 40, 41, 42, 43, 44] (nB := 46) rfl (by decide +kernel) (sh_8006 g x (A 0) (T 0) S (P 0) hst sl A d G T t GT S (SA 0) (ST 0) sv SA sd SG ST st SGT P p GP M m sl o hst arr xs R) (fun r9 w9 hw => ?_)
  obtain ⟨er9, d3, xs6, G4, G7, e5, e8, rfl⟩ := hw
  have h := y_letP h er9
  have h := y_letP h e5
  have h := y_letP h e8
  refine ⟨([mnC x (A 0) (T 0) S (P 0) hst sl, dayC A d3, tabC T t, seaC S (SA 0) (ST 0) sv, dayC SA sd, tabC ST st, padC P p, modW g M m] ++ (dayR g A d3 G4 ++ (tabR g T t GT ++ (dayR g SA sd SG ++ (tabR g ST st SGT ++ (padR g P p GP ++ ([slW g sl o.1 o.2] ++ [histW g hst arr xs6 G7])))))) : List va_W), (sh_8007 g x (A 0) (T 0) S (P 0) hst sl A d G T t GT S (SA 0) (ST 0) sv SA sd SG ST st SGT P p GP M m sl o hst arr xs R d3 G4 xs6 G7), ?_⟩
  refine y_aload_n C dL_law_179 2 rfl rfl ?_
  refine y_aload_n C dL_law_180 0 rfl rfl ?_
  refine y_iload_n C dL_law_181 3 rfl rfl ?_
  refine y_iconst (v := 1) C dL_law_182 (by decide) ?_
  refine y_iadd C dL_law_183 ?_
  obtain ⟨hb10, h⟩ := h
  refine y_sld C HX dL_law_184 hb10 ?_
  refine y_aload_n C dL_law_185 0 rfl rfl ?_
  refine y_iload_n C dL_law_186 3 rfl rfl ?_
  refine y_iconst (v := 2) C dL_law_187 (by decide) ?_
  refine y_iadd C dL_law_188 ?_
  obtain ⟨hb11, h⟩ := h
  refine y_sld C HX dL_law_189 hb11 ?_
  refine y_callV (As := [.int (sx (x3 + (1 : Int32)).toNatClampNeg), .int (sx (x3 + (2 : Int32)).toNatClampNeg)]) (rest := [.int r9]) C dL_law_190 (u_X7_stop g M m (sx (x3 + (1 : Int32)).toNatClampNeg) (sx (x3 + (2 : Int32)).toNatClampNeg) h) rfl rfl rfl rfl ⟨Nat.le_of_ble_eq_true rfl, Nat.le_of_ble_eq_true rfl⟩ gL_law_X7_stop (nA := 2) (by decide +kernel) rfl (sh_8004 g M m) (Nat.le_of_ble_eq_true rfl) ⟨by rw [lw_rc]; omega, by rw [lw_rs]; omega⟩ [7] [0, 1, 2, 3, 4, 5, 6, 8, 9, 10, 11, 12, 13, 14, 15, 16, 17, 18, 19, 20, 21, 22, 23, 24, 25, 26, 27, 28, 29, 30, 31, 32, 33, 34, 35, 36, 37, 38, 39, 40, 41, 42, 43, 44, 45] (nB := 46) rfl (by decide +kernel) (sh_8003 g x (A 0) (T 0) S (P 0) hst sl A d3 G4 T t GT S (SA 0) (ST 0) sv SA sd SG ST st SGT P p GP M m sl o hst arr xs6 G7) (fun r14 w9 hw => ?_)
  obtain ⟨m12, h, rfl⟩ := hw
  refine ⟨([mnC x (A 0) (T 0) S (P 0) hst sl, dayC A d3, tabC T t, seaC S (SA 0) (ST 0) sv, dayC SA sd, tabC ST st, padC P p, modW g M m12] ++ (dayR g A d3 G4 ++ (tabR g T t GT ++ (dayR g SA sd SG ++ (tabR g ST st SGT ++ (padR g P p GP ++ ([slW g sl o.1 o.2] ++ [histW g hst arr xs6 G7])))))) : List va_W), (sh_8005 g x (A 0) (T 0) S (P 0) hst sl A d3 G4 T t GT S (SA 0) (ST 0) sv SA sd SG ST st SGT P p GP M m sl o hst arr xs6 G7 m12), ?_⟩
  refine y_icmp_eq (tgt := 745) C dL_law_193 rfl h (fun c193 h => ?_) (fun c193 h => ?_)
  · refine y_sub (lv' := [(0, .ref b), (1, .ref x), (2, .ref (M 0)), (3, .int x3)]) [0, 1, 2, 3] rfl ?_
    exact hX745 _ _ (by omega) (by omega) d3 t sv sd st p m12 o xs6 x3 G4 GT SG SGT GP G7 h
  · refine y_iconst (v := 0) C dL_law_196 (by decide) ?_
    exact h.elim
set_option maxHeartbeats 4000000 in
set_option maxRecDepth 100000 in
theorem lw_198 {Z : yZ} {g : yG} (x S hst arr sl : Nat) (A T SA ST P M : Nat → Nat) {k0 n0 b L : Nat} {sx : Nat → Int32} (C : yC Z g cL_law 4 wsL_law RL) (HX : ySc Z b L sx) (hk : k0 + 25 ≤ 600000) (hn : n0 + 236 ≤ 7302249) {X745 : RV → RV → RV → RV → RV → RV → MV → SL × SL → List RV → Int32 → Prop}  (hX745 : ∀ k1 n1, k1 ≤ k0 + 25 → n1 ≤ n0 + 236 → ∀ (d t sv sd st p : RV) (m : MV) (o : SL × SL) (xs : List RV) (x3 : Int32) (G GT SG SGT GP : Nat → Nat → Int32) (R : HRt), X745 d t sv sd st p m o xs x3 → yJ Z room_1 k1 n1 ([mnC x (A 0) (T 0) S (P 0) hst sl, dayC A d, tabC T t, seaC S (SA 0) (ST 0) sv, dayC SA sd, tabC ST st, padC P p, modW g M m] ++ (dayR g A d G ++ (tabR g T t GT ++ (dayR g SA sd SG ++ (tabR g ST st SGT ++ (padR g P p GP ++ ([slW g sl o.1 o.2] ++ [histW g hst arr xs R])))))) : List va_W) 745 [(0, .ref b), (1, .ref x), (2, .ref (M 0)), (3, .int x3)] []) (d t sv sd st p : RV) (m : MV) (o : SL × SL) (xs : List RV) (x3 : Int32) (G GT SG SGT GP : Nat → Nat → Int32) (R : HRt) (h : wl_198 L sx X745 d t sv sd st p m o xs x3) : yJ Z room_1 k0 n0 ([mnC x (A 0) (T 0) S (P 0) hst sl, dayC A d, tabC T t, seaC S (SA 0) (ST 0) sv, dayC SA sd, tabC ST st, padC P p, modW g M m] ++ (dayR g A d G ++ (tabR g T t GT ++ (dayR g SA sd SG ++ (tabR g ST st SGT ++ (padR g P p GP ++ ([slW g sl o.1 o.2] ++ [histW g hst arr xs R])))))) : List va_W) 198 [(0, .ref b), (1, .ref x), (2, .ref (M 0)), (3, .int x3)] [] := by
  unfold wl_198 at h
  refine y_aload_n C dL_law_198 1 rfl rfl ?_
  refine y_aload_n C dL_law_199 0 rfl rfl ?_
  refine y_iload_n C dL_law_200 3 rfl rfl ?_
  refine y_iconst (v := 1) C dL_law_201 (by decide) ?_
  refine y_iadd C dL_law_202 ?_
  obtain ⟨hb1, h⟩ := h
  refine y_sld C HX dL_law_203 hb1 ?_
  refine y_aload_n C dL_law_204 0 rfl rfl ?_
  refine y_iload_n C dL_law_205 3 rfl rfl ?_
  refine y_iconst (v := 2) C dL_law_206 (by decide) ?_
  refine y_iadd C dL_law_207 ?_
  obtain ⟨hb2, h⟩ := h
  refine y_sld C HX dL_law_208 hb2 ?_
  refine y_aload_n C dL_law_209 0 rfl rfl ?_
  refine y_iload_n C dL_law_210 3 rfl rfl ?_
  refine y_iconst (v := 3) C dL_law_211 (by decide) ?_
  refine y_iadd C dL_law_212 ?_
  obtain ⟨hb3, h⟩ := h
  refine y_sld C HX dL_law_213 hb3 ?_
  refine y_aload_n C dL_law_214 0 rfl rfl ?_
  refine y_iload_n C dL_law_215 3 rfl rfl ?_
  refine y_iconst (v := 4) C dL_law_216 (by decide) ?_
  refine y_iadd C dL_law_217 ?_
  obtain ⟨hb4, h⟩ := h
  refine y_sld C HX dL_law_218 hb4 ?_
  refine y_callV (As := [.int (sx (x3 + (1 : Int32)).toNatClampNeg), .int (sx (x3 + (2 : Int32)).toNatClampNeg), .int (sx (x3 + (3 : Int32)).toNatClampNeg), .int (sx (x3 + (4 : Int32)).toNatClampNeg)]) (rest := []) C dL_law_219 (c_X6_book g x (T 0) (P 0) sl A d G S sv SA sd SG ST st SGT hst arr xs R (sx (x3 + (1 : Int32)).toNatClampNeg) (sx (x3 + (2 : Int32)).toNatClampNeg) (sx (x3 + (3 : Int32)).toNatClampNeg) (sx (x3 + (4 : Int32)).toNatClampNeg)) rfl rfl rfl rfl ⟨Nat.le_of_ble_eq_true rfl, Nat.le_of_ble_eq_true rfl⟩ gL_law_X6_book (nA := 4) (by decide +kernel) rfl (sh_8009 g x (A 0) (T 0) S (P 0) hst sl A d G S (SA 0) (ST 0) sv SA sd SG ST st SGT hst arr xs R) (Nat.le_of_ble_eq_true rfl) ⟨by rw [lw_rc]; omega, by rw [lw_rs]; omega⟩ [0, 1, 3, 4, 5, 8, 9, 10, 11, 12, 13, 14, 15, 16, 17, 18, 19, 25, 26, 27, 28, 29, 30, 31, 32, 33, 34, 35, 36, 37, 38, 39, 40, 41, 45] [2, 6, 7, 20, 21, 22, 23, 24, 42, 43, 44] (nB := 46) rfl (by decide +kernel) (sh_8008 g x (A 0) (T 0) S (P 0) hst sl A d G T t GT S (SA 0) (ST 0) sv SA sd SG ST st SGT P p GP M m sl o hst arr xs R) (fun r19 w9 hw => ?_)
  obtain ⟨er19, d5, sv8, sd10, st13, xs16, G6, G11, G14, G17, e7, e9, e12, e15, e18, rfl⟩ := hw
  have h := y_letP h er19
  have h := y_letP h e7
  have h := y_letP h e9
  have h := y_letP h e12
  have h := y_letP h e15
  have h := y_letP h e18
  refine ⟨([mnC x (A 0) (T 0) S (P 0) hst sl, dayC A d5, tabC T t, seaC S (SA 0) (ST 0) sv8, dayC SA sd10, tabC ST st13, padC P p, modW g M m] ++ (dayR g A d5 G6 ++ (tabR g T t GT ++ (dayR g SA sd10 G11 ++ (tabR g ST st13 G14 ++ (padR g P p GP ++ ([slW g sl o.1 o.2] ++ [histW g hst arr xs16 G17])))))) : List va_W), (sh_8010 g x (A 0) (T 0) S (P 0) hst sl A d G T t GT S (SA 0) (ST 0) sv SA sd SG ST st SGT P p GP M m sl o hst arr xs R d5 G6 sv8 sd10 G11 st13 G14 xs16 G17), ?_⟩
  refine y_aload_n C dL_law_222 2 rfl rfl ?_
  refine y_aload_n C dL_law_223 0 rfl rfl ?_
  refine y_iload_n C dL_law_224 3 rfl rfl ?_
  refine y_iconst (v := 1) C dL_law_225 (by decide) ?_
  refine y_iadd C dL_law_226 ?_
  obtain ⟨hb20, h⟩ := h
  refine y_sld C HX dL_law_227 hb20 ?_
  refine y_aload_n C dL_law_228 0 rfl rfl ?_
  refine y_iload_n C dL_law_229 3 rfl rfl ?_
  refine y_iconst (v := 2) C dL_law_230 (by decide) ?_
  refine y_iadd C dL_law_231 ?_
  obtain ⟨hb21, h⟩ := h
  refine y_sld C HX dL_law_232 hb21 ?_
  refine y_aload_n C dL_law_233 0 rfl rfl ?_
  refine y_iload_n C dL_law_234 3 rfl rfl ?_
  refine y_iconst (v := 3) C dL_law_235 (by decide) ?_
  refine y_iadd C dL_law_236 ?_
  obtain ⟨hb22, h⟩ := h
  refine y_sld C HX dL_law_237 hb22 ?_
  refine y_aload_n C dL_law_238 0 rfl rfl ?_
  refine y_iload_n C dL_law_239 3 rfl rfl ?_
  refine y_iconst (v := 4) C dL_law_240 (by decide) ?_
  refine y_iadd C dL_law_241 ?_
  obtain ⟨hb23, h⟩ := h
  refine y_sld C HX dL_law_242 hb23 ?_
  refine y_callV (As := [.int (sx (x3 + (1 : Int32)).toNatClampNeg), .int (sx (x3 + (2 : Int32)).toNatClampNeg), .int (sx (x3 + (3 : Int32)).toNatClampNeg), .int (sx (x3 + (4 : Int32)).toNatClampNeg)]) (rest := [.int r19]) C dL_law_243 (u_X7_book g M m (sx (x3 + (1 : Int32)).toNatClampNeg) (sx (x3 + (2 : Int32)).toNatClampNeg) (sx (x3 + (3 : Int32)).toNatClampNeg) (sx (x3 + (4 : Int32)).toNatClampNeg) h) rfl rfl rfl rfl ⟨Nat.le_of_ble_eq_true rfl, Nat.le_of_ble_eq_true rfl⟩ gL_law_X7_book (nA := 4) (by decide +kernel) rfl (sh_8004 g M m) (Nat.le_of_ble_eq_true rfl) ⟨by rw [lw_rc]; omega, by rw [lw_rs]; omega⟩ [7] [0, 1, 2, 3, 4, 5, 6, 8, 9, 10, 11, 12, 13, 14, 15, 16, 17, 18, 19, 20, 21, 22, 23, 24, 25, 26, 27, 28, 29, 30, 31, 32, 33, 34, 35, 36, 37, 38, 39, 40, 41, 42, 43, 44, 45] (nB := 46) rfl (by decide +kernel) (sh_8003 g x (A 0) (T 0) S (P 0) hst sl A d5 G6 T t GT S (SA 0) (ST 0) sv8 SA sd10 G11 ST st13 G14 P p GP M m sl o hst arr xs16 G17) (fun r26 w9 hw => ?_)
  obtain ⟨m24, h, rfl⟩ := hw
  refine ⟨([mnC x (A 0) (T 0) S (P 0) hst sl, dayC A d5, tabC T t, seaC S (SA 0) (ST 0) sv8, dayC SA sd10, tabC ST st13, padC P p, modW g M m24] ++ (dayR g A d5 G6 ++ (tabR g T t GT ++ (dayR g SA sd10 G11 ++ (tabR g ST st13 G14 ++ (padR g P p GP ++ ([slW g sl o.1 o.2] ++ [histW g hst arr xs16 G17])))))) : List va_W), (sh_8005 g x (A 0) (T 0) S (P 0) hst sl A d5 G6 T t GT S (SA 0) (ST 0) sv8 SA sd10 G11 ST st13 G14 P p GP M m sl o hst arr xs16 G17 m24), ?_⟩
  refine y_icmp_eq (tgt := 745) C dL_law_246 rfl h (fun c246 h => ?_) (fun c246 h => ?_)
  · refine y_sub (lv' := [(0, .ref b), (1, .ref x), (2, .ref (M 0)), (3, .int x3)]) [0, 1, 2, 3] rfl ?_
    exact hX745 _ _ (by omega) (by omega) d5 t sv8 sd10 st13 p m24 o xs16 x3 G6 GT G11 G14 GP G17 h
  · refine y_iconst (v := 0) C dL_law_249 (by decide) ?_
    exact h.elim
