set_option maxHeartbeats 4000000 in
set_option maxRecDepth 100000 in
theorem lw_8 {Z : yZ} {g : yG} (x S hst arr sl : Nat) (A T SA ST P : Nat → Nat) {k0 n0 b L : Nat} {sx : Nat → Int32} (hLb : L < 2147483648) (C : yC Z g cL_law 14 wsL_law RL) (HX : ySc Z b L sx) (hk : k0 + 50 ≤ 600000) (hn : n0 + 472 ≤ 7302250) (HR1 : ∀ (k n : Nat) (W0 : List va_W) (lv : List (Nat × Value)), k ≤ 600000 → n ≤ 7302250 → yJ Z room_1 k n W0 330 lv [.int 1]) {X45 : RV → RV → RV → RV → RV → RV → SL × SL → List RV → Int64 → Int32 → Prop} (hX45 : ∀ k1 n1, k1 ≤ k0 + 50 → n1 ≤ n0 + 472 → ∀ (d t sv sd st p : RV) (o : SL × SL) (xs : List RV) (x2 : Int64) (x4 : Int32) (G GT SG SGT GP : Nat → Nat → Int32) (R : List ((Nat → Nat) × RV × (Nat → Nat → Int32))), X45 d t sv sd st p o xs x2 x4 → yJ Z room_1 k1 n1 ([mnC x (A 0) (T 0) S (P 0) hst sl, dayC A d, tabC T t, seaC S (SA 0) (ST 0) sv, dayC SA sd, tabC ST st, padC P p] ++ (dayR g A d G ++ (tabR g T t GT ++ (dayR g SA sd SG ++ (tabR g ST st SGT ++ (padR g P p GP ++ ([slW g sl o.1 o.2] ++ [histW g hst arr xs R])))))) : List va_W) 45 [(0, .ref b), (1, .ref x), (2, .long x2), (4, .int x4)] []) (d t sv sd st p : RV) (o : SL × SL) (xs : List RV)  (G GT SG SGT GP : Nat → Nat → Int32) (R : List ((Nat → Nat) × RV × (Nat → Nat → Int32))) (h : wl_8 L sx X45 d t sv sd st p o xs ) : yJ Z room_1 k0 n0 ([mnC x (A 0) (T 0) S (P 0) hst sl, dayC A d, tabC T t, seaC S (SA 0) (ST 0) sv, dayC SA sd, tabC ST st, padC P p] ++ (dayR g A d G ++ (tabR g T t GT ++ (dayR g SA sd SG ++ (tabR g ST st SGT ++ (padR g P p GP ++ ([slW g sl o.1 o.2] ++ [histW g hst arr xs R])))))) : List va_W) 8 [(0, .ref b), (1, .ref x)] [] := by
  unfold wl_8 at h
  refine y_aload_n C dL_law_8 1 rfl rfl ?_
  refine y_callV (As := []) (rest := []) C dL_law_9 (k_X6_undo g x (T 0) S (P 0) sl A d G hst arr xs R) rfl rfl rfl rfl ⟨Nat.le_of_ble_eq_true rfl, Nat.le_of_ble_eq_true rfl⟩ gL_law_X6_undo (nA := 0) (by decide +kernel) rfl (sh_9501 g x (A 0) (T 0) S (P 0) hst sl A d G hst arr xs R) (Nat.le_of_ble_eq_true rfl) ⟨by rw [lw_rc]; omega, by rw [lw_rs]; omega⟩ [0, 1, 7, 8, 9, 10, 11, 12, 13, 14, 15, 16, 17, 18, 44] [2, 3, 4, 5, 6, 19, 20, 21, 22, 23, 24, 25, 26, 27, 28, 29, 30, 31, 32, 33, 34, 35, 36, 37, 38, 39, 40, 41, 42, 43] (nB := 45) rfl (by decide +kernel) (sh_9500 g x (A 0) (T 0) S (P 0) hst sl A d G T t GT S (SA 0) (ST 0) sv SA sd SG ST st SGT P p GP sl o hst arr xs R) (fun r7 w9 hw => ?_)
  obtain ⟨d1, xs4, G2, G5, hq8, rfl⟩ := hw
  have h := h r7 d1 xs4 hq8
  refine ⟨([mnC x (A 0) (T 0) S (P 0) hst sl, dayC A d1, tabC T t, seaC S (SA 0) (ST 0) sv, dayC SA sd, tabC ST st, padC P p] ++ (dayR g A d1 G2 ++ (tabR g T t GT ++ (dayR g SA sd SG ++ (tabR g ST st SGT ++ (padR g P p GP ++ ([slW g sl o.1 o.2] ++ [histW g hst arr xs4 G5])))))) : List va_W), (sh_9502 g x (A 0) (T 0) S (P 0) hst sl A d G T t GT S (SA 0) (ST 0) sv SA sd SG ST st SGT P p GP sl o hst arr xs R d1 G2 xs4 G5), ?_⟩
  refine y_bipush (v := -5) C dL_law_12 (by decide) ?_
  refine y_icmp_ne (tgt := 35) C dL_law_14 rfl h (fun c14 h => ?_) (fun c14 h => ?_)
  · refine y_iconst (v := 0) C dL_law_35 (by decide) ?_
    exact h.elim
  · refine y_aload_n C dL_law_17 1 rfl rfl ?_
    refine y_iconst (v := 1) C dL_law_18 (by decide) ?_
    refine y_callV (As := [.int (1 : Int32)]) (rest := []) C dL_law_19 (k_X6_restore g x (T 0) S (P 0) A d1 G2 hst arr xs4 G5 sl o (1 : Int32)) rfl rfl rfl rfl ⟨Nat.le_of_ble_eq_true rfl, Nat.le_of_ble_eq_true rfl⟩ gL_law_X6_restore (nA := 1) (by decide +kernel) rfl (sh_9504 g x (A 0) (T 0) S (P 0) hst sl A d1 G2 hst arr xs4 G5 sl o) (Nat.le_of_ble_eq_true rfl) ⟨by rw [lw_rc]; omega, by rw [lw_rs]; omega⟩ [0, 1, 7, 8, 9, 10, 11, 12, 13, 14, 15, 16, 17, 18, 44, 43] [2, 3, 4, 5, 6, 19, 20, 21, 22, 23, 24, 25, 26, 27, 28, 29, 30, 31, 32, 33, 34, 35, 36, 37, 38, 39, 40, 41, 42] (nB := 45) rfl (by decide +kernel) (sh_9503 g x (A 0) (T 0) S (P 0) hst sl A d1 G2 T t GT S (SA 0) (ST 0) sv SA sd SG ST st SGT P p GP sl o hst arr xs4 G5) (fun r15 w9 hw => ?_)
    obtain ⟨d9, xs12, G10, G13, hq16, rfl⟩ := hw
    have h := h r15 d9 xs12 hq16
    refine ⟨([mnC x (A 0) (T 0) S (P 0) hst sl, dayC A d9, tabC T t, seaC S (SA 0) (ST 0) sv, dayC SA sd, tabC ST st, padC P p] ++ (dayR g A d9 G10 ++ (tabR g T t GT ++ (dayR g SA sd SG ++ (tabR g ST st SGT ++ (padR g P p GP ++ ([slW g sl o.1 o.2] ++ [histW g hst arr xs12 G13])))))) : List va_W), (sh_9505 g x (A 0) (T 0) S (P 0) hst sl A d1 G2 T t GT S (SA 0) (ST 0) sv SA sd SG ST st SGT P p GP sl o hst arr xs4 G5 d9 G10 xs12 G13), ?_⟩
    refine y_bipush (v := -5) C dL_law_22 (by decide) ?_
    refine y_icmp_ne (tgt := 35) C dL_law_24 rfl h (fun c24 h => ?_) (fun c24 h => ?_)
    · refine y_iconst (v := 0) C dL_law_35 (by decide) ?_
      exact h.elim
    · refine y_aload_n C dL_law_27 1 rfl rfl ?_
      refine y_iconst (v := 0) C dL_law_28 (by decide) ?_
      refine y_callV (As := [.int (0 : Int32)]) (rest := []) C dL_law_29 (k_X6_save g x (T 0) S (P 0) hst A d9 G10 sl o (0 : Int32)) rfl rfl rfl rfl ⟨Nat.le_of_ble_eq_true rfl, Nat.le_of_ble_eq_true rfl⟩ gL_law_X6_save (nA := 1) (by decide +kernel) rfl (sh_9507 g x (A 0) (T 0) S (P 0) hst sl A d9 G10 sl o) (Nat.le_of_ble_eq_true rfl) ⟨by rw [lw_rc]; omega, by rw [lw_rs]; omega⟩ [0, 1, 7, 8, 9, 10, 11, 12, 13, 14, 15, 16, 17, 18, 43] [2, 3, 4, 5, 6, 19, 20, 21, 22, 23, 24, 25, 26, 27, 28, 29, 30, 31, 32, 33, 34, 35, 36, 37, 38, 39, 40, 41, 42, 44] (nB := 45) rfl (by decide +kernel) (sh_9506 g x (A 0) (T 0) S (P 0) hst sl A d9 G10 T t GT S (SA 0) (ST 0) sv SA sd SG ST st SGT P p GP sl o hst arr xs12 G13) (fun r19 w9 hw => ?_)
      obtain ⟨o17, hq20, rfl⟩ := hw
      have h := h r19 o17 hq20
      refine ⟨([mnC x (A 0) (T 0) S (P 0) hst sl, dayC A d9, tabC T t, seaC S (SA 0) (ST 0) sv, dayC SA sd, tabC ST st, padC P p] ++ (dayR g A d9 G10 ++ (tabR g T t GT ++ (dayR g SA sd SG ++ (tabR g ST st SGT ++ (padR g P p GP ++ ([slW g sl o17.1 o17.2] ++ [histW g hst arr xs12 G13])))))) : List va_W), (sh_9508 g x (A 0) (T 0) S (P 0) hst sl A d9 G10 T t GT S (SA 0) (ST 0) sv SA sd SG ST st SGT P p GP sl o hst arr xs12 G13 o17), ?_⟩
      refine y_if_eq (tgt := 37) C dL_law_32 rfl h (fun c32 h => ?_) (fun c32 h => ?_)
      · refine y_aload_n C dL_law_37 1 rfl rfl ?_
        obtain ⟨hp21, h⟩ := h
        refine y_callSWl (As := [.ref x]) (rest := []) C dL_law_38 (k_L_digest g x S sl A d9 G10 T t GT P p GP hst arr xs12 G13 hp21) rfl rfl rfl rfl ⟨Nat.le_of_ble_eq_true rfl, Nat.le_of_ble_eq_true rfl⟩ gL_law_L_digest (nA := 1) (by decide +kernel) rfl (Nat.le_of_ble_eq_true rfl) ⟨by rw [lw_rc]; omega, by rw [lw_rs]; omega⟩ [0, 1, 2, 6, 7, 8, 9, 10, 11, 12, 13, 14, 15, 16, 17, 18, 19, 20, 21, 22, 23, 41, 42, 44] [3, 4, 5, 24, 25, 26, 27, 28, 29, 30, 31, 32, 33, 34, 35, 36, 37, 38, 39, 40, 43] (nB := 45) rfl (by decide +kernel) (sh_9509 g x (A 0) (T 0) S (P 0) hst sl A d9 G10 T t GT S (SA 0) (ST 0) sv SA sd SG ST st SGT P p GP sl o17 hst arr xs12 G13) (fun r25 w9 hw => ?_)
        obtain ⟨t22, G23, hq26, rfl⟩ := hw
        have h := h r25 t22 hq26
        refine ⟨([mnC x (A 0) (T 0) S (P 0) hst sl, dayC A d9, tabC T t22, seaC S (SA 0) (ST 0) sv, dayC SA sd, tabC ST st, padC P p] ++ (dayR g A d9 G10 ++ (tabR g T t22 G23 ++ (dayR g SA sd SG ++ (tabR g ST st SGT ++ (padR g P p GP ++ ([slW g sl o17.1 o17.2] ++ [histW g hst arr xs12 G13])))))) : List va_W), (sh_9510 g x (A 0) (T 0) S (P 0) hst sl A d9 G10 T t GT S (SA 0) (ST 0) sv SA sd SG ST st SGT P p GP sl o17 hst arr xs12 G13 t22 G23), ?_⟩
        refine y_lstore_n (lv' := [(2, .long r25), (0, .ref b), (1, .ref x)]) C dL_law_41 rfl (Nat.le_of_ble_eq_true rfl) rfl ?_
        refine y_iconst (v := 0) C dL_law_42 (by decide) ?_
        refine y_istore (lv' := [(4, .int (0 : Int32)), (2, .long r25), (0, .ref b), (1, .ref x)]) C dL_law_43 (Nat.le_of_ble_eq_true rfl) rfl ?_
        refine y_sub (lv' := [(0, .ref b), (1, .ref x), (2, .long r25), (4, .int (0 : Int32))]) [2, 3, 1, 0] rfl ?_
        exact hX45 _ _ (by omega) (by omega) d9 t22 sv sd st p o17 xs12 r25 (0 : Int32) G10 G23 SG SGT GP G13 h
      · refine y_iconst (v := 0) C dL_law_35 (by decide) ?_
        exact h.elim
