set_option maxHeartbeats 4000000 in
set_option maxRecDepth 100000 in
theorem lw_158 {Z : yZ} {g : yG} (x S hst arr sl : Nat) (A T SA ST P : Nat → Nat) {k0 n0 b L : Nat} {sx : Nat → Int32} (hLb : L < 2147483648) (C : yC Z g cL_law 14 wsL_law RL) (HX : ySc Z b L sx) (hk : k0 + 50 ≤ 600000) (hn : n0 + 472 ≤ 7302250) (HR1 : ∀ (k n : Nat) (W0 : List va_W) (lv : List (Nat × Value)), k ≤ 600000 → n ≤ 7302250 → yJ Z room_1 k n W0 330 lv [.int 1]) {X199 : RV → RV → RV → RV → RV → RV → SL × SL → List RV → Int64 → Int32 → Int32 → Int32 → Int64 → Int32 → Int64 → Prop} (hX199 : ∀ k1 n1, k1 ≤ k0 + 50 → n1 ≤ n0 + 472 → ∀ (d t sv sd st p : RV) (o : SL × SL) (xs : List RV) (x2 : Int64) (x4 : Int32) (x5 : Int32) (x6 : Int32) (x7 : Int64) (x10 : Int32) (x11 : Int64) (G GT SG SGT GP : Nat → Nat → Int32) (R : List ((Nat → Nat) × RV × (Nat → Nat → Int32))), X199 d t sv sd st p o xs x2 x4 x5 x6 x7 x10 x11 → yJ Z room_1 k1 n1 ([mnC x (A 0) (T 0) S (P 0) hst sl, dayC A d, tabC T t, seaC S (SA 0) (ST 0) sv, dayC SA sd, tabC ST st, padC P p] ++ (dayR g A d G ++ (tabR g T t GT ++ (dayR g SA sd SG ++ (tabR g ST st SGT ++ (padR g P p GP ++ ([slW g sl o.1 o.2] ++ [histW g hst arr xs R])))))) : List va_W) 199 [(0, .ref b), (1, .ref x), (2, .long x2), (4, .int x4), (5, .int x5), (6, .int x6), (7, .long x7), (10, .int x10), (11, .long x11)] []) (d t sv sd st p : RV) (o : SL × SL) (xs : List RV) (x2 : Int64) (x4 : Int32) (x5 : Int32) (x6 : Int32) (x7 : Int64) (x10 : Int32) (x11 : Int64) (G GT SG SGT GP : Nat → Nat → Int32) (R : List ((Nat → Nat) × RV × (Nat → Nat → Int32))) (h : wl_158 L sx X199 d t sv sd st p o xs x2 x4 x5 x6 x7 x10 x11) : yJ Z room_1 k0 n0 ([mnC x (A 0) (T 0) S (P 0) hst sl, dayC A d, tabC T t, seaC S (SA 0) (ST 0) sv, dayC SA sd, tabC ST st, padC P p] ++ (dayR g A d G ++ (tabR g T t GT ++ (dayR g SA sd SG ++ (tabR g ST st SGT ++ (padR g P p GP ++ ([slW g sl o.1 o.2] ++ [histW g hst arr xs R])))))) : List va_W) 158 [(0, .ref b), (1, .ref x), (2, .long x2), (4, .int x4), (5, .int x5), (6, .int x6), (7, .long x7), (10, .int x10), (11, .long x11)] [] := by
  unfold wl_158 at h
  refine y_iload C dL_law_158 7 rfl ?_
  refine y_if_lt (tgt := 199) C dL_law_160 rfl h (fun c160 h => ?_) (fun c160 h => ?_)
  · refine y_sub (lv' := [(0, .ref b), (1, .ref x), (2, .long x2), (4, .int x4), (5, .int x5), (6, .int x6), (7, .long x7), (10, .int x10), (11, .long x11)]) [0, 1, 2, 3, 4, 5, 6, 7, 8] rfl ?_
    exact hX199 _ _ (by omega) (by omega) d t sv sd st p o xs x2 x4 x5 x6 x7 x10 x11 G GT SG SGT GP R h
  · refine y_iload C dL_law_163 4 rfl ?_
    refine y_bipush (v := 15) C dL_law_165 (by decide) ?_
    refine y_iand C dL_law_167 ?_
    refine y_bipush (v := 8) C dL_law_168 (by decide) ?_
    refine y_icmp_ne (tgt := 180) C dL_law_170 rfl h (fun c170 h => ?_) (fun c170 h => ?_)
    · refine y_iload C dL_law_180 4 rfl ?_
      refine y_bipush (v := 15) C dL_law_182 (by decide) ?_
      refine y_iand C dL_law_184 ?_
      refine y_bipush (v := 8) C dL_law_185 (by decide) ?_
      refine y_icmp_le (tgt := 199) C dL_law_187 rfl h (fun c187 h => ?_) (fun c187 h => ?_)
      · refine y_sub (lv' := [(0, .ref b), (1, .ref x), (2, .long x2), (4, .int x4), (5, .int x5), (6, .int x6), (7, .long x7), (10, .int x10), (11, .long x11)]) [0, 1, 2, 3, 4, 5, 6, 7, 8] rfl ?_
        exact hX199 _ _ (by omega) (by omega) d t sv sd st p o xs x2 x4 x5 x6 x7 x10 x11 G GT SG SGT GP R h
      · refine y_aload_n C dL_law_190 1 rfl rfl ?_
        obtain ⟨hp1, h⟩ := h
        refine y_callSW (As := [.ref x]) (rest := []) C dL_law_191 (k_L_areKept g x S sl A d G T t GT P p GP hst arr xs R hp1) rfl rfl rfl rfl ⟨Nat.le_of_ble_eq_true rfl, Nat.le_of_ble_eq_true rfl⟩ gL_law_L_areKept (nA := 1) (by decide +kernel) rfl (Nat.le_of_ble_eq_true rfl) ⟨by rw [lw_rc]; omega, by rw [lw_rs]; omega⟩ [0, 1, 2, 6, 7, 8, 9, 10, 11, 12, 13, 14, 15, 16, 17, 18, 19, 20, 21, 22, 23, 41, 42, 44] [3, 4, 5, 24, 25, 26, 27, 28, 29, 30, 31, 32, 33, 34, 35, 36, 37, 38, 39, 40, 43] (nB := 45) rfl (by decide +kernel) (sh_9516 g x (A 0) (T 0) S (P 0) hst sl A d G T t GT S (SA 0) (ST 0) sv SA sd SG ST st SGT P p GP sl o hst arr xs R) (fun r5 w9 hw => ?_)
        obtain ⟨t2, G3, hq6, rfl⟩ := hw
        have h := h r5 t2 hq6
        refine ⟨([mnC x (A 0) (T 0) S (P 0) hst sl, dayC A d, tabC T t2, seaC S (SA 0) (ST 0) sv, dayC SA sd, tabC ST st, padC P p] ++ (dayR g A d G ++ (tabR g T t2 G3 ++ (dayR g SA sd SG ++ (tabR g ST st SGT ++ (padR g P p GP ++ ([slW g sl o.1 o.2] ++ [histW g hst arr xs R])))))) : List va_W), (sh_9517 g x (A 0) (T 0) S (P 0) hst sl A d G T t GT S (SA 0) (ST 0) sv SA sd SG ST st SGT P p GP sl o hst arr xs R t2 G3), ?_⟩
        refine y_if_ne (tgt := 199) C dL_law_194 rfl h (fun c194 h => ?_) (fun c194 h => ?_)
        · refine y_sub (lv' := [(0, .ref b), (1, .ref x), (2, .long x2), (4, .int x4), (5, .int x5), (6, .int x6), (7, .long x7), (10, .int x10), (11, .long x11)]) [0, 1, 2, 3, 4, 5, 6, 7, 8] rfl ?_
          exact hX199 _ _ (by omega) (by omega) d t2 sv sd st p o xs x2 x4 x5 x6 x7 x10 x11 G G3 SG SGT GP R h
        · refine y_iconst (v := 0) C dL_law_197 (by decide) ?_
          exact h.elim
    · refine y_lload C dL_law_173 8 rfl ?_
      refine y_lload_n C dL_law_175 2 rfl rfl ?_
      refine y_lcmp C dL_law_176 ?_
      refine y_if_ne (tgt := 197) C dL_law_177 rfl h (fun c177 h => ?_) (fun c177 h => ?_)
      · refine y_iconst (v := 0) C dL_law_197 (by decide) ?_
        exact h.elim
      · refine y_iload C dL_law_180 4 rfl ?_
        refine y_bipush (v := 15) C dL_law_182 (by decide) ?_
        refine y_iand C dL_law_184 ?_
        refine y_bipush (v := 8) C dL_law_185 (by decide) ?_
        refine y_icmp_le (tgt := 199) C dL_law_187 rfl h (fun c187 h => ?_) (fun c187 h => ?_)
        · refine y_sub (lv' := [(0, .ref b), (1, .ref x), (2, .long x2), (4, .int x4), (5, .int x5), (6, .int x6), (7, .long x7), (10, .int x10), (11, .long x11)]) [0, 1, 2, 3, 4, 5, 6, 7, 8] rfl ?_
          exact hX199 _ _ (by omega) (by omega) d t sv sd st p o xs x2 x4 x5 x6 x7 x10 x11 G GT SG SGT GP R h
        · refine y_aload_n C dL_law_190 1 rfl rfl ?_
          obtain ⟨hp7, h⟩ := h
          refine y_callSW (As := [.ref x]) (rest := []) C dL_law_191 (k_L_areKept g x S sl A d G T t GT P p GP hst arr xs R hp7) rfl rfl rfl rfl ⟨Nat.le_of_ble_eq_true rfl, Nat.le_of_ble_eq_true rfl⟩ gL_law_L_areKept (nA := 1) (by decide +kernel) rfl (Nat.le_of_ble_eq_true rfl) ⟨by rw [lw_rc]; omega, by rw [lw_rs]; omega⟩ [0, 1, 2, 6, 7, 8, 9, 10, 11, 12, 13, 14, 15, 16, 17, 18, 19, 20, 21, 22, 23, 41, 42, 44] [3, 4, 5, 24, 25, 26, 27, 28, 29, 30, 31, 32, 33, 34, 35, 36, 37, 38, 39, 40, 43] (nB := 45) rfl (by decide +kernel) (sh_9516 g x (A 0) (T 0) S (P 0) hst sl A d G T t GT S (SA 0) (ST 0) sv SA sd SG ST st SGT P p GP sl o hst arr xs R) (fun r11 w9 hw => ?_)
          obtain ⟨t8, G9, hq12, rfl⟩ := hw
          have h := h r11 t8 hq12
          refine ⟨([mnC x (A 0) (T 0) S (P 0) hst sl, dayC A d, tabC T t8, seaC S (SA 0) (ST 0) sv, dayC SA sd, tabC ST st, padC P p] ++ (dayR g A d G ++ (tabR g T t8 G9 ++ (dayR g SA sd SG ++ (tabR g ST st SGT ++ (padR g P p GP ++ ([slW g sl o.1 o.2] ++ [histW g hst arr xs R])))))) : List va_W), (sh_9517 g x (A 0) (T 0) S (P 0) hst sl A d G T t GT S (SA 0) (ST 0) sv SA sd SG ST st SGT P p GP sl o hst arr xs R t8 G9), ?_⟩
          refine y_if_ne (tgt := 199) C dL_law_194 rfl h (fun c194 h => ?_) (fun c194 h => ?_)
          · refine y_sub (lv' := [(0, .ref b), (1, .ref x), (2, .long x2), (4, .int x4), (5, .int x5), (6, .int x6), (7, .long x7), (10, .int x10), (11, .long x11)]) [0, 1, 2, 3, 4, 5, 6, 7, 8] rfl ?_
            exact hX199 _ _ (by omega) (by omega) d t8 sv sd st p o xs x2 x4 x5 x6 x7 x10 x11 G G9 SG SGT GP R h
          · refine y_iconst (v := 0) C dL_law_197 (by decide) ?_
            exact h.elim
