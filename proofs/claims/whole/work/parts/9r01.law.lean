set_option maxHeartbeats 4000000 in
set_option maxRecDepth 100000 in
theorem lw_251 {Z : yZ} {g : yG} (x S hst arr sl : Nat) (A T SA ST P M : Nat → Nat) {k0 n0 b L : Nat} {sx : Nat → Int32} (C : yC Z g cL_law 4 wsL_law RL) (HX : ySc Z b L sx) (hk : k0 + 25 ≤ 600000) (hn : n0 + 236 ≤ 7302249) {X745 : RV → RV → RV → RV → RV → RV → MV → SL × SL → List RV → Int32 → Prop}  (hX745 : ∀ k1 n1, k1 ≤ k0 + 25 → n1 ≤ n0 + 236 → ∀ (d t sv sd st p : RV) (m : MV) (o : SL × SL) (xs : List RV) (x3 : Int32) (G GT SG SGT GP : Nat → Nat → Int32) (R : HRt), X745 d t sv sd st p m o xs x3 → yJ Z room_1 k1 n1 ([mnC x (A 0) (T 0) S (P 0) hst sl, dayC A d, tabC T t, seaC S (SA 0) (ST 0) sv, dayC SA sd, tabC ST st, padC P p, modW g M m] ++ (dayR g A d G ++ (tabR g T t GT ++ (dayR g SA sd SG ++ (tabR g ST st SGT ++ (padR g P p GP ++ ([slW g sl o.1 o.2] ++ [histW g hst arr xs R])))))) : List va_W) 745 [(0, .ref b), (1, .ref x), (2, .ref (M 0)), (3, .int x3)] []) (d t sv sd st p : RV) (m : MV) (o : SL × SL) (xs : List RV) (x3 : Int32) (G GT SG SGT GP : Nat → Nat → Int32) (R : HRt) (h : wl_251 L sx X745 d t sv sd st p m o xs x3) : yJ Z room_1 k0 n0 ([mnC x (A 0) (T 0) S (P 0) hst sl, dayC A d, tabC T t, seaC S (SA 0) (ST 0) sv, dayC SA sd, tabC ST st, padC P p, modW g M m] ++ (dayR g A d G ++ (tabR g T t GT ++ (dayR g SA sd SG ++ (tabR g ST st SGT ++ (padR g P p GP ++ ([slW g sl o.1 o.2] ++ [histW g hst arr xs R])))))) : List va_W) 251 [(0, .ref b), (1, .ref x), (2, .ref (M 0)), (3, .int x3)] [] := by
  unfold wl_251 at h
  refine y_aload_n C dL_law_251 1 rfl rfl ?_
  refine y_aload_n C dL_law_252 0 rfl rfl ?_
  refine y_iload_n C dL_law_253 3 rfl rfl ?_
  refine y_iconst (v := 1) C dL_law_254 (by decide) ?_
  refine y_iadd C dL_law_255 ?_
  obtain ⟨hb1, h⟩ := h
  refine y_sld C HX dL_law_256 hb1 ?_
  refine y_callV (As := [.int (sx (x3 + (1 : Int32)).toNatClampNeg)]) (rest := []) C dL_law_257 (c_X6_cancel g x (T 0) S (P 0) sl A d G hst arr xs R (sx (x3 + (1 : Int32)).toNatClampNeg)) rfl rfl rfl rfl ⟨Nat.le_of_ble_eq_true rfl, Nat.le_of_ble_eq_true rfl⟩ gL_law_X6_cancel (nA := 1) (by decide +kernel) rfl (sh_8001 g x (A 0) (T 0) S (P 0) hst sl A d G hst arr xs R) (Nat.le_of_ble_eq_true rfl) ⟨by rw [lw_rc]; omega, by rw [lw_rs]; omega⟩ [0, 1, 8, 9, 10, 11, 12, 13, 14, 15, 16, 17, 18, 19, 45] [2, 3, 4, 5, 6, 7, 20, 21, 22, 23, 24, 25, 26, 27, 28, 29, 30, 31, 32, 33, 34, 35, 36, 37, 38, 39, 40, 41, 42, 43, 44] (nB := 46) rfl (by decide +kernel) (sh_8011 g x (A 0) (T 0) S (P 0) hst sl A d G T t GT S (SA 0) (ST 0) sv SA sd SG ST st SGT P p GP M m sl o hst arr xs R) (fun r8 w9 hw => ?_)
  obtain ⟨er8, d2, xs5, G3, G6, e4, e7, rfl⟩ := hw
  have h := y_letP h er8
  have h := y_letP h e4
  have h := y_letP h e7
  refine ⟨([mnC x (A 0) (T 0) S (P 0) hst sl, dayC A d2, tabC T t, seaC S (SA 0) (ST 0) sv, dayC SA sd, tabC ST st, padC P p, modW g M m] ++ (dayR g A d2 G3 ++ (tabR g T t GT ++ (dayR g SA sd SG ++ (tabR g ST st SGT ++ (padR g P p GP ++ ([slW g sl o.1 o.2] ++ [histW g hst arr xs5 G6])))))) : List va_W), (sh_8012 g x (A 0) (T 0) S (P 0) hst sl A d G T t GT S (SA 0) (ST 0) sv SA sd SG ST st SGT P p GP M m sl o hst arr xs R d2 G3 xs5 G6), ?_⟩
  refine y_aload_n C dL_law_260 2 rfl rfl ?_
  refine y_aload_n C dL_law_261 0 rfl rfl ?_
  refine y_iload_n C dL_law_262 3 rfl rfl ?_
  refine y_iconst (v := 1) C dL_law_263 (by decide) ?_
  refine y_iadd C dL_law_264 ?_
  obtain ⟨hb9, h⟩ := h
  refine y_sld C HX dL_law_265 hb9 ?_
  refine y_callV (As := [.int (sx (x3 + (1 : Int32)).toNatClampNeg)]) (rest := [.int r8]) C dL_law_266 (u_X7_cancel g M m (sx (x3 + (1 : Int32)).toNatClampNeg) h) rfl rfl rfl rfl ⟨Nat.le_of_ble_eq_true rfl, Nat.le_of_ble_eq_true rfl⟩ gL_law_X7_cancel (nA := 1) (by decide +kernel) rfl (sh_8004 g M m) (Nat.le_of_ble_eq_true rfl) ⟨by rw [lw_rc]; omega, by rw [lw_rs]; omega⟩ [7] [0, 1, 2, 3, 4, 5, 6, 8, 9, 10, 11, 12, 13, 14, 15, 16, 17, 18, 19, 20, 21, 22, 23, 24, 25, 26, 27, 28, 29, 30, 31, 32, 33, 34, 35, 36, 37, 38, 39, 40, 41, 42, 43, 44, 45] (nB := 46) rfl (by decide +kernel) (sh_8003 g x (A 0) (T 0) S (P 0) hst sl A d2 G3 T t GT S (SA 0) (ST 0) sv SA sd SG ST st SGT P p GP M m sl o hst arr xs5 G6) (fun r12 w9 hw => ?_)
  obtain ⟨m10, h, rfl⟩ := hw
  refine ⟨([mnC x (A 0) (T 0) S (P 0) hst sl, dayC A d2, tabC T t, seaC S (SA 0) (ST 0) sv, dayC SA sd, tabC ST st, padC P p, modW g M m10] ++ (dayR g A d2 G3 ++ (tabR g T t GT ++ (dayR g SA sd SG ++ (tabR g ST st SGT ++ (padR g P p GP ++ ([slW g sl o.1 o.2] ++ [histW g hst arr xs5 G6])))))) : List va_W), (sh_8005 g x (A 0) (T 0) S (P 0) hst sl A d2 G3 T t GT S (SA 0) (ST 0) sv SA sd SG ST st SGT P p GP M m sl o hst arr xs5 G6 m10), ?_⟩
  refine y_icmp_eq (tgt := 745) C dL_law_269 rfl h (fun c269 h => ?_) (fun c269 h => ?_)
  · refine y_sub (lv' := [(0, .ref b), (1, .ref x), (2, .ref (M 0)), (3, .int x3)]) [0, 1, 2, 3] rfl ?_
    exact hX745 _ _ (by omega) (by omega) d2 t sv sd st p m10 o xs5 x3 G3 GT SG SGT GP G6 h
  · refine y_iconst (v := 0) C dL_law_272 (by decide) ?_
    exact h.elim
set_option maxHeartbeats 4000000 in
set_option maxRecDepth 100000 in
theorem lw_274 {Z : yZ} {g : yG} (x S hst arr sl : Nat) (A T SA ST P M : Nat → Nat) {k0 n0 b L : Nat} {sx : Nat → Int32} (C : yC Z g cL_law 4 wsL_law RL) (HX : ySc Z b L sx) (hk : k0 + 25 ≤ 600000) (hn : n0 + 236 ≤ 7302249) {X745 : RV → RV → RV → RV → RV → RV → MV → SL × SL → List RV → Int32 → Prop}  (hX745 : ∀ k1 n1, k1 ≤ k0 + 25 → n1 ≤ n0 + 236 → ∀ (d t sv sd st p : RV) (m : MV) (o : SL × SL) (xs : List RV) (x3 : Int32) (G GT SG SGT GP : Nat → Nat → Int32) (R : HRt), X745 d t sv sd st p m o xs x3 → yJ Z room_1 k1 n1 ([mnC x (A 0) (T 0) S (P 0) hst sl, dayC A d, tabC T t, seaC S (SA 0) (ST 0) sv, dayC SA sd, tabC ST st, padC P p, modW g M m] ++ (dayR g A d G ++ (tabR g T t GT ++ (dayR g SA sd SG ++ (tabR g ST st SGT ++ (padR g P p GP ++ ([slW g sl o.1 o.2] ++ [histW g hst arr xs R])))))) : List va_W) 745 [(0, .ref b), (1, .ref x), (2, .ref (M 0)), (3, .int x3)] []) (d t sv sd st p : RV) (m : MV) (o : SL × SL) (xs : List RV) (x3 : Int32) (G GT SG SGT GP : Nat → Nat → Int32) (R : HRt) (h : wl_274 L sx X745 d t sv sd st p m o xs x3) : yJ Z room_1 k0 n0 ([mnC x (A 0) (T 0) S (P 0) hst sl, dayC A d, tabC T t, seaC S (SA 0) (ST 0) sv, dayC SA sd, tabC ST st, padC P p, modW g M m] ++ (dayR g A d G ++ (tabR g T t GT ++ (dayR g SA sd SG ++ (tabR g ST st SGT ++ (padR g P p GP ++ ([slW g sl o.1 o.2] ++ [histW g hst arr xs R])))))) : List va_W) 274 [(0, .ref b), (1, .ref x), (2, .ref (M 0)), (3, .int x3)] [] := by
  unfold wl_274 at h
  refine y_aload_n C dL_law_274 1 rfl rfl ?_
  refine y_aload_n C dL_law_275 0 rfl rfl ?_
  refine y_iload_n C dL_law_276 3 rfl rfl ?_
  refine y_iconst (v := 1) C dL_law_277 (by decide) ?_
  refine y_iadd C dL_law_278 ?_
  obtain ⟨hb1, h⟩ := h
  refine y_sld C HX dL_law_279 hb1 ?_
  refine y_callV (As := [.int (sx (x3 + (1 : Int32)).toNatClampNeg)]) (rest := []) C dL_law_280 (c_X6_pass g x S (P 0) sl A d G T t GT hst arr xs R (sx (x3 + (1 : Int32)).toNatClampNeg)) rfl rfl rfl rfl ⟨Nat.le_of_ble_eq_true rfl, Nat.le_of_ble_eq_true rfl⟩ gL_law_X6_pass (nA := 1) (by decide +kernel) rfl (sh_8014 g x (A 0) (T 0) S (P 0) hst sl A d G T t GT hst arr xs R) (Nat.le_of_ble_eq_true rfl) ⟨by rw [lw_rc]; omega, by rw [lw_rs]; omega⟩ [0, 1, 2, 8, 9, 10, 11, 12, 13, 14, 15, 16, 17, 18, 19, 20, 21, 22, 23, 24, 45] [3, 4, 5, 6, 7, 25, 26, 27, 28, 29, 30, 31, 32, 33, 34, 35, 36, 37, 38, 39, 40, 41, 42, 43, 44] (nB := 46) rfl (by decide +kernel) (sh_8013 g x (A 0) (T 0) S (P 0) hst sl A d G T t GT S (SA 0) (ST 0) sv SA sd SG ST st SGT P p GP M m sl o hst arr xs R) (fun r11 w9 hw => ?_)
  obtain ⟨er11, d2, t5, xs8, G3, G6, G9, e4, e7, e10, rfl⟩ := hw
  have h := y_letP h er11
  have h := y_letP h e4
  have h := y_letP h e7
  have h := y_letP h e10
  refine ⟨([mnC x (A 0) (T 0) S (P 0) hst sl, dayC A d2, tabC T t5, seaC S (SA 0) (ST 0) sv, dayC SA sd, tabC ST st, padC P p, modW g M m] ++ (dayR g A d2 G3 ++ (tabR g T t5 G6 ++ (dayR g SA sd SG ++ (tabR g ST st SGT ++ (padR g P p GP ++ ([slW g sl o.1 o.2] ++ [histW g hst arr xs8 G9])))))) : List va_W), (sh_8015 g x (A 0) (T 0) S (P 0) hst sl A d G T t GT S (SA 0) (ST 0) sv SA sd SG ST st SGT P p GP M m sl o hst arr xs R d2 G3 t5 G6 xs8 G9), ?_⟩
  refine y_aload_n C dL_law_283 2 rfl rfl ?_
  refine y_aload_n C dL_law_284 0 rfl rfl ?_
  refine y_iload_n C dL_law_285 3 rfl rfl ?_
  refine y_iconst (v := 1) C dL_law_286 (by decide) ?_
  refine y_iadd C dL_law_287 ?_
  obtain ⟨hb12, h⟩ := h
  refine y_sld C HX dL_law_288 hb12 ?_
  refine y_callV (As := [.int (sx (x3 + (1 : Int32)).toNatClampNeg)]) (rest := [.int r11]) C dL_law_289 (u_X7_pass g M m (sx (x3 + (1 : Int32)).toNatClampNeg) h) rfl rfl rfl rfl ⟨Nat.le_of_ble_eq_true rfl, Nat.le_of_ble_eq_true rfl⟩ gL_law_X7_pass (nA := 1) (by decide +kernel) rfl (sh_8004 g M m) (Nat.le_of_ble_eq_true rfl) ⟨by rw [lw_rc]; omega, by rw [lw_rs]; omega⟩ [7] [0, 1, 2, 3, 4, 5, 6, 8, 9, 10, 11, 12, 13, 14, 15, 16, 17, 18, 19, 20, 21, 22, 23, 24, 25, 26, 27, 28, 29, 30, 31, 32, 33, 34, 35, 36, 37, 38, 39, 40, 41, 42, 43, 44, 45] (nB := 46) rfl (by decide +kernel) (sh_8003 g x (A 0) (T 0) S (P 0) hst sl A d2 G3 T t5 G6 S (SA 0) (ST 0) sv SA sd SG ST st SGT P p GP M m sl o hst arr xs8 G9) (fun r15 w9 hw => ?_)
  obtain ⟨m13, h, rfl⟩ := hw
  refine ⟨([mnC x (A 0) (T 0) S (P 0) hst sl, dayC A d2, tabC T t5, seaC S (SA 0) (ST 0) sv, dayC SA sd, tabC ST st, padC P p, modW g M m13] ++ (dayR g A d2 G3 ++ (tabR g T t5 G6 ++ (dayR g SA sd SG ++ (tabR g ST st SGT ++ (padR g P p GP ++ ([slW g sl o.1 o.2] ++ [histW g hst arr xs8 G9])))))) : List va_W), (sh_8005 g x (A 0) (T 0) S (P 0) hst sl A d2 G3 T t5 G6 S (SA 0) (ST 0) sv SA sd SG ST st SGT P p GP M m sl o hst arr xs8 G9 m13), ?_⟩
  refine y_icmp_eq (tgt := 745) C dL_law_292 rfl h (fun c292 h => ?_) (fun c292 h => ?_)
  · refine y_sub (lv' := [(0, .ref b), (1, .ref x), (2, .ref (M 0)), (3, .int x3)]) [0, 1, 2, 3] rfl ?_
    exact hX745 _ _ (by omega) (by omega) d2 t5 sv sd st p m13 o xs8 x3 G3 G6 SG SGT GP G9 h
  · refine y_iconst (v := 0) C dL_law_295 (by decide) ?_
    exact h.elim
set_option maxHeartbeats 4000000 in
set_option maxRecDepth 100000 in
theorem lw_297 {Z : yZ} {g : yG} (x S hst arr sl : Nat) (A T SA ST P M : Nat → Nat) {k0 n0 b L : Nat} {sx : Nat → Int32} (C : yC Z g cL_law 4 wsL_law RL) (HX : ySc Z b L sx) (hk : k0 + 25 ≤ 600000) (hn : n0 + 236 ≤ 7302249) {X745 : RV → RV → RV → RV → RV → RV → MV → SL × SL → List RV → Int32 → Prop}  (hX745 : ∀ k1 n1, k1 ≤ k0 + 25 → n1 ≤ n0 + 236 → ∀ (d t sv sd st p : RV) (m : MV) (o : SL × SL) (xs : List RV) (x3 : Int32) (G GT SG SGT GP : Nat → Nat → Int32) (R : HRt), X745 d t sv sd st p m o xs x3 → yJ Z room_1 k1 n1 ([mnC x (A 0) (T 0) S (P 0) hst sl, dayC A d, tabC T t, seaC S (SA 0) (ST 0) sv, dayC SA sd, tabC ST st, padC P p, modW g M m] ++ (dayR g A d G ++ (tabR g T t GT ++ (dayR g SA sd SG ++ (tabR g ST st SGT ++ (padR g P p GP ++ ([slW g sl o.1 o.2] ++ [histW g hst arr xs R])))))) : List va_W) 745 [(0, .ref b), (1, .ref x), (2, .ref (M 0)), (3, .int x3)] []) (d t sv sd st p : RV) (m : MV) (o : SL × SL) (xs : List RV) (x3 : Int32) (G GT SG SGT GP : Nat → Nat → Int32) (R : HRt) (h : wl_297 L sx X745 d t sv sd st p m o xs x3) : yJ Z room_1 k0 n0 ([mnC x (A 0) (T 0) S (P 0) hst sl, dayC A d, tabC T t, seaC S (SA 0) (ST 0) sv, dayC SA sd, tabC ST st, padC P p, modW g M m] ++ (dayR g A d G ++ (tabR g T t GT ++ (dayR g SA sd SG ++ (tabR g ST st SGT ++ (padR g P p GP ++ ([slW g sl o.1 o.2] ++ [histW g hst arr xs R])))))) : List va_W) 297 [(0, .ref b), (1, .ref x), (2, .ref (M 0)), (3, .int x3)] [] := by
  unfold wl_297 at h
  refine y_aload_n C dL_law_297 1 rfl rfl ?_
  refine y_aload_n C dL_law_298 0 rfl rfl ?_
  refine y_iload_n C dL_law_299 3 rfl rfl ?_
  refine y_iconst (v := 1) C dL_law_300 (by decide) ?_
  refine y_iadd C dL_law_301 ?_
  obtain ⟨hb1, h⟩ := h
  refine y_sld C HX dL_law_302 hb1 ?_
  refine y_callV (As := [.int (sx (x3 + (1 : Int32)).toNatClampNeg)]) (rest := []) C dL_law_303 (c_X6_miss g x (T 0) S (P 0) sl A d G hst arr xs R (sx (x3 + (1 : Int32)).toNatClampNeg)) rfl rfl rfl rfl ⟨Nat.le_of_ble_eq_true rfl, Nat.le_of_ble_eq_true rfl⟩ gL_law_X6_miss (nA := 1) (by decide +kernel) rfl (sh_8001 g x (A 0) (T 0) S (P 0) hst sl A d G hst arr xs R) (Nat.le_of_ble_eq_true rfl) ⟨by rw [lw_rc]; omega, by rw [lw_rs]; omega⟩ [0, 1, 8, 9, 10, 11, 12, 13, 14, 15, 16, 17, 18, 19, 45] [2, 3, 4, 5, 6, 7, 20, 21, 22, 23, 24, 25, 26, 27, 28, 29, 30, 31, 32, 33, 34, 35, 36, 37, 38, 39, 40, 41, 42, 43, 44] (nB := 46) rfl (by decide +kernel) (sh_8016 g x (A 0) (T 0) S (P 0) hst sl A d G T t GT S (SA 0) (ST 0) sv SA sd SG ST st SGT P p GP M m sl o hst arr xs R) (fun r8 w9 hw => ?_)
  obtain ⟨er8, d2, xs5, G3, G6, e4, e7, rfl⟩ := hw
  have h := y_letP h er8
  have h := y_letP h e4
  have h := y_letP h e7
  refine ⟨([mnC x (A 0) (T 0) S (P 0) hst sl, dayC A d2, tabC T t, seaC S (SA 0) (ST 0) sv, dayC SA sd, tabC ST st, padC P p, modW g M m] ++ (dayR g A d2 G3 ++ (tabR g T t GT ++ (dayR g SA sd SG ++ (tabR g ST st SGT ++ (padR g P p GP ++ ([slW g sl o.1 o.2] ++ [histW g hst arr xs5 G6])))))) : List va_W), (sh_8017 g x (A 0) (T 0) S (P 0) hst sl A d G T t GT S (SA 0) (ST 0) sv SA sd SG ST st SGT P p GP M m sl o hst arr xs R d2 G3 xs5 G6), ?_⟩
  refine y_aload_n C dL_law_306 2 rfl rfl ?_
  refine y_aload_n C dL_law_307 0 rfl rfl ?_
  refine y_iload_n C dL_law_308 3 rfl rfl ?_
  refine y_iconst (v := 1) C dL_law_309 (by decide) ?_
  refine y_iadd C dL_law_310 ?_
  obtain ⟨hb9, h⟩ := h
  refine y_sld C HX dL_law_311 hb9 ?_
  refine y_callV (As := [.int (sx (x3 + (1 : Int32)).toNatClampNeg)]) (rest := [.int r8]) C dL_law_312 (u_X7_miss g M m (sx (x3 + (1 : Int32)).toNatClampNeg) h) rfl rfl rfl rfl ⟨Nat.le_of_ble_eq_true rfl, Nat.le_of_ble_eq_true rfl⟩ gL_law_X7_miss (nA := 1) (by decide +kernel) rfl (sh_8004 g M m) (Nat.le_of_ble_eq_true rfl) ⟨by rw [lw_rc]; omega, by rw [lw_rs]; omega⟩ [7] [0, 1, 2, 3, 4, 5, 6, 8, 9, 10, 11, 12, 13, 14, 15, 16, 17, 18, 19, 20, 21, 22, 23, 24, 25, 26, 27, 28, 29, 30, 31, 32, 33, 34, 35, 36, 37, 38, 39, 40, 41, 42, 43, 44, 45] (nB := 46) rfl (by decide +kernel) (sh_8003 g x (A 0) (T 0) S (P 0) hst sl A d2 G3 T t GT S (SA 0) (ST 0) sv SA sd SG ST st SGT P p GP M m sl o hst arr xs5 G6) (fun r12 w9 hw => ?_)
  obtain ⟨m10, h, rfl⟩ := hw
  refine ⟨([mnC x (A 0) (T 0) S (P 0) hst sl, dayC A d2, tabC T t, seaC S (SA 0) (ST 0) sv, dayC SA sd, tabC ST st, padC P p, modW g M m10] ++ (dayR g A d2 G3 ++ (tabR g T t GT ++ (dayR g SA sd SG ++ (tabR g ST st SGT ++ (padR g P p GP ++ ([slW g sl o.1 o.2] ++ [histW g hst arr xs5 G6])))))) : List va_W), (sh_8005 g x (A 0) (T 0) S (P 0) hst sl A d2 G3 T t GT S (SA 0) (ST 0) sv SA sd SG ST st SGT P p GP M m sl o hst arr xs5 G6 m10), ?_⟩
  refine y_icmp_eq (tgt := 745) C dL_law_315 rfl h (fun c315 h => ?_) (fun c315 h => ?_)
  · refine y_sub (lv' := [(0, .ref b), (1, .ref x), (2, .ref (M 0)), (3, .int x3)]) [0, 1, 2, 3] rfl ?_
    exact hX745 _ _ (by omega) (by omega) d2 t sv sd st p m10 o xs5 x3 G3 GT SG SGT GP G6 h
  · refine y_iconst (v := 0) C dL_law_318 (by decide) ?_
    exact h.elim
set_option maxHeartbeats 4000000 in
set_option maxRecDepth 100000 in
theorem lw_320 {Z : yZ} {g : yG} (x S hst arr sl : Nat) (A T SA ST P M : Nat → Nat) {k0 n0 b L : Nat} {sx : Nat → Int32} (C : yC Z g cL_law 4 wsL_law RL) (HX : ySc Z b L sx) (hk : k0 + 25 ≤ 600000) (hn : n0 + 236 ≤ 7302249) {X745 : RV → RV → RV → RV → RV → RV → MV → SL × SL → List RV → Int32 → Prop}  (hX745 : ∀ k1 n1, k1 ≤ k0 + 25 → n1 ≤ n0 + 236 → ∀ (d t sv sd st p : RV) (m : MV) (o : SL × SL) (xs : List RV) (x3 : Int32) (G GT SG SGT GP : Nat → Nat → Int32) (R : HRt), X745 d t sv sd st p m o xs x3 → yJ Z room_1 k1 n1 ([mnC x (A 0) (T 0) S (P 0) hst sl, dayC A d, tabC T t, seaC S (SA 0) (ST 0) sv, dayC SA sd, tabC ST st, padC P p, modW g M m] ++ (dayR g A d G ++ (tabR g T t GT ++ (dayR g SA sd SG ++ (tabR g ST st SGT ++ (padR g P p GP ++ ([slW g sl o.1 o.2] ++ [histW g hst arr xs R])))))) : List va_W) 745 [(0, .ref b), (1, .ref x), (2, .ref (M 0)), (3, .int x3)] []) (d t sv sd st p : RV) (m : MV) (o : SL × SL) (xs : List RV) (x3 : Int32) (G GT SG SGT GP : Nat → Nat → Int32) (R : HRt) (h : wl_320 L sx X745 d t sv sd st p m o xs x3) : yJ Z room_1 k0 n0 ([mnC x (A 0) (T 0) S (P 0) hst sl, dayC A d, tabC T t, seaC S (SA 0) (ST 0) sv, dayC SA sd, tabC ST st, padC P p, modW g M m] ++ (dayR g A d G ++ (tabR g T t GT ++ (dayR g SA sd SG ++ (tabR g ST st SGT ++ (padR g P p GP ++ ([slW g sl o.1 o.2] ++ [histW g hst arr xs R])))))) : List va_W) 320 [(0, .ref b), (1, .ref x), (2, .ref (M 0)), (3, .int x3)] [] := by
  unfold wl_320 at h
  refine y_aload_n C dL_law_320 1 rfl rfl ?_
  refine y_callV (As := []) (rest := []) C dL_law_321 (c_X6_bookAll g x (T 0) sl A d G S sv SA sd SG ST st SGT P p GP hst arr xs R) rfl rfl rfl rfl ⟨Nat.le_of_ble_eq_true rfl, Nat.le_of_ble_eq_true rfl⟩ gL_law_X6_bookAll (nA := 0) (by decide +kernel) rfl (sh_8019 g x (A 0) (T 0) S (P 0) hst sl A d G S (SA 0) (ST 0) sv SA sd SG ST st SGT P p GP hst arr xs R) (Nat.le_of_ble_eq_true rfl) ⟨by rw [lw_rc]; omega, by rw [lw_rs]; omega⟩ [0, 1, 3, 4, 5, 6, 8, 9, 10, 11, 12, 13, 14, 15, 16, 17, 18, 19, 25, 26, 27, 28, 29, 30, 31, 32, 33, 34, 35, 36, 37, 38, 39, 40, 41, 42, 43, 45] [2, 7, 20, 21, 22, 23, 24, 44] (nB := 46) rfl (by decide +kernel) (sh_8018 g x (A 0) (T 0) S (P 0) hst sl A d G T t GT S (SA 0) (ST 0) sv SA sd SG ST st SGT P p GP M m sl o hst arr xs R) (fun r18 w9 hw => ?_)
  obtain ⟨er18, d1, sv4, sd6, st9, p12, xs15, G2, G7, G10, G13, G16, e3, e5, e8, e11, e14, e17, rfl⟩ := hw
  have h := y_letP h er18
  have h := y_letP h e3
  have h := y_letP h e5
  have h := y_letP h e8
  have h := y_letP h e11
  have h := y_letP h e14
  have h := y_letP h e17
  refine ⟨([mnC x (A 0) (T 0) S (P 0) hst sl, dayC A d1, tabC T t, seaC S (SA 0) (ST 0) sv4, dayC SA sd6, tabC ST st9, padC P p12, modW g M m] ++ (dayR g A d1 G2 ++ (tabR g T t GT ++ (dayR g SA sd6 G7 ++ (tabR g ST st9 G10 ++ (padR g P p12 G13 ++ ([slW g sl o.1 o.2] ++ [histW g hst arr xs15 G16])))))) : List va_W), (sh_8020 g x (A 0) (T 0) S (P 0) hst sl A d G T t GT S (SA 0) (ST 0) sv SA sd SG ST st SGT P p GP M m sl o hst arr xs R d1 G2 sv4 sd6 G7 st9 G10 p12 G13 xs15 G16), ?_⟩
  refine y_aload_n C dL_law_324 2 rfl rfl ?_
  refine y_callV (As := []) (rest := [.int r18]) C dL_law_325 (u_X7_bookAll g M m h) rfl rfl rfl rfl ⟨Nat.le_of_ble_eq_true rfl, Nat.le_of_ble_eq_true rfl⟩ gL_law_X7_bookAll (nA := 0) (by decide +kernel) rfl (sh_8004 g M m) (Nat.le_of_ble_eq_true rfl) ⟨by rw [lw_rc]; omega, by rw [lw_rs]; omega⟩ [7] [0, 1, 2, 3, 4, 5, 6, 8, 9, 10, 11, 12, 13, 14, 15, 16, 17, 18, 19, 20, 21, 22, 23, 24, 25, 26, 27, 28, 29, 30, 31, 32, 33, 34, 35, 36, 37, 38, 39, 40, 41, 42, 43, 44, 45] (nB := 46) rfl (by decide +kernel) (sh_8003 g x (A 0) (T 0) S (P 0) hst sl A d1 G2 T t GT S (SA 0) (ST 0) sv4 SA sd6 G7 ST st9 G10 P p12 G13 M m sl o hst arr xs15 G16) (fun r21 w9 hw => ?_)
  obtain ⟨m19, h, rfl⟩ := hw
  refine ⟨([mnC x (A 0) (T 0) S (P 0) hst sl, dayC A d1, tabC T t, seaC S (SA 0) (ST 0) sv4, dayC SA sd6, tabC ST st9, padC P p12, modW g M m19] ++ (dayR g A d1 G2 ++ (tabR g T t GT ++ (dayR g SA sd6 G7 ++ (tabR g ST st9 G10 ++ (padR g P p12 G13 ++ ([slW g sl o.1 o.2] ++ [histW g hst arr xs15 G16])))))) : List va_W), (sh_8005 g x (A 0) (T 0) S (P 0) hst sl A d1 G2 T t GT S (SA 0) (ST 0) sv4 SA sd6 G7 ST st9 G10 P p12 G13 M m sl o hst arr xs15 G16 m19), ?_⟩
  refine y_icmp_eq (tgt := 745) C dL_law_328 rfl h (fun c328 h => ?_) (fun c328 h => ?_)
  · refine y_sub (lv' := [(0, .ref b), (1, .ref x), (2, .ref (M 0)), (3, .int x3)]) [0, 1, 2, 3] rfl ?_
    exact hX745 _ _ (by omega) (by omega) d1 t sv4 sd6 st9 p12 m19 o xs15 x3 G2 GT G7 G10 G13 G16 h
  · refine y_iconst (v := 0) C dL_law_331 (by decide) ?_
    exact h.elim
