set_option maxHeartbeats 4000000 in
set_option maxRecDepth 100000 in
theorem lw_start {Z : yZ} {g : yG} {b L : Nat} {sx : Nat → Int32} (hL : L ≤ 3072) (C : yC Z g cL_law 4 wsL_law RL) (HX : ySc Z b L sx) (HR1 : ∀ (k n : Nat) (W0 : List va_W) (lv : List (Nat × Value)), k ≤ 600000 → n ≤ 7302249 → yJ Z room_1 k n W0 752 lv [.int 1]) : yJ Z room_1 0 0 ([] : List va_W) 0 [(0, .ref b)] [] := by
  refine y_new (Cn := RX6) (T := TX6) (N := 6) (ci := 6) (fs := [.null, .null, .null, .null, .null, .null]) (ty0 := tyX6) C dL_law_0 inlX6 tyX6_ok kw_0 kw_1 kw_2 rfl (fun j hj => by rcases (show j = 0 ∨ j = 1 ∨ j = 2 ∨ j = 3 ∨ j = 4 ∨ j = 5 by omega) with rfl | rfl | rfl | rfl | rfl | rfl <;> rfl) (Nat.le_of_ble_eq_true rfl) (Nat.le_of_ble_eq_true rfl) (fun h0 => ?_)
  refine y_dup C dL_law_3 rfl ?_
  refine y_callI (As := []) (rest := [.ref h0]) C dL_law_4 (k_X6_init g h0) rfl rfl rfl rfl ⟨Nat.le_of_ble_eq_true rfl, Nat.le_of_ble_eq_true rfl⟩ gL_law_X6_init kw_7 kw_2 kw_8 rfl (nA := 0) (by decide +kernel) rfl (Nat.le_of_ble_eq_true rfl) ⟨Nat.le_of_ble_eq_true rfl, Nat.le_of_ble_eq_true rfl⟩ [0] [] (nB := 1) rfl (by decide +kernel) rfl (fun w9 hw => ?_)
  obtain ⟨A, G, T, GT, s, SA, SG, ST, SGT, P, GP, hst, arr, sl, rfl⟩ := hw
  refine ⟨[([mnC h0 (A 0) (T 0) s (P 0) hst sl, dayW g A D0 G, tabW g T T0 GT, seaB g s SA SG ST SGT, padW g P T0 GP, histW g hst arr [] [], slW g sl none none] : List va_W).flatten], ⟨rfl, rfl, rfl⟩, ?_⟩
  refine y_astore_n (lv' := [(1, .ref h0), (0, .ref b)]) C dL_law_7 rfl (Nat.le_of_ble_eq_true rfl) rfl ?_
  refine y_new (Cn := RX7) (T := TX7) (N := 26) (ci := 7) (fs := [.int 0, .null, .null, .null, .int 0, .null, .null, .null, .int 0, .null, .int 0, .null, .null, .null, .int 0, .int 0, .int 0, .int 0, .int 0, .int 0, .int 0, .int 0, .int 0, .int 0, .null, .int 0]) (ty0 := tyX7) C dL_law_8 inlX7 tyX7_ok kw_3 kw_4 kw_5 rfl (fun j hj => by rcases (show j = 0 ∨ j = 1 ∨ j = 2 ∨ j = 3 ∨ j = 4 ∨ j = 5 ∨ j = 6 ∨ j = 7 ∨ j = 8 ∨ j = 9 ∨ j = 10 ∨ j = 11 ∨ j = 12 ∨ j = 13 ∨ j = 14 ∨ j = 15 ∨ j = 16 ∨ j = 17 ∨ j = 18 ∨ j = 19 ∨ j = 20 ∨ j = 21 ∨ j = 22 ∨ j = 23 ∨ j = 24 ∨ j = 25 by omega) with rfl | rfl | rfl | rfl | rfl | rfl | rfl | rfl | rfl | rfl | rfl | rfl | rfl | rfl | rfl | rfl | rfl | rfl | rfl | rfl | rfl | rfl | rfl | rfl | rfl | rfl <;> rfl) (Nat.le_of_ble_eq_true rfl) (Nat.le_of_ble_eq_true rfl) (fun h1 => ?_)
  refine y_dup C dL_law_11 rfl ?_
  refine y_callI (As := []) (rest := [.ref h1]) C dL_law_12 (c_X7_init g h1) rfl rfl rfl rfl ⟨Nat.le_of_ble_eq_true rfl, Nat.le_of_ble_eq_true rfl⟩ gL_law_X7_init kw_102 kw_5 kw_103 rfl (nA := 0) (by decide +kernel) rfl (Nat.le_of_ble_eq_true rfl) ⟨Nat.le_of_ble_eq_true rfl, Nat.le_of_ble_eq_true rfl⟩ [1] [0] (nB := 2) rfl (by decide +kernel) rfl (fun w9 hw => ?_)
  obtain ⟨M, rfl, rfl⟩ := hw
  refine ⟨[([mnC h0 (A 0) (T 0) s (P 0) hst sl, dayW g A D0 G, tabW g T T0 GT, seaB g s SA SG ST SGT, padW g P T0 GP, histW g hst arr [] [], slW g sl none none] : List va_W).flatten, modW g M M0], ⟨rfl, rfl, rfl⟩, ?_⟩
  refine y_astore_n (lv' := [(2, .ref (M 0)), (1, .ref h0), (0, .ref b)]) C dL_law_15 rfl (Nat.le_of_ble_eq_true rfl) rfl ?_
  refine y_iconst (v := 0) C dL_law_16 (by decide) ?_
  refine y_istore_n (lv' := [(3, .int 0), (2, .ref (M 0)), (1, .ref h0), (0, .ref b)]) C dL_law_17 rfl (Nat.le_of_ble_eq_true rfl) rfl ?_
  refine y_sub (lv' := [(0, .ref b), (1, .ref h0), (2, .ref (M 0)), (3, .int (nI (6 * 0)))]) [3, 2, 1, 0] rfl ?_
  refine y_world (lw_flat0 g h0 s hst arr sl A T SA ST P M G GT SG SGT GP) ?_
  refine y_reord [0, 1, 14, 20, 21, 34, 40, 45, 2, 3, 4, 5, 6, 7, 8, 9, 10, 11, 12, 13, 15, 16, 17, 18, 19, 22, 23, 24, 25, 26, 27, 28, 29, 30, 31, 32, 33, 35, 36, 37, 38, 39, 41, 42, 44, 43] (nB := 46) rfl (by decide +kernel) (lw_pick0 g h0 s hst arr sl A T SA ST P M G GT SG SGT GP) ?_
  exact lw_loop h0 s hst arr sl A T SA ST P M hL C HX HR1 512 0 _ _ (by omega) (by omega) (by omega) (by omega) D0 T0 T0 D0 T0 T0 M0 (none, none) [] G GT SG SGT GP [] modR_0
