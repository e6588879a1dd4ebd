set_option maxHeartbeats 4000000 in
set_option maxRecDepth 100000 in
theorem w_L_holds_458 {Z : yZ} (g : yG) (x rs rl : Nat) (A : Nat → Nat) (d : RV) (G : Nat → Nat → Int32) (T : Nat → Nat) (P : Nat → Nat) (p : RV) (GP : Nat → Nat → Int32) (hst arr : Nat) (xs : List RV) (R : List ((Nat → Nat) × RV × (Nat → Nat → Int32))) (C : yC Z g cL_holds 12 wsL_holds RL) {post : Int32 → List va_W → Prop} (HR : yRi Z ({ frames := 6, cells := 0, slots := 0, locals := 136 } : Room) cL_holds .boolean post 0 0) {X26 : RV → Int32 → Int32 → Int32 → Int32 → Int32 → Int32 → Int32 → Prop} {X237 : RV → Int32 → Int32 → Int32 → Int32 → Int32 → Int32 → Int32 → Prop} (hX26 : ∀ (t : RV) (x1 : Int32) (x2 : Int32) (x3 : Int32) (x4 : Int32) (x5 : Int32) (x6 : Int32) (x7 : Int32) (GT : Nat → Nat → Int32), X26 t x1 x2 x3 x4 x5 x6 x7 → yJ Z ({ frames := 6, cells := 0, slots := 0, locals := 136 } : Room) 0 0 ([mnC x (A 0) (T 0) rs (P 0) hst rl, dayC A d, tabC T t, padC P p] ++ (dayR g A d G ++ (tabR g T t GT ++ (padR g P p GP ++ [histW g hst arr xs R]))) : List va_W) 26 [(0, .ref x), (1, .int x1), (2, .int x2), (3, .int x3), (4, .int x4), (5, .int x5), (6, .int x6), (7, .int x7)] []) (hX237 : ∀ (t : RV) (x1 : Int32) (x2 : Int32) (x3 : Int32) (x4 : Int32) (x5 : Int32) (x6 : Int32) (x7 : Int32) (GT : Nat → Nat → Int32), X237 t x1 x2 x3 x4 x5 x6 x7 → yJ Z ({ frames := 6, cells := 0, slots := 0, locals := 136 } : Room) 0 0 ([mnC x (A 0) (T 0) rs (P 0) hst rl, dayC A d, tabC T t, padC P p] ++ (dayR g A d G ++ (tabR g T t GT ++ (padR g P p GP ++ [histW g hst arr xs R]))) : List va_W) 237 [(0, .ref x), (1, .int x1), (2, .int x2), (3, .int x3), (4, .int x4), (5, .int x5), (6, .int x6), (7, .int x7)] []) {K : Int32 → RV → Prop} (hK : ∀ (r0 : Int32) (t : RV) (GT : Nat → Nat → Int32), K r0 t → post r0 ([mnC x (A 0) (T 0) rs (P 0) hst rl, dayC A d, tabC T t, padC P p] ++ (dayR g A d G ++ (tabR g T t GT ++ (padR g P p GP ++ [histW g hst arr xs R]))) : List va_W)) (t : RV) (GT : Nat → Nat → Int32) (h : wp_L_holds_458 d p xs X26 X237 K t) : yJ Z ({ frames := 6, cells := 0, slots := 0, locals := 136 } : Room) 0 0 ([mnC x (A 0) (T 0) rs (P 0) hst rl, dayC A d, tabC T t, padC P p] ++ (dayR g A d G ++ (tabR g T t GT ++ (padR g P p GP ++ [histW g hst arr xs R]))) : List va_W) 458 [] [] := by
  unfold wp_L_holds_458 at h
  refine y_iconst (v := 0) C dL_holds_458 (by decide) ?_
  exact HR 459 dL_holds_459 (0 : Int32) _ _ _ _ (rfl) (Nat.le_of_ble_eq_true rfl) (Nat.le_of_ble_eq_true rfl) (hK _ _ _ h)
set_option maxHeartbeats 4000000 in
set_option maxRecDepth 100000 in
theorem w_L_holds_444 {Z : yZ} (g : yG) (x rs rl : Nat) (A : Nat → Nat) (d : RV) (G : Nat → Nat → Int32) (T : Nat → Nat) (P : Nat → Nat) (p : RV) (GP : Nat → Nat → Int32) (hst arr : Nat) (xs : List RV) (R : List ((Nat → Nat) × RV × (Nat → Nat → Int32))) (C : yC Z g cL_holds 12 wsL_holds RL) {post : Int32 → List va_W → Prop} (HR : yRi Z ({ frames := 6, cells := 0, slots := 0, locals := 136 } : Room) cL_holds .boolean post 0 0) {X26 : RV → Int32 → Int32 → Int32 → Int32 → Int32 → Int32 → Int32 → Prop} {X237 : RV → Int32 → Int32 → Int32 → Int32 → Int32 → Int32 → Int32 → Prop} (hX26 : ∀ (t : RV) (x1 : Int32) (x2 : Int32) (x3 : Int32) (x4 : Int32) (x5 : Int32) (x6 : Int32) (x7 : Int32) (GT : Nat → Nat → Int32), X26 t x1 x2 x3 x4 x5 x6 x7 → yJ Z ({ frames := 6, cells := 0, slots := 0, locals := 136 } : Room) 0 0 ([mnC x (A 0) (T 0) rs (P 0) hst rl, dayC A d, tabC T t, padC P p] ++ (dayR g A d G ++ (tabR g T t GT ++ (padR g P p GP ++ [histW g hst arr xs R]))) : List va_W) 26 [(0, .ref x), (1, .int x1), (2, .int x2), (3, .int x3), (4, .int x4), (5, .int x5), (6, .int x6), (7, .int x7)] []) (hX237 : ∀ (t : RV) (x1 : Int32) (x2 : Int32) (x3 : Int32) (x4 : Int32) (x5 : Int32) (x6 : Int32) (x7 : Int32) (GT : Nat → Nat → Int32), X237 t x1 x2 x3 x4 x5 x6 x7 → yJ Z ({ frames := 6, cells := 0, slots := 0, locals := 136 } : Room) 0 0 ([mnC x (A 0) (T 0) rs (P 0) hst rl, dayC A d, tabC T t, padC P p] ++ (dayR g A d G ++ (tabR g T t GT ++ (padR g P p GP ++ [histW g hst arr xs R]))) : List va_W) 237 [(0, .ref x), (1, .int x1), (2, .int x2), (3, .int x3), (4, .int x4), (5, .int x5), (6, .int x6), (7, .int x7)] []) {K : Int32 → RV → Prop} (hK : ∀ (r0 : Int32) (t : RV) (GT : Nat → Nat → Int32), K r0 t → post r0 ([mnC x (A 0) (T 0) rs (P 0) hst rl, dayC A d, tabC T t, padC P p] ++ (dayR g A d G ++ (tabR g T t GT ++ (padR g P p GP ++ [histW g hst arr xs R]))) : List va_W)) (t : RV) (x3 : Int32) (GT : Nat → Nat → Int32) (h : wp_L_holds_444 d p xs X26 X237 K t x3) : yJ Z ({ frames := 6, cells := 0, slots := 0, locals := 136 } : Room) 0 0 ([mnC x (A 0) (T 0) rs (P 0) hst rl, dayC A d, tabC T t, padC P p] ++ (dayR g A d G ++ (tabR g T t GT ++ (padR g P p GP ++ [histW g hst arr xs R]))) : List va_W) 444 [(0, .ref x), (3, .int x3)] [] := by
  unfold wp_L_holds_444 at h
  refine y_aload_n C dL_holds_444 0 rfl rfl ?_
  refine y_iload_n C dL_holds_445 1 rfl rfl ?_
  refine y_iconst (v := 0) C dL_holds_446 (by decide) ?_
  refine y_callV (As := [.int x3, .int (0 : Int32)]) (rest := []) C dL_holds_447 (c_X6_visit g x rs (P 0) hst rl A d G T t GT x3 (0 : Int32)) rfl rfl rfl rfl ⟨Nat.le_of_ble_eq_true rfl, Nat.le_of_ble_eq_true rfl⟩ gL_holds_X6_visit (nA := 2) (by decide +kernel) rfl (sh_9004 g x (A 0) (T 0) rs (P 0) hst rl A d G T t GT) (Nat.le_of_ble_eq_true rfl) ⟨Nat.le_of_ble_eq_true rfl, Nat.le_of_ble_eq_true rfl⟩ [0, 1, 2, 4, 5, 6, 7, 8, 9, 10, 11, 12, 13, 14, 15, 16, 17, 18, 19, 20] [3, 21, 22, 23] (nB := 24) rfl (by decide +kernel) (sh_9003 g x (A 0) (T 0) rs (P 0) hst rl A d G T t GT P p GP hst arr xs R) (fun r4 w9 hw => ?_)
  obtain ⟨er4, t1, G2, e3, rfl⟩ := hw
  have h := y_letP h er4
  have h := y_letP h e3
  refine ⟨([mnC x (A 0) (T 0) rs (P 0) hst rl, dayC A d, tabC T t1, padC P p] ++ (dayR g A d G ++ (tabR g T t1 G2 ++ (padR g P p GP ++ [histW g hst arr xs R]))) : List va_W), (sh_9005 g x (A 0) (T 0) rs (P 0) hst rl A d G T t GT P p GP hst arr xs R t1 G2), ?_⟩
  refine y_iconst (v := -1) C dL_holds_450 (by decide) ?_
  refine y_icmp_ne (tgt := 458) C dL_holds_451 rfl h (fun c451 h => ?_) (fun c451 h => ?_)
  · refine y_sub (lv' := []) [] rfl ?_
    exact w_L_holds_458 g x rs rl A d G T P p GP hst arr xs R C HR hX26 hX237 hK _ _ h
  · refine y_iconst (v := 1) C dL_holds_454 (by decide) ?_
    refine y_goto (tgt := 459) C dL_holds_455 rfl ?_
    exact HR 459 dL_holds_459 (1 : Int32) _ _ _ _ (rfl) (Nat.le_of_ble_eq_true rfl) (Nat.le_of_ble_eq_true rfl) (hK _ _ _ h)
set_option maxHeartbeats 4000000 in
set_option maxRecDepth 100000 in
theorem w_L_holds_377 {Z : yZ} (g : yG) (x rs rl : Nat) (A : Nat → Nat) (d : RV) (G : Nat → Nat → Int32) (T : Nat → Nat) (P : Nat → Nat) (p : RV) (GP : Nat → Nat → Int32) (hst arr : Nat) (xs : List RV) (R : List ((Nat → Nat) × RV × (Nat → Nat → Int32))) (C : yC Z g cL_holds 12 wsL_holds RL) {post : Int32 → List va_W → Prop} (HR : yRi Z ({ frames := 6, cells := 0, slots := 0, locals := 136 } : Room) cL_holds .boolean post 0 0) {X26 : RV → Int32 → Int32 → Int32 → Int32 → Int32 → Int32 → Int32 → Prop} {X237 : RV → Int32 → Int32 → Int32 → Int32 → Int32 → Int32 → Int32 → Prop} (hX26 : ∀ (t : RV) (x1 : Int32) (x2 : Int32) (x3 : Int32) (x4 : Int32) (x5 : Int32) (x6 : Int32) (x7 : Int32) (GT : Nat → Nat → Int32), X26 t x1 x2 x3 x4 x5 x6 x7 → yJ Z ({ frames := 6, cells := 0, slots := 0, locals := 136 } : Room) 0 0 ([mnC x (A 0) (T 0) rs (P 0) hst rl, dayC A d, tabC T t, padC P p] ++ (dayR g A d G ++ (tabR g T t GT ++ (padR g P p GP ++ [histW g hst arr xs R]))) : List va_W) 26 [(0, .ref x), (1, .int x1), (2, .int x2), (3, .int x3), (4, .int x4), (5, .int x5), (6, .int x6), (7, .int x7)] []) (hX237 : ∀ (t : RV) (x1 : Int32) (x2 : Int32) (x3 : Int32) (x4 : Int32) (x5 : Int32) (x6 : Int32) (x7 : Int32) (GT : Nat → Nat → Int32), X237 t x1 x2 x3 x4 x5 x6 x7 → yJ Z ({ frames := 6, cells := 0, slots := 0, locals := 136 } : Room) 0 0 ([mnC x (A 0) (T 0) rs (P 0) hst rl, dayC A d, tabC T t, padC P p] ++ (dayR g A d G ++ (tabR g T t GT ++ (padR g P p GP ++ [histW g hst arr xs R]))) : List va_W) 237 [(0, .ref x), (1, .int x1), (2, .int x2), (3, .int x3), (4, .int x4), (5, .int x5), (6, .int x6), (7, .int x7)] []) {K : Int32 → RV → Prop} (hK : ∀ (r0 : Int32) (t : RV) (GT : Nat → Nat → Int32), K r0 t → post r0 ([mnC x (A 0) (T 0) rs (P 0) hst rl, dayC A d, tabC T t, padC P p] ++ (dayR g A d G ++ (tabR g T t GT ++ (padR g P p GP ++ [histW g hst arr xs R]))) : List va_W)) (t : RV) (GT : Nat → Nat → Int32) (h : wp_L_holds_377 d p xs X26 X237 K t) : yJ Z ({ frames := 6, cells := 0, slots := 0, locals := 136 } : Room) 0 0 ([mnC x (A 0) (T 0) rs (P 0) hst rl, dayC A d, tabC T t, padC P p] ++ (dayR g A d G ++ (tabR g T t GT ++ (padR g P p GP ++ [histW g hst arr xs R]))) : List va_W) 377 [] [] := by
  unfold wp_L_holds_377 at h
  refine y_iconst (v := 0) C dL_holds_377 (by decide) ?_
  exact HR 378 dL_holds_378 (0 : Int32) _ _ _ _ (rfl) (Nat.le_of_ble_eq_true rfl) (Nat.le_of_ble_eq_true rfl) (hK _ _ _ h)
set_option maxHeartbeats 4000000 in
set_option maxRecDepth 100000 in
theorem w_L_holds_292 {Z : yZ} (g : yG) (x rs rl : Nat) (A : Nat → Nat) (d : RV) (G : Nat → Nat → Int32) (T : Nat → Nat) (P : Nat → Nat) (p : RV) (GP : Nat → Nat → Int32) (hst arr : Nat) (xs : List RV) (R : List ((Nat → Nat) × RV × (Nat → Nat → Int32))) (C : yC Z g cL_holds 12 wsL_holds RL) {post : Int32 → List va_W → Prop} (HR : yRi Z ({ frames := 6, cells := 0, slots := 0, locals := 136 } : Room) cL_holds .boolean post 0 0) {X26 : RV → Int32 → Int32 → Int32 → Int32 → Int32 → Int32 → Int32 → Prop} {X237 : RV → Int32 → Int32 → Int32 → Int32 → Int32 → Int32 → Int32 → Prop} (hX26 : ∀ (t : RV) (x1 : Int32) (x2 : Int32) (x3 : Int32) (x4 : Int32) (x5 : Int32) (x6 : Int32) (x7 : Int32) (GT : Nat → Nat → Int32), X26 t x1 x2 x3 x4 x5 x6 x7 → yJ Z ({ frames := 6, cells := 0, slots := 0, locals := 136 } : Room) 0 0 ([mnC x (A 0) (T 0) rs (P 0) hst rl, dayC A d, tabC T t, padC P p] ++ (dayR g A d G ++ (tabR g T t GT ++ (padR g P p GP ++ [histW g hst arr xs R]))) : List va_W) 26 [(0, .ref x), (1, .int x1), (2, .int x2), (3, .int x3), (4, .int x4), (5, .int x5), (6, .int x6), (7, .int x7)] []) (hX237 : ∀ (t : RV) (x1 : Int32) (x2 : Int32) (x3 : Int32) (x4 : Int32) (x5 : Int32) (x6 : Int32) (x7 : Int32) (GT : Nat → Nat → Int32), X237 t x1 x2 x3 x4 x5 x6 x7 → yJ Z ({ frames := 6, cells := 0, slots := 0, locals := 136 } : Room) 0 0 ([mnC x (A 0) (T 0) rs (P 0) hst rl, dayC A d, tabC T t, padC P p] ++ (dayR g A d G ++ (tabR g T t GT ++ (padR g P p GP ++ [histW g hst arr xs R]))) : List va_W) 237 [(0, .ref x), (1, .int x1), (2, .int x2), (3, .int x3), (4, .int x4), (5, .int x5), (6, .int x6), (7, .int x7)] []) {K : Int32 → RV → Prop} (hK : ∀ (r0 : Int32) (t : RV) (GT : Nat → Nat → Int32), K r0 t → post r0 ([mnC x (A 0) (T 0) rs (P 0) hst rl, dayC A d, tabC T t, padC P p] ++ (dayR g A d G ++ (tabR g T t GT ++ (padR g P p GP ++ [histW g hst arr xs R]))) : List va_W)) (t : RV) (x1 : Int32) (x2 : Int32) (x3 : Int32) (x4 : Int32) (x5 : Int32) (x6 : Int32) (x7 : Int32) (x8 : Int32) (x9 : Int32) (x10 : Int32) (GT : Nat → Nat → Int32) (h : wp_L_holds_292 d p xs X26 X237 K t x1 x2 x3 x4 x5 x6 x7 x8 x9 x10) : yJ Z ({ frames := 6, cells := 0, slots := 0, locals := 136 } : Room) 0 0 ([mnC x (A 0) (T 0) rs (P 0) hst rl, dayC A d, tabC T t, padC P p] ++ (dayR g A d G ++ (tabR g T t GT ++ (padR g P p GP ++ [histW g hst arr xs R]))) : List va_W) 292 [(0, .ref x), (1, .int x1), (2, .int x2), (3, .int x3), (4, .int x4), (5, .int x5), (6, .int x6), (7, .int x7), (8, .int x8), (9, .int x9), (10, .int x10)] [] := by
  unfold wp_L_holds_292 at h
  refine y_iload C dL_holds_292 10 rfl ?_
  refine y_iload_n C dL_holds_294 1 rfl rfl ?_
  refine y_icmp_lt (tgt := 377) C dL_holds_295 rfl h (fun c295 h => ?_) (fun c295 h => ?_)
  · refine y_sub (lv' := []) [] rfl ?_
    exact w_L_holds_377 g x rs rl A d G T P p GP hst arr xs R C HR hX26 hX237 hK _ _ h
  · refine y_iload C dL_holds_298 10 rfl ?_
    refine y_aload_n C dL_holds_300 0 rfl rfl ?_
    refine y_iconst (v := 3) C dL_holds_301 (by decide) ?_
    refine y_callV (As := [.int (3 : Int32)]) (rest := [.int x10]) C dL_holds_302 (k_X6_count g x rs rl A d G T t GT P p GP hst arr xs R (3 : Int32)) rfl rfl rfl rfl ⟨Nat.le_of_ble_eq_true rfl, Nat.le_of_ble_eq_true rfl⟩ gL_holds_X6_count (nA := 1) (by decide +kernel) rfl (sh_9001 g x (A 0) (T 0) rs (P 0) hst rl A d G T t GT P p GP hst arr xs R) (Nat.le_of_ble_eq_true rfl) ⟨Nat.le_of_ble_eq_true rfl, Nat.le_of_ble_eq_true rfl⟩ [0, 1, 2, 3, 4, 5, 6, 7, 8, 9, 10, 11, 12, 13, 14, 15, 16, 17, 18, 19, 20, 21, 22, 23] [] (nB := 24) rfl (by decide +kernel) (sh_9000 g x (A 0) (T 0) rs (P 0) hst rl A d G T t GT P p GP hst arr xs R) (fun r4 w9 hw => ?_)
    obtain ⟨er4, t1, G2, e3, rfl⟩ := hw
    have h := y_letP h er4
    have h := y_letP h e3
    refine ⟨([mnC x (A 0) (T 0) rs (P 0) hst rl, dayC A d, tabC T t1, padC P p] ++ (dayR g A d G ++ (tabR g T t1 G2 ++ (padR g P p GP ++ [histW g hst arr xs R]))) : List va_W), (sh_9002 g x (A 0) (T 0) rs (P 0) hst rl A d G T t GT P p GP hst arr xs R t1 G2), ?_⟩
    refine y_icmp_lt (tgt := 377) C dL_holds_305 rfl h (fun c305 h => ?_) (fun c305 h => ?_)
    · refine y_sub (lv' := []) [] rfl ?_
      exact w_L_holds_377 g x rs rl A d G T P p GP hst arr xs R C HR hX26 hX237 hK _ _ h
    · refine y_aload_n C dL_holds_308 0 rfl rfl ?_
      refine y_iload C dL_holds_309 7 rfl ?_
      refine y_iconst (v := 4) C dL_holds_311 (by decide) ?_
      refine y_callV (As := [.int x7, .int (4 : Int32)]) (rest := []) C dL_holds_312 (c_X6_visit g x rs (P 0) hst rl A d G T t1 G2 x7 (4 : Int32)) rfl rfl rfl rfl ⟨Nat.le_of_ble_eq_true rfl, Nat.le_of_ble_eq_true rfl⟩ gL_holds_X6_visit (nA := 2) (by decide +kernel) rfl (sh_9004 g x (A 0) (T 0) rs (P 0) hst rl A d G T t1 G2) (Nat.le_of_ble_eq_true rfl) ⟨Nat.le_of_ble_eq_true rfl, Nat.le_of_ble_eq_true rfl⟩ [0, 1, 2, 4, 5, 6, 7, 8, 9, 10, 11, 12, 13, 14, 15, 16, 17, 18, 19, 20] [3, 21, 22, 23] (nB := 24) rfl (by decide +kernel) (sh_9003 g x (A 0) (T 0) rs (P 0) hst rl A d G T t1 G2 P p GP hst arr xs R) (fun r8 w9 hw => ?_)
      obtain ⟨er8, t5, G6, e7, rfl⟩ := hw
      have h := y_letP h er8
      have h := y_letP h e7
      refine ⟨([mnC x (A 0) (T 0) rs (P 0) hst rl, dayC A d, tabC T t5, padC P p] ++ (dayR g A d G ++ (tabR g T t5 G6 ++ (padR g P p GP ++ [histW g hst arr xs R]))) : List va_W), (sh_9005 g x (A 0) (T 0) rs (P 0) hst rl A d G T t1 G2 P p GP hst arr xs R t5 G6), ?_⟩
      refine y_iload_n C dL_holds_315 2 rfl rfl ?_
      refine y_icmp_ne (tgt := 377) C dL_holds_316 rfl h (fun c316 h => ?_) (fun c316 h => ?_)
      · refine y_sub (lv' := []) [] rfl ?_
        exact w_L_holds_377 g x rs rl A d G T P p GP hst arr xs R C HR hX26 hX237 hK _ _ h
      · refine y_iload C dL_holds_319 10 rfl ?_
        refine y_aload_n C dL_holds_321 0 rfl rfl ?_
        refine y_iload C dL_holds_322 8 rfl ?_
        refine y_iload C dL_holds_324 9 rfl ?_
        refine y_if_eq (tgt := 334) C dL_holds_326 rfl h (fun c326 h => ?_) (fun c326 h => ?_)
        · refine y_iconst (v := 5) C dL_holds_334 (by decide) ?_
          refine y_callV (As := [.int x8, .int (5 : Int32)]) (rest := [.int x10]) C dL_holds_335 (c_X6_ride g x rs (P 0) hst rl A d G T t5 G6 x8 (5 : Int32)) rfl rfl rfl rfl ⟨Nat.le_of_ble_eq_true rfl, Nat.le_of_ble_eq_true rfl⟩ gL_holds_X6_ride (nA := 2) (by decide +kernel) rfl (sh_9004 g x (A 0) (T 0) rs (P 0) hst rl A d G T t5 G6) (Nat.le_of_ble_eq_true rfl) ⟨Nat.le_of_ble_eq_true rfl, Nat.le_of_ble_eq_true rfl⟩ [0, 1, 2, 4, 5, 6, 7, 8, 9, 10, 11, 12, 13, 14, 15, 16, 17, 18, 19, 20] [3, 21, 22, 23] (nB := 24) rfl (by decide +kernel) (sh_9003 g x (A 0) (T 0) rs (P 0) hst rl A d G T t5 G6 P p GP hst arr xs R) (fun r12 w9 hw => ?_)
          obtain ⟨er12, t9, G10, e11, rfl⟩ := hw
          have h := y_letP h er12
          have h := y_letP h e11
          refine ⟨([mnC x (A 0) (T 0) rs (P 0) hst rl, dayC A d, tabC T t9, padC P p] ++ (dayR g A d G ++ (tabR g T t9 G10 ++ (padR g P p GP ++ [histW g hst arr xs R]))) : List va_W), (sh_9005 g x (A 0) (T 0) rs (P 0) hst rl A d G T t5 G6 P p GP hst arr xs R t9 G10), ?_⟩
          refine y_icmp_ne (tgt := 377) C dL_holds_338 rfl h (fun c338 h => ?_) (fun c338 h => ?_)
          · refine y_sub (lv' := []) [] rfl ?_
            exact w_L_holds_377 g x rs rl A d G T P p GP hst arr xs R C HR hX26 hX237 hK _ _ h
          · refine y_aload_n C dL_holds_341 0 rfl rfl ?_
            refine y_iload C dL_holds_342 7 rfl ?_
            refine y_iconst (v := 2) C dL_holds_344 (by decide) ?_
            refine y_callV (As := [.int x7, .int (2 : Int32)]) (rest := []) C dL_holds_345 (c_X6_visit g x rs (P 0) hst rl A d G T t9 G10 x7 (2 : Int32)) rfl rfl rfl rfl ⟨Nat.le_of_ble_eq_true rfl, Nat.le_of_ble_eq_true rfl⟩ gL_holds_X6_visit (nA := 2) (by decide +kernel) rfl (sh_9004 g x (A 0) (T 0) rs (P 0) hst rl A d G T t9 G10) (Nat.le_of_ble_eq_true rfl) ⟨Nat.le_of_ble_eq_true rfl, Nat.le_of_ble_eq_true rfl⟩ [0, 1, 2, 4, 5, 6, 7, 8, 9, 10, 11, 12, 13, 14, 15, 16, 17, 18, 19, 20] [3, 21, 22, 23] (nB := 24) rfl (by decide +kernel) (sh_9003 g x (A 0) (T 0) rs (P 0) hst rl A d G T t9 G10 P p GP hst arr xs R) (fun r16 w9 hw => ?_)
            obtain ⟨er16, t13, G14, e15, rfl⟩ := hw
            have h := y_letP h er16
            have h := y_letP h e15
            refine ⟨([mnC x (A 0) (T 0) rs (P 0) hst rl, dayC A d, tabC T t13, padC P p] ++ (dayR g A d G ++ (tabR g T t13 G14 ++ (padR g P p GP ++ [histW g hst arr xs R]))) : List va_W), (sh_9005 g x (A 0) (T 0) rs (P 0) hst rl A d G T t9 G10 P p GP hst arr xs R t13 G14), ?_⟩
            refine y_aload_n C dL_holds_348 0 rfl rfl ?_
            refine y_iload C dL_holds_349 8 rfl ?_
            refine y_iload C dL_holds_351 9 rfl ?_
            refine y_if_eq (tgt := 360) C dL_holds_353 rfl (y_same (c := x9 = 0) h) (fun c353 h => ?_) (fun c353 h => ?_)
            · refine y_iconst (v := 0) C dL_holds_360 (by decide) ?_
              refine y_callV (As := [.int x8, .int (0 : Int32)]) (rest := [.int r16]) C dL_holds_361 (c_X6_ride g x rs (P 0) hst rl A d G T t13 G14 x8 (0 : Int32)) rfl rfl rfl rfl ⟨Nat.le_of_ble_eq_true rfl, Nat.le_of_ble_eq_true rfl⟩ gL_holds_X6_ride (nA := 2) (by decide +kernel) rfl (sh_9004 g x (A 0) (T 0) rs (P 0) hst rl A d G T t13 G14) (Nat.le_of_ble_eq_true rfl) ⟨Nat.le_of_ble_eq_true rfl, Nat.le_of_ble_eq_true rfl⟩ [0, 1, 2, 4, 5, 6, 7, 8, 9, 10, 11, 12, 13, 14, 15, 16, 17, 18, 19, 20] [3, 21, 22, 23] (nB := 24) rfl (by decide +kernel) (sh_9003 g x (A 0) (T 0) rs (P 0) hst rl A d G T t13 G14 P p GP hst arr xs R) (fun r20 w9 hw => ?_)
              obtain ⟨er20, t17, G18, e19, rfl⟩ := hw
              have h := y_letP h er20
              have h := y_letP h e19
              refine ⟨([mnC x (A 0) (T 0) rs (P 0) hst rl, dayC A d, tabC T t17, padC P p] ++ (dayR g A d G ++ (tabR g T t17 G18 ++ (padR g P p GP ++ [histW g hst arr xs R]))) : List va_W), (sh_9005 g x (A 0) (T 0) rs (P 0) hst rl A d G T t13 G14 P p GP hst arr xs R t17 G18), ?_⟩
              refine y_icmp_ne (tgt := 377) C dL_holds_364 rfl h (fun c364 h => ?_) (fun c364 h => ?_)
              · refine y_sub (lv' := []) [] rfl ?_
                exact w_L_holds_377 g x rs rl A d G T P p GP hst arr xs R C HR hX26 hX237 hK _ _ h
              · refine y_aload_n C dL_holds_367 0 rfl rfl ?_
                refine y_iload C dL_holds_368 7 rfl ?_
                refine y_iconst (v := 5) C dL_holds_370 (by decide) ?_
                refine y_callV (As := [.int x7, .int (5 : Int32)]) (rest := []) C dL_holds_371 (c_X6_visit g x rs (P 0) hst rl A d G T t17 G18 x7 (5 : Int32)) rfl rfl rfl rfl ⟨Nat.le_of_ble_eq_true rfl, Nat.le_of_ble_eq_true rfl⟩ gL_holds_X6_visit (nA := 2) (by decide +kernel) rfl (sh_9004 g x (A 0) (T 0) rs (P 0) hst rl A d G T t17 G18) (Nat.le_of_ble_eq_true rfl) ⟨Nat.le_of_ble_eq_true rfl, Nat.le_of_ble_eq_true rfl⟩ [0, 1, 2, 4, 5, 6, 7, 8, 9, 10, 11, 12, 13, 14, 15, 16, 17, 18, 19, 20] [3, 21, 22, 23] (nB := 24) rfl (by decide +kernel) (sh_9003 g x (A 0) (T 0) rs (P 0) hst rl A d G T t17 G18 P p GP hst arr xs R) (fun r24 w9 hw => ?_)
                obtain ⟨er24, t21, G22, e23, rfl⟩ := hw
                have h := y_letP h er24
                have h := y_letP h e23
                refine ⟨([mnC x (A 0) (T 0) rs (P 0) hst rl, dayC A d, tabC T t21, padC P p] ++ (dayR g A d G ++ (tabR g T t21 G22 ++ (padR g P p GP ++ [histW g hst arr xs R]))) : List va_W), (sh_9005 g x (A 0) (T 0) rs (P 0) hst rl A d G T t17 G18 P p GP hst arr xs R t21 G22), ?_⟩
                refine y_if_ge (tgt := 379) C dL_holds_374 rfl h (fun c374 h => ?_) (fun c374 h => ?_)
                · refine y_iload C dL_holds_379 10 rfl ?_
                  refine y_aload_n C dL_holds_381 0 rfl rfl ?_
                  refine y_bipush (v := 11) C dL_holds_382 (by decide) ?_
                  refine y_callV (As := [.int (11 : Int32)]) (rest := [.int x10]) C dL_holds_384 (k_X6_count g x rs rl A d G T t21 G22 P p GP hst arr xs R (11 : Int32)) rfl rfl rfl rfl ⟨Nat.le_of_ble_eq_true rfl, Nat.le_of_ble_eq_true rfl⟩ gL_holds_X6_count (nA := 1) (by decide +kernel) rfl (sh_9001 g x (A 0) (T 0) rs (P 0) hst rl A d G T t21 G22 P p GP hst arr xs R) (Nat.le_of_ble_eq_true rfl) ⟨Nat.le_of_ble_eq_true rfl, Nat.le_of_ble_eq_true rfl⟩ [0, 1, 2, 3, 4, 5, 6, 7, 8, 9, 10, 11, 12, 13, 14, 15, 16, 17, 18, 19, 20, 21, 22, 23] [] (nB := 24) rfl (by decide +kernel) (sh_9000 g x (A 0) (T 0) rs (P 0) hst rl A d G T t21 G22 P p GP hst arr xs R) (fun r28 w9 hw => ?_)
                  obtain ⟨er28, t25, G26, e27, rfl⟩ := hw
                  have h := y_letP h er28
                  have h := y_letP h e27
                  refine ⟨([mnC x (A 0) (T 0) rs (P 0) hst rl, dayC A d, tabC T t25, padC P p] ++ (dayR g A d G ++ (tabR g T t25 G26 ++ (padR g P p GP ++ [histW g hst arr xs R]))) : List va_W), (sh_9002 g x (A 0) (T 0) rs (P 0) hst rl A d G T t21 G22 P p GP hst arr xs R t25 G26), ?_⟩
                  refine y_iadd C dL_holds_387 ?_
                  refine y_istore_n (lv' := [(1, .int (x10 + r28)), (0, .ref x), (2, .int x2), (3, .int x3), (4, .int x4), (5, .int x5), (6, .int x6), (7, .int x7), (8, .int x8), (9, .int x9), (10, .int x10)]) C dL_holds_388 rfl (Nat.le_of_ble_eq_true rfl) rfl ?_
                  refine y_iinc (v := (x7 + (1 : Int32))) (lv' := [(7, .int (x7 + (1 : Int32))), (1, .int (x10 + r28)), (0, .ref x), (2, .int x2), (3, .int x3), (4, .int x4), (5, .int x5), (6, .int x6), (8, .int x8), (9, .int x9), (10, .int x10)]) C dL_holds_389 7 rfl rfl (Nat.le_of_ble_eq_true rfl) rfl ?_
                  refine y_goto (tgt := 237) C dL_holds_392 rfl ?_
                  refine y_sub (lv' := [(0, .ref x), (1, .int (x10 + r28)), (2, .int x2), (3, .int x3), (4, .int x4), (5, .int x5), (6, .int x6), (7, .int (x7 + (1 : Int32)))]) [2, 1, 3, 4, 5, 6, 7, 0] rfl ?_
                  exact hX237 _ _ _ _ _ _ _ _ _ h
                · refine y_sub (lv' := []) [] rfl ?_
                  exact w_L_holds_377 g x rs rl A d G T P p GP hst arr xs R C HR hX26 hX237 hK _ _ h
            · exact absurd c326 c353
        · refine y_bipush (v := 6) C dL_holds_329 (by decide) ?_
          refine y_goto (tgt := 335) C dL_holds_331 rfl ?_
          refine y_callV (As := [.int x8, .int (6 : Int32)]) (rest := [.int x10]) C dL_holds_335 (c_X6_ride g x rs (P 0) hst rl A d G T t5 G6 x8 (6 : Int32)) rfl rfl rfl rfl ⟨Nat.le_of_ble_eq_true rfl, Nat.le_of_ble_eq_true rfl⟩ gL_holds_X6_ride (nA := 2) (by decide +kernel) rfl (sh_9004 g x (A 0) (T 0) rs (P 0) hst rl A d G T t5 G6) (Nat.le_of_ble_eq_true rfl) ⟨Nat.le_of_ble_eq_true rfl, Nat.le_of_ble_eq_true rfl⟩ [0, 1, 2, 4, 5, 6, 7, 8, 9, 10, 11, 12, 13, 14, 15, 16, 17, 18, 19, 20] [3, 21, 22, 23] (nB := 24) rfl (by decide +kernel) (sh_9003 g x (A 0) (T 0) rs (P 0) hst rl A d G T t5 G6 P p GP hst arr xs R) (fun r32 w9 hw => ?_)
          obtain ⟨er32, t29, G30, e31, rfl⟩ := hw
          have h := y_letP h er32
          have h := y_letP h e31
          refine ⟨([mnC x (A 0) (T 0) rs (P 0) hst rl, dayC A d, tabC T t29, padC P p] ++ (dayR g A d G ++ (tabR g T t29 G30 ++ (padR g P p GP ++ [histW g hst arr xs R]))) : List va_W), (sh_9005 g x (A 0) (T 0) rs (P 0) hst rl A d G T t5 G6 P p GP hst arr xs R t29 G30), ?_⟩
          refine y_icmp_ne (tgt := 377) C dL_holds_338 rfl h (fun c338 h => ?_) (fun c338 h => ?_)
          · refine y_sub (lv' := []) [] rfl ?_
            exact w_L_holds_377 g x rs rl A d G T P p GP hst arr xs R C HR hX26 hX237 hK _ _ h
          · refine y_aload_n C dL_holds_341 0 rfl rfl ?_
            refine y_iload C dL_holds_342 7 rfl ?_
            refine y_iconst (v := 2) C dL_holds_344 (by decide) ?_
            refine y_callV (As := [.int x7, .int (2 : Int32)]) (rest := []) C dL_holds_345 (c_X6_visit g x rs (P 0) hst rl A d G T t29 G30 x7 (2 : Int32)) rfl rfl rfl rfl ⟨Nat.le_of_ble_eq_true rfl, Nat.le_of_ble_eq_true rfl⟩ gL_holds_X6_visit (nA := 2) (by decide +kernel) rfl (sh_9004 g x (A 0) (T 0) rs (P 0) hst rl A d G T t29 G30) (Nat.le_of_ble_eq_true rfl) ⟨Nat.le_of_ble_eq_true rfl, Nat.le_of_ble_eq_true rfl⟩ [0, 1, 2, 4, 5, 6, 7, 8, 9, 10, 11, 12, 13, 14, 15, 16, 17, 18, 19, 20] [3, 21, 22, 23] (nB := 24) rfl (by decide +kernel) (sh_9003 g x (A 0) (T 0) rs (P 0) hst rl A d G T t29 G30 P p GP hst arr xs R) (fun r36 w9 hw => ?_)
            obtain ⟨er36, t33, G34, e35, rfl⟩ := hw
            have h := y_letP h er36
            have h := y_letP h e35
            refine ⟨([mnC x (A 0) (T 0) rs (P 0) hst rl, dayC A d, tabC T t33, padC P p] ++ (dayR g A d G ++ (tabR g T t33 G34 ++ (padR g P p GP ++ [histW g hst arr xs R]))) : List va_W), (sh_9005 g x (A 0) (T 0) rs (P 0) hst rl A d G T t29 G30 P p GP hst arr xs R t33 G34), ?_⟩
            refine y_aload_n C dL_holds_348 0 rfl rfl ?_
            refine y_iload C dL_holds_349 8 rfl ?_
            refine y_iload C dL_holds_351 9 rfl ?_
            refine y_if_eq (tgt := 360) C dL_holds_353 rfl (y_same (c := x9 = 0) h) (fun c353 h => ?_) (fun c353 h => ?_)
            · exact absurd c353 c326
            · refine y_iconst (v := 1) C dL_holds_356 (by decide) ?_
              refine y_goto (tgt := 361) C dL_holds_357 rfl ?_
              refine y_callV (As := [.int x8, .int (1 : Int32)]) (rest := [.int r36]) C dL_holds_361 (c_X6_ride g x rs (P 0) hst rl A d G T t33 G34 x8 (1 : Int32)) rfl rfl rfl rfl ⟨Nat.le_of_ble_eq_true rfl, Nat.le_of_ble_eq_true rfl⟩ gL_holds_X6_ride (nA := 2) (by decide +kernel) rfl (sh_9004 g x (A 0) (T 0) rs (P 0) hst rl A d G T t33 G34) (Nat.le_of_ble_eq_true rfl) ⟨Nat.le_of_ble_eq_true rfl, Nat.le_of_ble_eq_true rfl⟩ [0, 1, 2, 4, 5, 6, 7, 8, 9, 10, 11, 12, 13, 14, 15, 16, 17, 18, 19, 20] [3, 21, 22, 23] (nB := 24) rfl (by decide +kernel) (sh_9003 g x (A 0) (T 0) rs (P 0) hst rl A d G T t33 G34 P p GP hst arr xs R) (fun r40 w9 hw => ?_)
              obtain ⟨er40, t37, G38, e39, rfl⟩ := hw
              have h := y_letP h er40
              have h := y_letP h e39
              refine ⟨([mnC x (A 0) (T 0) rs (P 0) hst rl, dayC A d, tabC T t37, padC P p] ++ (dayR g A d G ++ (tabR g T t37 G38 ++ (padR g P p GP ++ [histW g hst arr xs R]))) : List va_W), (sh_9005 g x (A 0) (T 0) rs (P 0) hst rl A d G T t33 G34 P p GP hst arr xs R t37 G38), ?_⟩
              refine y_icmp_ne (tgt := 377) C dL_holds_364 rfl h (fun c364 h => ?_) (fun c364 h => ?_)
              · refine y_sub (lv' := []) [] rfl ?_
                exact w_L_holds_377 g x rs rl A d G T P p GP hst arr xs R C HR hX26 hX237 hK _ _ h
              · refine y_aload_n C dL_holds_367 0 rfl rfl ?_
                refine y_iload C dL_holds_368 7 rfl ?_
                refine y_iconst (v := 5) C dL_holds_370 (by decide) ?_
                refine y_callV (As := [.int x7, .int (5 : Int32)]) (rest := []) C dL_holds_371 (c_X6_visit g x rs (P 0) hst rl A d G T t37 G38 x7 (5 : Int32)) rfl rfl rfl rfl ⟨Nat.le_of_ble_eq_true rfl, Nat.le_of_ble_eq_true rfl⟩ gL_holds_X6_visit (nA := 2) (by decide +kernel) rfl (sh_9004 g x (A 0) (T 0) rs (P 0) hst rl A d G T t37 G38) (Nat.le_of_ble_eq_true rfl) ⟨Nat.le_of_ble_eq_true rfl, Nat.le_of_ble_eq_true rfl⟩ [0, 1, 2, 4, 5, 6, 7, 8, 9, 10, 11, 12, 13, 14, 15, 16, 17, 18, 19, 20] [3, 21, 22, 23] (nB := 24) rfl (by decide +kernel) (sh_9003 g x (A 0) (T 0) rs (P 0) hst rl A d G T t37 G38 P p GP hst arr xs R) (fun r44 w9 hw => ?_)
                obtain ⟨er44, t41, G42, e43, rfl⟩ := hw
                have h := y_letP h er44
                have h := y_letP h e43
                refine ⟨([mnC x (A 0) (T 0) rs (P 0) hst rl, dayC A d, tabC T t41, padC P p] ++ (dayR g A d G ++ (tabR g T t41 G42 ++ (padR g P p GP ++ [histW g hst arr xs R]))) : List va_W), (sh_9005 g x (A 0) (T 0) rs (P 0) hst rl A d G T t37 G38 P p GP hst arr xs R t41 G42), ?_⟩
                refine y_if_ge (tgt := 379) C dL_holds_374 rfl h (fun c374 h => ?_) (fun c374 h => ?_)
                · refine y_iload C dL_holds_379 10 rfl ?_
                  refine y_aload_n C dL_holds_381 0 rfl rfl ?_
                  refine y_bipush (v := 11) C dL_holds_382 (by decide) ?_
                  refine y_callV (As := [.int (11 : Int32)]) (rest := [.int x10]) C dL_holds_384 (k_X6_count g x rs rl A d G T t41 G42 P p GP hst arr xs R (11 : Int32)) rfl rfl rfl rfl ⟨Nat.le_of_ble_eq_true rfl, Nat.le_of_ble_eq_true rfl⟩ gL_holds_X6_count (nA := 1) (by decide +kernel) rfl (sh_9001 g x (A 0) (T 0) rs (P 0) hst rl A d G T t41 G42 P p GP hst arr xs R) (Nat.le_of_ble_eq_true rfl) ⟨Nat.le_of_ble_eq_true rfl, Nat.le_of_ble_eq_true rfl⟩ [0, 1, 2, 3, 4, 5, 6, 7, 8, 9, 10, 11, 12, 13, 14, 15, 16, 17, 18, 19, 20, 21, 22, 23] [] (nB := 24) rfl (by decide +kernel) (sh_9000 g x (A 0) (T 0) rs (P 0) hst rl A d G T t41 G42 P p GP hst arr xs R) (fun r48 w9 hw => ?_)
                  obtain ⟨er48, t45, G46, e47, rfl⟩ := hw
                  have h := y_letP h er48
                  have h := y_letP h e47
                  refine ⟨([mnC x (A 0) (T 0) rs (P 0) hst rl, dayC A d, tabC T t45, padC P p] ++ (dayR g A d G ++ (tabR g T t45 G46 ++ (padR g P p GP ++ [histW g hst arr xs R]))) : List va_W), (sh_9002 g x (A 0) (T 0) rs (P 0) hst rl A d G T t41 G42 P p GP hst arr xs R t45 G46), ?_⟩
                  refine y_iadd C dL_holds_387 ?_
                  refine y_istore_n (lv' := [(1, .int (x10 + r48)), (0, .ref x), (2, .int x2), (3, .int x3), (4, .int x4), (5, .int x5), (6, .int x6), (7, .int x7), (8, .int x8), (9, .int x9), (10, .int x10)]) C dL_holds_388 rfl (Nat.le_of_ble_eq_true rfl) rfl ?_
                  refine y_iinc (v := (x7 + (1 : Int32))) (lv' := [(7, .int (x7 + (1 : Int32))), (1, .int (x10 + r48)), (0, .ref x), (2, .int x2), (3, .int x3), (4, .int x4), (5, .int x5), (6, .int x6), (8, .int x8), (9, .int x9), (10, .int x10)]) C dL_holds_389 7 rfl rfl (Nat.le_of_ble_eq_true rfl) rfl ?_
                  refine y_goto (tgt := 237) C dL_holds_392 rfl ?_
                  refine y_sub (lv' := [(0, .ref x), (1, .int (x10 + r48)), (2, .int x2), (3, .int x3), (4, .int x4), (5, .int x5), (6, .int x6), (7, .int (x7 + (1 : Int32)))]) [2, 1, 3, 4, 5, 6, 7, 0] rfl ?_
                  exact hX237 _ _ _ _ _ _ _ _ _ h
                · refine y_sub (lv' := []) [] rfl ?_
                  exact w_L_holds_377 g x rs rl A d G T P p GP hst arr xs R C HR hX26 hX237 hK _ _ h
set_option maxHeartbeats 4000000 in
set_option maxRecDepth 100000 in
theorem w_L_holds_270 {Z : yZ} (g : yG) (x rs rl : Nat) (A : Nat → Nat) (d : RV) (G : Nat → Nat → Int32) (T : Nat → Nat) (P : Nat → Nat) (p : RV) (GP : Nat → Nat → Int32) (hst arr : Nat) (xs : List RV) (R : List ((Nat → Nat) × RV × (Nat → Nat → Int32))) (C : yC Z g cL_holds 12 wsL_holds RL) {post : Int32 → List va_W → Prop} (HR : yRi Z ({ frames := 6, cells := 0, slots := 0, locals := 136 } : Room) cL_holds .boolean post 0 0) {X26 : RV → Int32 → Int32 → Int32 → Int32 → Int32 → Int32 → Int32 → Prop} {X237 : RV → Int32 → Int32 → Int32 → Int32 → Int32 → Int32 → Int32 → Prop} (hX26 : ∀ (t : RV) (x1 : Int32) (x2 : Int32) (x3 : Int32) (x4 : Int32) (x5 : Int32) (x6 : Int32) (x7 : Int32) (GT : Nat → Nat → Int32), X26 t x1 x2 x3 x4 x5 x6 x7 → yJ Z ({ frames := 6, cells := 0, slots := 0, locals := 136 } : Room) 0 0 ([mnC x (A 0) (T 0) rs (P 0) hst rl, dayC A d, tabC T t, padC P p] ++ (dayR g A d G ++ (tabR g T t GT ++ (padR g P p GP ++ [histW g hst arr xs R]))) : List va_W) 26 [(0, .ref x), (1, .int x1), (2, .int x2), (3, .int x3), (4, .int x4), (5, .int x5), (6, .int x6), (7, .int x7)] []) (hX237 : ∀ (t : RV) (x1 : Int32) (x2 : Int32) (x3 : Int32) (x4 : Int32) (x5 : Int32) (x6 : Int32) (x7 : Int32) (GT : Nat → Nat → Int32), X237 t x1 x2 x3 x4 x5 x6 x7 → yJ Z ({ frames := 6, cells := 0, slots := 0, locals := 136 } : Room) 0 0 ([mnC x (A 0) (T 0) rs (P 0) hst rl, dayC A d, tabC T t, padC P p] ++ (dayR g A d G ++ (tabR g T t GT ++ (padR g P p GP ++ [histW g hst arr xs R]))) : List va_W) 237 [(0, .ref x), (1, .int x1), (2, .int x2), (3, .int x3), (4, .int x4), (5, .int x5), (6, .int x6), (7, .int x7)] []) {K : Int32 → RV → Prop} (hK : ∀ (r0 : Int32) (t : RV) (GT : Nat → Nat → Int32), K r0 t → post r0 ([mnC x (A 0) (T 0) rs (P 0) hst rl, dayC A d, tabC T t, padC P p] ++ (dayR g A d G ++ (tabR g T t GT ++ (padR g P p GP ++ [histW g hst arr xs R]))) : List va_W)) (t : RV) (x1 : Int32) (x2 : Int32) (x3 : Int32) (x4 : Int32) (x5 : Int32) (x6 : Int32) (x7 : Int32) (x8 : Int32) (x9 : Int32) (GT : Nat → Nat → Int32) (h : wp_L_holds_270 d p xs X26 X237 K t x1 x2 x3 x4 x5 x6 x7 x8 x9) : yJ Z ({ frames := 6, cells := 0, slots := 0, locals := 136 } : Room) 0 0 ([mnC x (A 0) (T 0) rs (P 0) hst rl, dayC A d, tabC T t, padC P p] ++ (dayR g A d G ++ (tabR g T t GT ++ (padR g P p GP ++ [histW g hst arr xs R]))) : List va_W) 270 [(0, .ref x), (1, .int x1), (2, .int x2), (3, .int x3), (4, .int x4), (5, .int x5), (6, .int x6), (7, .int x7), (8, .int x8), (9, .int x9)] [] := by
  unfold wp_L_holds_270 at h
  refine y_aload_n C dL_holds_270 0 rfl rfl ?_
  refine y_iload C dL_holds_271 7 rfl ?_
  refine y_iconst (v := 3) C dL_holds_273 (by decide) ?_
  refine y_callV (As := [.int x7, .int (3 : Int32)]) (rest := []) C dL_holds_274 (c_X6_visit g x rs (P 0) hst rl A d G T t GT x7 (3 : Int32)) rfl rfl rfl rfl ⟨Nat.le_of_ble_eq_true rfl, Nat.le_of_ble_eq_true rfl⟩ gL_holds_X6_visit (nA := 2) (by decide +kernel) rfl (sh_9004 g x (A 0) (T 0) rs (P 0) hst rl A d G T t GT) (Nat.le_of_ble_eq_true rfl) ⟨Nat.le_of_ble_eq_true rfl, Nat.le_of_ble_eq_true rfl⟩ [0, 1, 2, 4, 5, 6, 7, 8, 9, 10, 11, 12, 13, 14, 15, 16, 17, 18, 19, 20] [3, 21, 22, 23] (nB := 24) rfl (by decide +kernel) (sh_9003 g x (A 0) (T 0) rs (P 0) hst rl A d G T t GT P p GP hst arr xs R) (fun r4 w9 hw => ?_)
  obtain ⟨er4, t1, G2, e3, rfl⟩ := hw
  have h := y_letP h er4
  have h := y_letP h e3
  refine ⟨([mnC x (A 0) (T 0) rs (P 0) hst rl, dayC A d, tabC T t1, padC P p] ++ (dayR g A d G ++ (tabR g T t1 G2 ++ (padR g P p GP ++ [histW g hst arr xs R]))) : List va_W), (sh_9005 g x (A 0) (T 0) rs (P 0) hst rl A d G T t GT P p GP hst arr xs R t1 G2), ?_⟩
  refine y_istore (lv' := [(10, .int r4), (0, .ref x), (1, .int x1), (2, .int x2), (3, .int x3), (4, .int x4), (5, .int x5), (6, .int x6), (7, .int x7), (8, .int x8), (9, .int x9)]) C dL_holds_277 (Nat.le_of_ble_eq_true rfl) rfl ?_
  refine y_iload_n C dL_holds_279 3 rfl rfl ?_
  refine y_iload C dL_holds_280 10 rfl ?_
  refine y_if_eq (tgt := 289) C dL_holds_282 rfl h (fun c282 h => ?_) (fun c282 h => ?_)
  · refine y_iconst (v := 1) C dL_holds_289 (by decide) ?_
    refine y_iadd C dL_holds_290 ?_
    refine y_istore_n (lv' := [(2, .int (x2 + (1 : Int32))), (10, .int r4), (0, .ref x), (1, .int x1), (3, .int x3), (4, .int x4), (5, .int x5), (6, .int x6), (7, .int x7), (8, .int x8), (9, .int x9)]) C dL_holds_291 rfl (Nat.le_of_ble_eq_true rfl) rfl ?_
    refine y_sub (lv' := [(0, .ref x), (1, .int x1), (2, .int (x2 + (1 : Int32))), (3, .int x3), (4, .int x4), (5, .int x5), (6, .int x6), (7, .int x7), (8, .int x8), (9, .int x9), (10, .int r4)]) [2, 3, 0, 4, 5, 6, 7, 8, 9, 10, 1] rfl ?_
    exact w_L_holds_292 g x rs rl A d G T P p GP hst arr xs R C HR hX26 hX237 hK _ _ _ _ _ _ _ _ _ _ _ _ h
  · refine y_iconst (v := -1) C dL_holds_285 (by decide) ?_
    refine y_goto (tgt := 290) C dL_holds_286 rfl ?_
    refine y_iadd C dL_holds_290 ?_
    refine y_istore_n (lv' := [(2, .int (x2 + (-1 : Int32))), (10, .int r4), (0, .ref x), (1, .int x1), (3, .int x3), (4, .int x4), (5, .int x5), (6, .int x6), (7, .int x7), (8, .int x8), (9, .int x9)]) C dL_holds_291 rfl (Nat.le_of_ble_eq_true rfl) rfl ?_
    refine y_sub (lv' := [(0, .ref x), (1, .int x1), (2, .int (x2 + (-1 : Int32))), (3, .int x3), (4, .int x4), (5, .int x5), (6, .int x6), (7, .int x7), (8, .int x8), (9, .int x9), (10, .int r4)]) [2, 3, 0, 4, 5, 6, 7, 8, 9, 10, 1] rfl ?_
    exact w_L_holds_292 g x rs rl A d G T P p GP hst arr xs R C HR hX26 hX237 hK _ _ _ _ _ _ _ _ _ _ _ _ h
set_option maxHeartbeats 4000000 in
set_option maxRecDepth 100000 in
theorem w_L_holds_226 {Z : yZ} (g : yG) (x rs rl : Nat) (A : Nat → Nat) (d : RV) (G : Nat → Nat → Int32) (T : Nat → Nat) (P : Nat → Nat) (p : RV) (GP : Nat → Nat → Int32) (hst arr : Nat) (xs : List RV) (R : List ((Nat → Nat) × RV × (Nat → Nat → Int32))) (C : yC Z g cL_holds 12 wsL_holds RL) {post : Int32 → List va_W → Prop} (HR : yRi Z ({ frames := 6, cells := 0, slots := 0, locals := 136 } : Room) cL_holds .boolean post 0 0) {X26 : RV → Int32 → Int32 → Int32 → Int32 → Int32 → Int32 → Int32 → Prop} {X237 : RV → Int32 → Int32 → Int32 → Int32 → Int32 → Int32 → Int32 → Prop} (hX26 : ∀ (t : RV) (x1 : Int32) (x2 : Int32) (x3 : Int32) (x4 : Int32) (x5 : Int32) (x6 : Int32) (x7 : Int32) (GT : Nat → Nat → Int32), X26 t x1 x2 x3 x4 x5 x6 x7 → yJ Z ({ frames := 6, cells := 0, slots := 0, locals := 136 } : Room) 0 0 ([mnC x (A 0) (T 0) rs (P 0) hst rl, dayC A d, tabC T t, padC P p] ++ (dayR g A d G ++ (tabR g T t GT ++ (padR g P p GP ++ [histW g hst arr xs R]))) : List va_W) 26 [(0, .ref x), (1, .int x1), (2, .int x2), (3, .int x3), (4, .int x4), (5, .int x5), (6, .int x6), (7, .int x7)] []) (hX237 : ∀ (t : RV) (x1 : Int32) (x2 : Int32) (x3 : Int32) (x4 : Int32) (x5 : Int32) (x6 : Int32) (x7 : Int32) (GT : Nat → Nat → Int32), X237 t x1 x2 x3 x4 x5 x6 x7 → yJ Z ({ frames := 6, cells := 0, slots := 0, locals := 136 } : Room) 0 0 ([mnC x (A 0) (T 0) rs (P 0) hst rl, dayC A d, tabC T t, padC P p] ++ (dayR g A d G ++ (tabR g T t GT ++ (padR g P p GP ++ [histW g hst arr xs R]))) : List va_W) 237 [(0, .ref x), (1, .int x1), (2, .int x2), (3, .int x3), (4, .int x4), (5, .int x5), (6, .int x6), (7, .int x7)] []) {K : Int32 → RV → Prop} (hK : ∀ (r0 : Int32) (t : RV) (GT : Nat → Nat → Int32), K r0 t → post r0 ([mnC x (A 0) (T 0) rs (P 0) hst rl, dayC A d, tabC T t, padC P p] ++ (dayR g A d G ++ (tabR g T t GT ++ (padR g P p GP ++ [histW g hst arr xs R]))) : List va_W)) (t : RV) (GT : Nat → Nat → Int32) (h : wp_L_holds_226 d p xs X26 X237 K t) : yJ Z ({ frames := 6, cells := 0, slots := 0, locals := 136 } : Room) 0 0 ([mnC x (A 0) (T 0) rs (P 0) hst rl, dayC A d, tabC T t, padC P p] ++ (dayR g A d G ++ (tabR g T t GT ++ (padR g P p GP ++ [histW g hst arr xs R]))) : List va_W) 226 [] [] := by
  unfold wp_L_holds_226 at h
  refine y_iconst (v := 0) C dL_holds_226 (by decide) ?_
  exact HR 227 dL_holds_227 (0 : Int32) _ _ _ _ (rfl) (Nat.le_of_ble_eq_true rfl) (Nat.le_of_ble_eq_true rfl) (hK _ _ _ h)
