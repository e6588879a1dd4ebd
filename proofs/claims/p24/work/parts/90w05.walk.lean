set_option maxHeartbeats 4000000 in
set_option maxRecDepth 100000 in
theorem w_L_holds_191 {Z : yZ} (g : yG) (x rs rl : Nat) (A : Nat → Nat) (d : RV) (G : Nat → Nat → Int32) (T : Nat → Nat) (P : Nat → Nat) (p : RV) (GP : Nat → Nat → Int32) (hst arr : Nat) (xs : List RV) (R : List ((Nat → Nat) × RV × (Nat → Nat → Int32))) (C : yC Z g cL_holds 12 wsL_holds RL) {post : Int32 → List va_W → Prop} (HR : yRi Z ({ frames := 6, cells := 0, slots := 0, locals := 136 } : Room) cL_holds .boolean post 0 0) {X26 : RV → Int32 → Int32 → Int32 → Int32 → Int32 → Int32 → Int32 → Prop} {X237 : RV → Int32 → Int32 → Int32 → Int32 → Int32 → Int32 → Int32 → Prop} (hX26 : ∀ (t : RV) (x1 : Int32) (x2 : Int32) (x3 : Int32) (x4 : Int32) (x5 : Int32) (x6 : Int32) (x7 : Int32) (GT : Nat → Nat → Int32), X26 t x1 x2 x3 x4 x5 x6 x7 → yJ Z ({ frames := 6, cells := 0, slots := 0, locals := 136 } : Room) 0 0 ([mnC x (A 0) (T 0) rs (P 0) hst rl, dayC A d, tabC T t, padC P p] ++ (dayR g A d G ++ (tabR g T t GT ++ (padR g P p GP ++ [histW g hst arr xs R]))) : List va_W) 26 [(0, .ref x), (1, .int x1), (2, .int x2), (3, .int x3), (4, .int x4), (5, .int x5), (6, .int x6), (7, .int x7)] []) (hX237 : ∀ (t : RV) (x1 : Int32) (x2 : Int32) (x3 : Int32) (x4 : Int32) (x5 : Int32) (x6 : Int32) (x7 : Int32) (GT : Nat → Nat → Int32), X237 t x1 x2 x3 x4 x5 x6 x7 → yJ Z ({ frames := 6, cells := 0, slots := 0, locals := 136 } : Room) 0 0 ([mnC x (A 0) (T 0) rs (P 0) hst rl, dayC A d, tabC T t, padC P p] ++ (dayR g A d G ++ (tabR g T t GT ++ (padR g P p GP ++ [histW g hst arr xs R]))) : List va_W) 237 [(0, .ref x), (1, .int x1), (2, .int x2), (3, .int x3), (4, .int x4), (5, .int x5), (6, .int x6), (7, .int x7)] []) {K : Int32 → RV → Prop} (hK : ∀ (r0 : Int32) (t : RV) (GT : Nat → Nat → Int32), K r0 t → post r0 ([mnC x (A 0) (T 0) rs (P 0) hst rl, dayC A d, tabC T t, padC P p] ++ (dayR g A d G ++ (tabR g T t GT ++ (padR g P p GP ++ [histW g hst arr xs R]))) : List va_W)) (t : RV) (x1 : Int32) (x2 : Int32) (x3 : Int32) (x4 : Int32) (x5 : Int32) (x6 : Int32) (x7 : Int32) (x8 : Int32) (x11 : Int32) (GT : Nat → Nat → Int32) (h : wp_L_holds_191 d p xs X26 X237 K t x1 x2 x3 x4 x5 x6 x7 x8 x11) : yJ Z ({ frames := 6, cells := 0, slots := 0, locals := 136 } : Room) 0 0 ([mnC x (A 0) (T 0) rs (P 0) hst rl, dayC A d, tabC T t, padC P p] ++ (dayR g A d G ++ (tabR g T t GT ++ (padR g P p GP ++ [histW g hst arr xs R]))) : List va_W) 191 [(0, .ref x), (1, .int x1), (2, .int x2), (3, .int x3), (4, .int x4), (5, .int x5), (6, .int x6), (7, .int x7), (8, .int x8), (11, .int x11)] [] := by
  unfold wp_L_holds_191 at h
  refine y_iload C dL_holds_191 9 rfl ?_
  refine y_if_eq (tgt := 226) C dL_holds_193 rfl h (fun c193 h => ?_) (fun c193 h => ?_)
  · refine y_sub (lv' := []) [] rfl ?_
    exact w_L_holds_226 g x rs rl A d G T P p GP hst arr xs R C HR hX26 hX237 hK _ _ h
  · refine y_aload_n C dL_holds_196 0 rfl rfl ?_
    refine y_iload C dL_holds_197 7 rfl ?_
    refine y_callV (As := [.int x7]) (rest := []) C dL_holds_199 (c_X6_spare g x rs (P 0) hst rl A d G T t GT x7) rfl rfl rfl rfl ⟨Nat.le_of_ble_eq_true rfl, Nat.le_of_ble_eq_true rfl⟩ gL_holds_X6_spare (nA := 1) (by decide +kernel) rfl (sh_9004 g x (A 0) (T 0) rs (P 0) hst rl A d G T t GT) (Nat.le_of_ble_eq_true rfl) ⟨Nat.le_of_ble_eq_true rfl, Nat.le_of_ble_eq_true rfl⟩ [0, 1, 2, 4, 5, 6, 7, 8, 9, 10, 11, 12, 13, 14, 15, 16, 17, 18, 19, 20] [3, 21, 22, 23] (nB := 24) rfl (by decide +kernel) (sh_9003 g x (A 0) (T 0) rs (P 0) hst rl A d G T t GT P p GP hst arr xs R) (fun r4 w9 hw => ?_)
    obtain ⟨er4, t1, G2, e3, rfl⟩ := hw
    have h := y_letP h er4
    have h := y_letP h e3
    refine ⟨([mnC x (A 0) (T 0) rs (P 0) hst rl, dayC A d, tabC T t1, padC P p] ++ (dayR g A d G ++ (tabR g T t1 G2 ++ (padR g P p GP ++ [histW g hst arr xs R]))) : List va_W), (sh_9005 g x (A 0) (T 0) rs (P 0) hst rl A d G T t GT P p GP hst arr xs R t1 G2), ?_⟩
    refine y_bipush (v := -5) C dL_holds_202 (by decide) ?_
    refine y_icmp_ne (tgt := 211) C dL_holds_204 rfl h (fun c204 h => ?_) (fun c204 h => ?_)
    · refine y_iconst (v := 0) C dL_holds_211 (by decide) ?_
      refine y_iload C dL_holds_212 8 rfl ?_
      refine y_iconst (v := 1) C dL_holds_214 (by decide) ?_
      refine y_icmp_le (tgt := 222) C dL_holds_215 rfl h (fun c215 h => ?_) (fun c215 h => ?_)
      · refine y_iconst (v := 0) C dL_holds_222 (by decide) ?_
        refine y_icmp_eq (tgt := 228) C dL_holds_223 rfl h (fun c223 h => ?_) (fun c223 h => ?_)
        · refine y_iinc (v := (x7 + (1 : Int32))) (lv' := [(7, .int (x7 + (1 : Int32))), (0, .ref x), (1, .int x1), (2, .int x2), (3, .int x3), (4, .int x4), (5, .int x5), (6, .int x6), (8, .int x8), (11, .int x11)]) C dL_holds_228 7 rfl rfl (Nat.le_of_ble_eq_true rfl) rfl ?_
          refine y_goto (tgt := 26) C dL_holds_231 rfl ?_
          refine y_sub (lv' := [(0, .ref x), (1, .int x1), (2, .int x2), (3, .int x3), (4, .int x4), (5, .int x5), (6, .int x6), (7, .int (x7 + (1 : Int32)))]) [1, 2, 3, 4, 5, 6, 7, 0] rfl ?_
          exact hX26 _ _ _ _ _ _ _ _ _ h
        · refine y_sub (lv' := []) [] rfl ?_
          exact w_L_holds_226 g x rs rl A d G T P p GP hst arr xs R C HR hX26 hX237 hK _ _ h
      · refine y_iconst (v := 1) C dL_holds_218 (by decide) ?_
        refine y_goto (tgt := 223) C dL_holds_219 rfl ?_
        refine y_icmp_eq (tgt := 228) C dL_holds_223 rfl h (fun c223 h => ?_) (fun c223 h => ?_)
        · refine y_iinc (v := (x7 + (1 : Int32))) (lv' := [(7, .int (x7 + (1 : Int32))), (0, .ref x), (1, .int x1), (2, .int x2), (3, .int x3), (4, .int x4), (5, .int x5), (6, .int x6), (8, .int x8), (11, .int x11)]) C dL_holds_228 7 rfl rfl (Nat.le_of_ble_eq_true rfl) rfl ?_
          refine y_goto (tgt := 26) C dL_holds_231 rfl ?_
          refine y_sub (lv' := [(0, .ref x), (1, .int x1), (2, .int x2), (3, .int x3), (4, .int x4), (5, .int x5), (6, .int x6), (7, .int (x7 + (1 : Int32)))]) [1, 2, 3, 4, 5, 6, 7, 0] rfl ?_
          exact hX26 _ _ _ _ _ _ _ _ _ h
        · refine y_sub (lv' := []) [] rfl ?_
          exact w_L_holds_226 g x rs rl A d G T P p GP hst arr xs R C HR hX26 hX237 hK _ _ h
    · refine y_iconst (v := 1) C dL_holds_207 (by decide) ?_
      refine y_goto (tgt := 212) C dL_holds_208 rfl ?_
      refine y_iload C dL_holds_212 8 rfl ?_
      refine y_iconst (v := 1) C dL_holds_214 (by decide) ?_
      refine y_icmp_le (tgt := 222) C dL_holds_215 rfl h (fun c215 h => ?_) (fun c215 h => ?_)
      · refine y_iconst (v := 0) C dL_holds_222 (by decide) ?_
        refine y_icmp_eq (tgt := 228) C dL_holds_223 rfl h (fun c223 h => ?_) (fun c223 h => ?_)
        · refine y_iinc (v := (x7 + (1 : Int32))) (lv' := [(7, .int (x7 + (1 : Int32))), (0, .ref x), (1, .int x1), (2, .int x2), (3, .int x3), (4, .int x4), (5, .int x5), (6, .int x6), (8, .int x8), (11, .int x11)]) C dL_holds_228 7 rfl rfl (Nat.le_of_ble_eq_true rfl) rfl ?_
          refine y_goto (tgt := 26) C dL_holds_231 rfl ?_
          refine y_sub (lv' := [(0, .ref x), (1, .int x1), (2, .int x2), (3, .int x3), (4, .int x4), (5, .int x5), (6, .int x6), (7, .int (x7 + (1 : Int32)))]) [1, 2, 3, 4, 5, 6, 7, 0] rfl ?_
          exact hX26 _ _ _ _ _ _ _ _ _ h
        · refine y_sub (lv' := []) [] rfl ?_
          exact w_L_holds_226 g x rs rl A d G T P p GP hst arr xs R C HR hX26 hX237 hK _ _ h
      · refine y_iconst (v := 1) C dL_holds_218 (by decide) ?_
        refine y_goto (tgt := 223) C dL_holds_219 rfl ?_
        refine y_icmp_eq (tgt := 228) C dL_holds_223 rfl h (fun c223 h => ?_) (fun c223 h => ?_)
        · refine y_iinc (v := (x7 + (1 : Int32))) (lv' := [(7, .int (x7 + (1 : Int32))), (0, .ref x), (1, .int x1), (2, .int x2), (3, .int x3), (4, .int x4), (5, .int x5), (6, .int x6), (8, .int x8), (11, .int x11)]) C dL_holds_228 7 rfl rfl (Nat.le_of_ble_eq_true rfl) rfl ?_
          refine y_goto (tgt := 26) C dL_holds_231 rfl ?_
          refine y_sub (lv' := [(0, .ref x), (1, .int x1), (2, .int x2), (3, .int x3), (4, .int x4), (5, .int x5), (6, .int x6), (7, .int (x7 + (1 : Int32)))]) [1, 2, 3, 4, 5, 6, 7, 0] rfl ?_
          exact hX26 _ _ _ _ _ _ _ _ _ h
        · refine y_sub (lv' := []) [] rfl ?_
          exact w_L_holds_226 g x rs rl A d G T P p GP hst arr xs R C HR hX26 hX237 hK _ _ h
set_option maxHeartbeats 4000000 in
set_option maxRecDepth 100000 in
theorem w_L_holds_188 {Z : yZ} (g : yG) (x rs rl : Nat) (A : Nat → Nat) (d : RV) (G : Nat → Nat → Int32) (T : Nat → Nat) (P : Nat → Nat) (p : RV) (GP : Nat → Nat → Int32) (hst arr : Nat) (xs : List RV) (R : List ((Nat → Nat) × RV × (Nat → Nat → Int32))) (C : yC Z g cL_holds 12 wsL_holds RL) {post : Int32 → List va_W → Prop} (HR : yRi Z ({ frames := 6, cells := 0, slots := 0, locals := 136 } : Room) cL_holds .boolean post 0 0) {X26 : RV → Int32 → Int32 → Int32 → Int32 → Int32 → Int32 → Int32 → Prop} {X237 : RV → Int32 → Int32 → Int32 → Int32 → Int32 → Int32 → Int32 → Prop} (hX26 : ∀ (t : RV) (x1 : Int32) (x2 : Int32) (x3 : Int32) (x4 : Int32) (x5 : Int32) (x6 : Int32) (x7 : Int32) (GT : Nat → Nat → Int32), X26 t x1 x2 x3 x4 x5 x6 x7 → yJ Z ({ frames := 6, cells := 0, slots := 0, locals := 136 } : Room) 0 0 ([mnC x (A 0) (T 0) rs (P 0) hst rl, dayC A d, tabC T t, padC P p] ++ (dayR g A d G ++ (tabR g T t GT ++ (padR g P p GP ++ [histW g hst arr xs R]))) : List va_W) 26 [(0, .ref x), (1, .int x1), (2, .int x2), (3, .int x3), (4, .int x4), (5, .int x5), (6, .int x6), (7, .int x7)] []) (hX237 : ∀ (t : RV) (x1 : Int32) (x2 : Int32) (x3 : Int32) (x4 : Int32) (x5 : Int32) (x6 : Int32) (x7 : Int32) (GT : Nat → Nat → Int32), X237 t x1 x2 x3 x4 x5 x6 x7 → yJ Z ({ frames := 6, cells := 0, slots := 0, locals := 136 } : Room) 0 0 ([mnC x (A 0) (T 0) rs (P 0) hst rl, dayC A d, tabC T t, padC P p] ++ (dayR g A d G ++ (tabR g T t GT ++ (padR g P p GP ++ [histW g hst arr xs R]))) : List va_W) 237 [(0, .ref x), (1, .int x1), (2, .int x2), (3, .int x3), (4, .int x4), (5, .int x5), (6, .int x6), (7, .int x7)] []) {K : Int32 → RV → Prop} (hK : ∀ (r0 : Int32) (t : RV) (GT : Nat → Nat → Int32), K r0 t → post r0 ([mnC x (A 0) (T 0) rs (P 0) hst rl, dayC A d, tabC T t, padC P p] ++ (dayR g A d G ++ (tabR g T t GT ++ (padR g P p GP ++ [histW g hst arr xs R]))) : List va_W)) (t : RV) (x1 : Int32) (x2 : Int32) (x3 : Int32) (x4 : Int32) (x5 : Int32) (x6 : Int32) (x7 : Int32) (x8 : Int32) (GT : Nat → Nat → Int32) (h : wp_L_holds_188 d p xs X26 X237 K t x1 x2 x3 x4 x5 x6 x7 x8) : yJ Z ({ frames := 6, cells := 0, slots := 0, locals := 136 } : Room) 0 0 ([mnC x (A 0) (T 0) rs (P 0) hst rl, dayC A d, tabC T t, padC P p] ++ (dayR g A d G ++ (tabR g T t GT ++ (padR g P p GP ++ [histW g hst arr xs R]))) : List va_W) 188 [(0, .ref x), (1, .int x1), (2, .int x2), (3, .int x3), (4, .int x4), (5, .int x5), (6, .int x6), (7, .int x7), (8, .int x8)] [] := by
  unfold wp_L_holds_188 at h
  refine y_iconst (v := 0) C dL_holds_188 (by decide) ?_
  refine y_istore (lv' := [(11, .int (0 : Int32)), (0, .ref x), (1, .int x1), (2, .int x2), (3, .int x3), (4, .int x4), (5, .int x5), (6, .int x6), (7, .int x7), (8, .int x8)]) C dL_holds_189 (Nat.le_of_ble_eq_true rfl) rfl ?_
  refine y_sub (lv' := [(0, .ref x), (1, .int x1), (2, .int x2), (3, .int x3), (4, .int x4), (5, .int x5), (6, .int x6), (7, .int x7), (8, .int x8), (11, .int (0 : Int32))]) [1, 2, 3, 4, 5, 6, 7, 8, 9, 0] rfl ?_
  exact w_L_holds_191 g x rs rl A d G T P p GP hst arr xs R C HR hX26 hX237 hK _ _ _ _ _ _ _ _ _ _ _ h
set_option maxHeartbeats 4000000 in
set_option maxRecDepth 100000 in
theorem w_L_holds_149 {Z : yZ} (g : yG) (x rs rl : Nat) (A : Nat → Nat) (d : RV) (G : Nat → Nat → Int32) (T : Nat → Nat) (P : Nat → Nat) (p : RV) (GP : Nat → Nat → Int32) (hst arr : Nat) (xs : List RV) (R : List ((Nat → Nat) × RV × (Nat → Nat → Int32))) (C : yC Z g cL_holds 12 wsL_holds RL) {post : Int32 → List va_W → Prop} (HR : yRi Z ({ frames := 6, cells := 0, slots := 0, locals := 136 } : Room) cL_holds .boolean post 0 0) {X26 : RV → Int32 → Int32 → Int32 → Int32 → Int32 → Int32 → Int32 → Prop} {X237 : RV → Int32 → Int32 → Int32 → Int32 → Int32 → Int32 → Int32 → Prop} (hX26 : ∀ (t : RV) (x1 : Int32) (x2 : Int32) (x3 : Int32) (x4 : Int32) (x5 : Int32) (x6 : Int32) (x7 : Int32) (GT : Nat → Nat → Int32), X26 t x1 x2 x3 x4 x5 x6 x7 → yJ Z ({ frames := 6, cells := 0, slots := 0, locals := 136 } : Room) 0 0 ([mnC x (A 0) (T 0) rs (P 0) hst rl, dayC A d, tabC T t, padC P p] ++ (dayR g A d G ++ (tabR g T t GT ++ (padR g P p GP ++ [histW g hst arr xs R]))) : List va_W) 26 [(0, .ref x), (1, .int x1), (2, .int x2), (3, .int x3), (4, .int x4), (5, .int x5), (6, .int x6), (7, .int x7)] []) (hX237 : ∀ (t : RV) (x1 : Int32) (x2 : Int32) (x3 : Int32) (x4 : Int32) (x5 : Int32) (x6 : Int32) (x7 : Int32) (GT : Nat → Nat → Int32), X237 t x1 x2 x3 x4 x5 x6 x7 → yJ Z ({ frames := 6, cells := 0, slots := 0, locals := 136 } : Room) 0 0 ([mnC x (A 0) (T 0) rs (P 0) hst rl, dayC A d, tabC T t, padC P p] ++ (dayR g A d G ++ (tabR g T t GT ++ (padR g P p GP ++ [histW g hst arr xs R]))) : List va_W) 237 [(0, .ref x), (1, .int x1), (2, .int x2), (3, .int x3), (4, .int x4), (5, .int x5), (6, .int x6), (7, .int x7)] []) {K : Int32 → RV → Prop} (hK : ∀ (r0 : Int32) (t : RV) (GT : Nat → Nat → Int32), K r0 t → post r0 ([mnC x (A 0) (T 0) rs (P 0) hst rl, dayC A d, tabC T t, padC P p] ++ (dayR g A d G ++ (tabR g T t GT ++ (padR g P p GP ++ [histW g hst arr xs R]))) : List va_W)) (t : RV) (x1 : Int32) (x2 : Int32) (x3 : Int32) (x4 : Int32) (x5 : Int32) (x6 : Int32) (x7 : Int32) (x8 : Int32) (GT : Nat → Nat → Int32) (h : wp_L_holds_149 d p xs X26 X237 K t x1 x2 x3 x4 x5 x6 x7 x8) : yJ Z ({ frames := 6, cells := 0, slots := 0, locals := 136 } : Room) 0 0 ([mnC x (A 0) (T 0) rs (P 0) hst rl, dayC A d, tabC T t, padC P p] ++ (dayR g A d G ++ (tabR g T t GT ++ (padR g P p GP ++ [histW g hst arr xs R]))) : List va_W) 149 [(0, .ref x), (1, .int x1), (2, .int x2), (3, .int x3), (4, .int x4), (5, .int x5), (6, .int x6), (7, .int x7), (8, .int x8)] [] := by
  unfold wp_L_holds_149 at h
  refine y_iconst (v := 0) C dL_holds_149 (by decide) ?_
  refine y_goto (tgt := 189) C dL_holds_150 rfl ?_
  refine y_istore (lv' := [(11, .int (0 : Int32)), (0, .ref x), (1, .int x1), (2, .int x2), (3, .int x3), (4, .int x4), (5, .int x5), (6, .int x6), (7, .int x7), (8, .int x8)]) C dL_holds_189 (Nat.le_of_ble_eq_true rfl) rfl ?_
  refine y_sub (lv' := [(0, .ref x), (1, .int x1), (2, .int x2), (3, .int x3), (4, .int x4), (5, .int x5), (6, .int x6), (7, .int x7), (8, .int x8), (11, .int (0 : Int32))]) [1, 2, 3, 4, 5, 6, 7, 8, 9, 0] rfl ?_
  exact w_L_holds_191 g x rs rl A d G T P p GP hst arr xs R C HR hX26 hX237 hK _ _ _ _ _ _ _ _ _ _ _ h
set_option maxHeartbeats 4000000 in
set_option maxRecDepth 100000 in
theorem w_L_holds_111 {Z : yZ} (g : yG) (x rs rl : Nat) (A : Nat → Nat) (d : RV) (G : Nat → Nat → Int32) (T : Nat → Nat) (P : Nat → Nat) (p : RV) (GP : Nat → Nat → Int32) (hst arr : Nat) (xs : List RV) (R : List ((Nat → Nat) × RV × (Nat → Nat → Int32))) (C : yC Z g cL_holds 12 wsL_holds RL) {post : Int32 → List va_W → Prop} (HR : yRi Z ({ frames := 6, cells := 0, slots := 0, locals := 136 } : Room) cL_holds .boolean post 0 0) {X26 : RV → Int32 → Int32 → Int32 → Int32 → Int32 → Int32 → Int32 → Prop} {X237 : RV → Int32 → Int32 → Int32 → Int32 → Int32 → Int32 → Int32 → Prop} (hX26 : ∀ (t : RV) (x1 : Int32) (x2 : Int32) (x3 : Int32) (x4 : Int32) (x5 : Int32) (x6 : Int32) (x7 : Int32) (GT : Nat → Nat → Int32), X26 t x1 x2 x3 x4 x5 x6 x7 → yJ Z ({ frames := 6, cells := 0, slots := 0, locals := 136 } : Room) 0 0 ([mnC x (A 0) (T 0) rs (P 0) hst rl, dayC A d, tabC T t, padC P p] ++ (dayR g A d G ++ (tabR g T t GT ++ (padR g P p GP ++ [histW g hst arr xs R]))) : List va_W) 26 [(0, .ref x), (1, .int x1), (2, .int x2), (3, .int x3), (4, .int x4), (5, .int x5), (6, .int x6), (7, .int x7)] []) (hX237 : ∀ (t : RV) (x1 : Int32) (x2 : Int32) (x3 : Int32) (x4 : Int32) (x5 : Int32) (x6 : Int32) (x7 : Int32) (GT : Nat → Nat → Int32), X237 t x1 x2 x3 x4 x5 x6 x7 → yJ Z ({ frames := 6, cells := 0, slots := 0, locals := 136 } : Room) 0 0 ([mnC x (A 0) (T 0) rs (P 0) hst rl, dayC A d, tabC T t, padC P p] ++ (dayR g A d G ++ (tabR g T t GT ++ (padR g P p GP ++ [histW g hst arr xs R]))) : List va_W) 237 [(0, .ref x), (1, .int x1), (2, .int x2), (3, .int x3), (4, .int x4), (5, .int x5), (6, .int x6), (7, .int x7)] []) {K : Int32 → RV → Prop} (hK : ∀ (r0 : Int32) (t : RV) (GT : Nat → Nat → Int32), K r0 t → post r0 ([mnC x (A 0) (T 0) rs (P 0) hst rl, dayC A d, tabC T t, padC P p] ++ (dayR g A d G ++ (tabR g T t GT ++ (padR g P p GP ++ [histW g hst arr xs R]))) : List va_W)) (t : RV) (x1 : Int32) (x2 : Int32) (x3 : Int32) (x4 : Int32) (x5 : Int32) (x6 : Int32) (x7 : Int32) (x8 : Int32) (x9 : Int32) (x10 : Int32) (GT : Nat → Nat → Int32) (h : wp_L_holds_111 d p xs X26 X237 K t x1 x2 x3 x4 x5 x6 x7 x8 x9 x10) : yJ Z ({ frames := 6, cells := 0, slots := 0, locals := 136 } : Room) 0 0 ([mnC x (A 0) (T 0) rs (P 0) hst rl, dayC A d, tabC T t, padC P p] ++ (dayR g A d G ++ (tabR g T t GT ++ (padR g P p GP ++ [histW g hst arr xs R]))) : List va_W) 111 [(0, .ref x), (1, .int x1), (2, .int x2), (3, .int x3), (4, .int x4), (5, .int x5), (6, .int x6), (7, .int x7), (8, .int x8), (9, .int x9), (10, .int x10)] [] := by
  unfold wp_L_holds_111 at h
  refine y_iload C dL_holds_111 8 rfl ?_
  refine y_iconst (v := 3) C dL_holds_113 (by decide) ?_
  refine y_icmp_ge (tgt := 153) C dL_holds_114 rfl h (fun c114 h => ?_) (fun c114 h => ?_)
  · refine y_iload C dL_holds_153 10 rfl ?_
    refine y_bipush (v := -6) C dL_holds_155 (by decide) ?_
    refine y_icmp_ne (tgt := 188) C dL_holds_157 rfl h (fun c157 h => ?_) (fun c157 h => ?_)
    · refine y_sub (lv' := [(0, .ref x), (1, .int x1), (2, .int x2), (3, .int x3), (4, .int x4), (5, .int x5), (6, .int x6), (7, .int x7), (8, .int x8)]) [0, 1, 2, 3, 4, 5, 6, 7, 8] rfl ?_
      exact w_L_holds_188 g x rs rl A d G T P p GP hst arr xs R C HR hX26 hX237 hK _ _ _ _ _ _ _ _ _ _ h
    · refine y_iload C dL_holds_160 8 rfl ?_
      refine y_iconst (v := 4) C dL_holds_162 (by decide) ?_
      refine y_icmp_ne (tgt := 170) C dL_holds_163 rfl h (fun c163 h => ?_) (fun c163 h => ?_)
      · refine y_iconst (v := 0) C dL_holds_170 (by decide) ?_
        refine y_iload C dL_holds_171 9 rfl ?_
        refine y_if_lt (tgt := 180) C dL_holds_173 rfl h (fun c173 h => ?_) (fun c173 h => ?_)
        · refine y_iconst (v := 0) C dL_holds_180 (by decide) ?_
          refine y_icmp_ne (tgt := 188) C dL_holds_181 rfl h (fun c181 h => ?_) (fun c181 h => ?_)
          · refine y_sub (lv' := [(0, .ref x), (1, .int x1), (2, .int x2), (3, .int x3), (4, .int x4), (5, .int x5), (6, .int x6), (7, .int x7), (8, .int x8)]) [0, 1, 2, 3, 4, 5, 6, 7, 8] rfl ?_
            exact w_L_holds_188 g x rs rl A d G T P p GP hst arr xs R C HR hX26 hX237 hK _ _ _ _ _ _ _ _ _ _ h
          · refine y_iconst (v := 1) C dL_holds_184 (by decide) ?_
            refine y_goto (tgt := 189) C dL_holds_185 rfl ?_
            refine y_istore (lv' := [(11, .int (1 : Int32)), (0, .ref x), (1, .int x1), (2, .int x2), (3, .int x3), (4, .int x4), (5, .int x5), (6, .int x6), (7, .int x7), (8, .int x8), (9, .int x9), (10, .int x10)]) C dL_holds_189 (Nat.le_of_ble_eq_true rfl) rfl ?_
            refine y_sub (lv' := [(0, .ref x), (1, .int x1), (2, .int x2), (3, .int x3), (4, .int x4), (5, .int x5), (6, .int x6), (7, .int x7), (8, .int x8), (11, .int (1 : Int32))]) [1, 2, 3, 4, 5, 6, 7, 8, 9, 0] rfl ?_
            exact w_L_holds_191 g x rs rl A d G T P p GP hst arr xs R C HR hX26 hX237 hK _ _ _ _ _ _ _ _ _ _ _ h
        · refine y_iconst (v := 1) C dL_holds_176 (by decide) ?_
          refine y_goto (tgt := 181) C dL_holds_177 rfl ?_
          refine y_icmp_ne (tgt := 188) C dL_holds_181 rfl h (fun c181 h => ?_) (fun c181 h => ?_)
          · refine y_sub (lv' := [(0, .ref x), (1, .int x1), (2, .int x2), (3, .int x3), (4, .int x4), (5, .int x5), (6, .int x6), (7, .int x7), (8, .int x8)]) [0, 1, 2, 3, 4, 5, 6, 7, 8] rfl ?_
            exact w_L_holds_188 g x rs rl A d G T P p GP hst arr xs R C HR hX26 hX237 hK _ _ _ _ _ _ _ _ _ _ h
          · refine y_iconst (v := 1) C dL_holds_184 (by decide) ?_
            refine y_goto (tgt := 189) C dL_holds_185 rfl ?_
            refine y_istore (lv' := [(11, .int (1 : Int32)), (0, .ref x), (1, .int x1), (2, .int x2), (3, .int x3), (4, .int x4), (5, .int x5), (6, .int x6), (7, .int x7), (8, .int x8), (9, .int x9), (10, .int x10)]) C dL_holds_189 (Nat.le_of_ble_eq_true rfl) rfl ?_
            refine y_sub (lv' := [(0, .ref x), (1, .int x1), (2, .int x2), (3, .int x3), (4, .int x4), (5, .int x5), (6, .int x6), (7, .int x7), (8, .int x8), (11, .int (1 : Int32))]) [1, 2, 3, 4, 5, 6, 7, 8, 9, 0] rfl ?_
            exact w_L_holds_191 g x rs rl A d G T P p GP hst arr xs R C HR hX26 hX237 hK _ _ _ _ _ _ _ _ _ _ _ h
      · refine y_iconst (v := 1) C dL_holds_166 (by decide) ?_
        refine y_goto (tgt := 171) C dL_holds_167 rfl ?_
        refine y_iload C dL_holds_171 9 rfl ?_
        refine y_if_lt (tgt := 180) C dL_holds_173 rfl h (fun c173 h => ?_) (fun c173 h => ?_)
        · refine y_iconst (v := 0) C dL_holds_180 (by decide) ?_
          refine y_icmp_ne (tgt := 188) C dL_holds_181 rfl h (fun c181 h => ?_) (fun c181 h => ?_)
          · refine y_sub (lv' := [(0, .ref x), (1, .int x1), (2, .int x2), (3, .int x3), (4, .int x4), (5, .int x5), (6, .int x6), (7, .int x7), (8, .int x8)]) [0, 1, 2, 3, 4, 5, 6, 7, 8] rfl ?_
            exact w_L_holds_188 g x rs rl A d G T P p GP hst arr xs R C HR hX26 hX237 hK _ _ _ _ _ _ _ _ _ _ h
          · refine y_iconst (v := 1) C dL_holds_184 (by decide) ?_
            refine y_goto (tgt := 189) C dL_holds_185 rfl ?_
            refine y_istore (lv' := [(11, .int (1 : Int32)), (0, .ref x), (1, .int x1), (2, .int x2), (3, .int x3), (4, .int x4), (5, .int x5), (6, .int x6), (7, .int x7), (8, .int x8), (9, .int x9), (10, .int x10)]) C dL_holds_189 (Nat.le_of_ble_eq_true rfl) rfl ?_
            refine y_sub (lv' := [(0, .ref x), (1, .int x1), (2, .int x2), (3, .int x3), (4, .int x4), (5, .int x5), (6, .int x6), (7, .int x7), (8, .int x8), (11, .int (1 : Int32))]) [1, 2, 3, 4, 5, 6, 7, 8, 9, 0] rfl ?_
            exact w_L_holds_191 g x rs rl A d G T P p GP hst arr xs R C HR hX26 hX237 hK _ _ _ _ _ _ _ _ _ _ _ h
        · refine y_iconst (v := 1) C dL_holds_176 (by decide) ?_
          refine y_goto (tgt := 181) C dL_holds_177 rfl ?_
          refine y_icmp_ne (tgt := 188) C dL_holds_181 rfl h (fun c181 h => ?_) (fun c181 h => ?_)
          · refine y_sub (lv' := [(0, .ref x), (1, .int x1), (2, .int x2), (3, .int x3), (4, .int x4), (5, .int x5), (6, .int x6), (7, .int x7), (8, .int x8)]) [0, 1, 2, 3, 4, 5, 6, 7, 8] rfl ?_
            exact w_L_holds_188 g x rs rl A d G T P p GP hst arr xs R C HR hX26 hX237 hK _ _ _ _ _ _ _ _ _ _ h
          · refine y_iconst (v := 1) C dL_holds_184 (by decide) ?_
            refine y_goto (tgt := 189) C dL_holds_185 rfl ?_
            refine y_istore (lv' := [(11, .int (1 : Int32)), (0, .ref x), (1, .int x1), (2, .int x2), (3, .int x3), (4, .int x4), (5, .int x5), (6, .int x6), (7, .int x7), (8, .int x8), (9, .int x9), (10, .int x10)]) C dL_holds_189 (Nat.le_of_ble_eq_true rfl) rfl ?_
            refine y_sub (lv' := [(0, .ref x), (1, .int x1), (2, .int x2), (3, .int x3), (4, .int x4), (5, .int x5), (6, .int x6), (7, .int x7), (8, .int x8), (11, .int (1 : Int32))]) [1, 2, 3, 4, 5, 6, 7, 8, 9, 0] rfl ?_
            exact w_L_holds_191 g x rs rl A d G T P p GP hst arr xs R C HR hX26 hX237 hK _ _ _ _ _ _ _ _ _ _ _ h
  · refine y_iload C dL_holds_117 9 rfl ?_
    refine y_aload_n C dL_holds_119 0 rfl rfl ?_
    refine y_iload C dL_holds_120 7 rfl ?_
    refine y_iconst (v := 2) C dL_holds_122 (by decide) ?_
    refine y_callV (As := [.int x7, .int (2 : Int32)]) (rest := [.int x9]) C dL_holds_123 (c_X6_ride g x rs (P 0) hst rl A d G T t GT x7 (2 : Int32)) rfl rfl rfl rfl ⟨Nat.le_of_ble_eq_true rfl, Nat.le_of_ble_eq_true rfl⟩ gL_holds_X6_ride (nA := 2) (by decide +kernel) rfl (sh_9004 g x (A 0) (T 0) rs (P 0) hst rl A d G T t GT) (Nat.le_of_ble_eq_true rfl) ⟨Nat.le_of_ble_eq_true rfl, Nat.le_of_ble_eq_true rfl⟩ [0, 1, 2, 4, 5, 6, 7, 8, 9, 10, 11, 12, 13, 14, 15, 16, 17, 18, 19, 20] [3, 21, 22, 23] (nB := 24) rfl (by decide +kernel) (sh_9003 g x (A 0) (T 0) rs (P 0) hst rl A d G T t GT P p GP hst arr xs R) (fun r4 w9 hw => ?_)
    obtain ⟨er4, t1, G2, e3, rfl⟩ := hw
    have h := y_letP h er4
    have h := y_letP h e3
    refine ⟨([mnC x (A 0) (T 0) rs (P 0) hst rl, dayC A d, tabC T t1, padC P p] ++ (dayR g A d G ++ (tabR g T t1 G2 ++ (padR g P p GP ++ [histW g hst arr xs R]))) : List va_W), (sh_9005 g x (A 0) (T 0) rs (P 0) hst rl A d G T t GT P p GP hst arr xs R t1 G2), ?_⟩
    refine y_icmp_lt (tgt := 149) C dL_holds_126 rfl h (fun c126 h => ?_) (fun c126 h => ?_)
    · refine y_sub (lv' := [(0, .ref x), (1, .int x1), (2, .int x2), (3, .int x3), (4, .int x4), (5, .int x5), (6, .int x6), (7, .int x7), (8, .int x8)]) [0, 1, 2, 3, 4, 5, 6, 7, 8] rfl ?_
      exact w_L_holds_149 g x rs rl A d G T P p GP hst arr xs R C HR hX26 hX237 hK _ _ _ _ _ _ _ _ _ _ h
    · refine y_iload C dL_holds_129 10 rfl ?_
      refine y_iload C dL_holds_131 9 rfl ?_
      refine y_aload_n C dL_holds_133 0 rfl rfl ?_
      refine y_iload C dL_holds_134 7 rfl ?_
      refine y_bipush (v := 7) C dL_holds_136 (by decide) ?_
      refine y_callV (As := [.int x7, .int (7 : Int32)]) (rest := [.int x9, .int x10]) C dL_holds_138 (c_X6_ride g x rs (P 0) hst rl A d G T t1 G2 x7 (7 : Int32)) rfl rfl rfl rfl ⟨Nat.le_of_ble_eq_true rfl, Nat.le_of_ble_eq_true rfl⟩ gL_holds_X6_ride (nA := 2) (by decide +kernel) rfl (sh_9004 g x (A 0) (T 0) rs (P 0) hst rl A d G T t1 G2) (Nat.le_of_ble_eq_true rfl) ⟨Nat.le_of_ble_eq_true rfl, Nat.le_of_ble_eq_true rfl⟩ [0, 1, 2, 4, 5, 6, 7, 8, 9, 10, 11, 12, 13, 14, 15, 16, 17, 18, 19, 20] [3, 21, 22, 23] (nB := 24) rfl (by decide +kernel) (sh_9003 g x (A 0) (T 0) rs (P 0) hst rl A d G T t1 G2 P p GP hst arr xs R) (fun r8 w9 hw => ?_)
      obtain ⟨er8, t5, G6, e7, rfl⟩ := hw
      have h := y_letP h er8
      have h := y_letP h e7
      refine ⟨([mnC x (A 0) (T 0) rs (P 0) hst rl, dayC A d, tabC T t5, padC P p] ++ (dayR g A d G ++ (tabR g T t5 G6 ++ (padR g P p GP ++ [histW g hst arr xs R]))) : List va_W), (sh_9005 g x (A 0) (T 0) rs (P 0) hst rl A d G T t1 G2 P p GP hst arr xs R t5 G6), ?_⟩
      refine y_iadd C dL_holds_141 ?_
      refine y_icmp_lt (tgt := 149) C dL_holds_142 rfl h (fun c142 h => ?_) (fun c142 h => ?_)
      · refine y_sub (lv' := [(0, .ref x), (1, .int x1), (2, .int x2), (3, .int x3), (4, .int x4), (5, .int x5), (6, .int x6), (7, .int x7), (8, .int x8)]) [0, 1, 2, 3, 4, 5, 6, 7, 8] rfl ?_
        exact w_L_holds_149 g x rs rl A d G T P p GP hst arr xs R C HR hX26 hX237 hK _ _ _ _ _ _ _ _ _ _ h
      · refine y_iconst (v := 1) C dL_holds_145 (by decide) ?_
        refine y_goto (tgt := 189) C dL_holds_146 rfl ?_
        refine y_istore (lv' := [(11, .int (1 : Int32)), (0, .ref x), (1, .int x1), (2, .int x2), (3, .int x3), (4, .int x4), (5, .int x5), (6, .int x6), (7, .int x7), (8, .int x8), (9, .int x9), (10, .int x10)]) C dL_holds_189 (Nat.le_of_ble_eq_true rfl) rfl ?_
        refine y_sub (lv' := [(0, .ref x), (1, .int x1), (2, .int x2), (3, .int x3), (4, .int x4), (5, .int x5), (6, .int x6), (7, .int x7), (8, .int x8), (11, .int (1 : Int32))]) [1, 2, 3, 4, 5, 6, 7, 8, 9, 0] rfl ?_
        exact w_L_holds_191 g x rs rl A d G T P p GP hst arr xs R C HR hX26 hX237 hK _ _ _ _ _ _ _ _ _ _ _ h
set_option maxHeartbeats 4000000 in
set_option maxRecDepth 100000 in
theorem w_L_holds_95 {Z : yZ} (g : yG) (x rs rl : Nat) (A : Nat → Nat) (d : RV) (G : Nat → Nat → Int32) (T : Nat → Nat) (P : Nat → Nat) (p : RV) (GP : Nat → Nat → Int32) (hst arr : Nat) (xs : List RV) (R : List ((Nat → Nat) × RV × (Nat → Nat → Int32))) (C : yC Z g cL_holds 12 wsL_holds RL) {post : Int32 → List va_W → Prop} (HR : yRi Z ({ frames := 6, cells := 0, slots := 0, locals := 136 } : Room) cL_holds .boolean post 0 0) {X26 : RV → Int32 → Int32 → Int32 → Int32 → Int32 → Int32 → Int32 → Prop} {X237 : RV → Int32 → Int32 → Int32 → Int32 → Int32 → Int32 → Int32 → Prop} (hX26 : ∀ (t : RV) (x1 : Int32) (x2 : Int32) (x3 : Int32) (x4 : Int32) (x5 : Int32) (x6 : Int32) (x7 : Int32) (GT : Nat → Nat → Int32), X26 t x1 x2 x3 x4 x5 x6 x7 → yJ Z ({ frames := 6, cells := 0, slots := 0, locals := 136 } : Room) 0 0 ([mnC x (A 0) (T 0) rs (P 0) hst rl, dayC A d, tabC T t, padC P p] ++ (dayR g A d G ++ (tabR g T t GT ++ (padR g P p GP ++ [histW g hst arr xs R]))) : List va_W) 26 [(0, .ref x), (1, .int x1), (2, .int x2), (3, .int x3), (4, .int x4), (5, .int x5), (6, .int x6), (7, .int x7)] []) (hX237 : ∀ (t : RV) (x1 : Int32) (x2 : Int32) (x3 : Int32) (x4 : Int32) (x5 : Int32) (x6 : Int32) (x7 : Int32) (GT : Nat → Nat → Int32), X237 t x1 x2 x3 x4 x5 x6 x7 → yJ Z ({ frames := 6, cells := 0, slots := 0, locals := 136 } : Room) 0 0 ([mnC x (A 0) (T 0) rs (P 0) hst rl, dayC A d, tabC T t, padC P p] ++ (dayR g A d G ++ (tabR g T t GT ++ (padR g P p GP ++ [histW g hst arr xs R]))) : List va_W) 237 [(0, .ref x), (1, .int x1), (2, .int x2), (3, .int x3), (4, .int x4), (5, .int x5), (6, .int x6), (7, .int x7)] []) {K : Int32 → RV → Prop} (hK : ∀ (r0 : Int32) (t : RV) (GT : Nat → Nat → Int32), K r0 t → post r0 ([mnC x (A 0) (T 0) rs (P 0) hst rl, dayC A d, tabC T t, padC P p] ++ (dayR g A d G ++ (tabR g T t GT ++ (padR g P p GP ++ [histW g hst arr xs R]))) : List va_W)) (t : RV) (x1 : Int32) (x2 : Int32) (x3 : Int32) (x4 : Int32) (x5 : Int32) (x6 : Int32) (x7 : Int32) (x8 : Int32) (x9 : Int32) (x10 : Int32) (GT : Nat → Nat → Int32) (h : wp_L_holds_95 d p xs X26 X237 K t x1 x2 x3 x4 x5 x6 x7 x8 x9 x10) : yJ Z ({ frames := 6, cells := 0, slots := 0, locals := 136 } : Room) 0 0 ([mnC x (A 0) (T 0) rs (P 0) hst rl, dayC A d, tabC T t, padC P p] ++ (dayR g A d G ++ (tabR g T t GT ++ (padR g P p GP ++ [histW g hst arr xs R]))) : List va_W) 95 [(0, .ref x), (1, .int x1), (2, .int x2), (3, .int x3), (4, .int x4), (5, .int x5), (6, .int x6), (7, .int x7), (8, .int x8), (9, .int x9), (10, .int x10)] [] := by
  unfold wp_L_holds_95 at h
  refine y_iload C dL_holds_95 6 rfl ?_
  refine y_iload C dL_holds_97 8 rfl ?_
  refine y_iconst (v := 2) C dL_holds_99 (by decide) ?_
  refine y_icmp_ne (tgt := 107) C dL_holds_100 rfl h (fun c100 h => ?_) (fun c100 h => ?_)
  · refine y_iconst (v := 0) C dL_holds_107 (by decide) ?_
    refine y_iadd C dL_holds_108 ?_
    refine y_istore (lv' := [(6, .int (x6 + (0 : Int32))), (0, .ref x), (1, .int x1), (2, .int x2), (3, .int x3), (4, .int x4), (5, .int x5), (7, .int x7), (8, .int x8), (9, .int x9), (10, .int x10)]) C dL_holds_109 (Nat.le_of_ble_eq_true rfl) rfl ?_
    refine y_sub (lv' := [(0, .ref x), (1, .int x1), (2, .int x2), (3, .int x3), (4, .int x4), (5, .int x5), (6, .int (x6 + (0 : Int32))), (7, .int x7), (8, .int x8), (9, .int x9), (10, .int x10)]) [1, 2, 3, 4, 5, 6, 0, 7, 8, 9, 10] rfl ?_
    exact w_L_holds_111 g x rs rl A d G T P p GP hst arr xs R C HR hX26 hX237 hK _ _ _ _ _ _ _ _ _ _ _ _ h
  · refine y_iconst (v := 1) C dL_holds_103 (by decide) ?_
    refine y_goto (tgt := 108) C dL_holds_104 rfl ?_
    refine y_iadd C dL_holds_108 ?_
    refine y_istore (lv' := [(6, .int (x6 + (1 : Int32))), (0, .ref x), (1, .int x1), (2, .int x2), (3, .int x3), (4, .int x4), (5, .int x5), (7, .int x7), (8, .int x8), (9, .int x9), (10, .int x10)]) C dL_holds_109 (Nat.le_of_ble_eq_true rfl) rfl ?_
    refine y_sub (lv' := [(0, .ref x), (1, .int x1), (2, .int x2), (3, .int x3), (4, .int x4), (5, .int x5), (6, .int (x6 + (1 : Int32))), (7, .int x7), (8, .int x8), (9, .int x9), (10, .int x10)]) [1, 2, 3, 4, 5, 6, 0, 7, 8, 9, 10] rfl ?_
    exact w_L_holds_111 g x rs rl A d G T P p GP hst arr xs R C HR hX26 hX237 hK _ _ _ _ _ _ _ _ _ _ _ _ h
set_option maxHeartbeats 4000000 in
set_option maxRecDepth 100000 in
theorem w_L_holds_79 {Z : yZ} (g : yG) (x rs rl : Nat) (A : Nat → Nat) (d : RV) (G : Nat → Nat → Int32) (T : Nat → Nat) (P : Nat → Nat) (p : RV) (GP : Nat → Nat → Int32) (hst arr : Nat) (xs : List RV) (R : List ((Nat → Nat) × RV × (Nat → Nat → Int32))) (C : yC Z g cL_holds 12 wsL_holds RL) {post : Int32 → List va_W → Prop} (HR : yRi Z ({ frames := 6, cells := 0, slots := 0, locals := 136 } : Room) cL_holds .boolean post 0 0) {X26 : RV → Int32 → Int32 → Int32 → Int32 → Int32 → Int32 → Int32 → Prop} {X237 : RV → Int32 → Int32 → Int32 → Int32 → Int32 → Int32 → Int32 → Prop} (hX26 : ∀ (t : RV) (x1 : Int32) (x2 : Int32) (x3 : Int32) (x4 : Int32) (x5 : Int32) (x6 : Int32) (x7 : Int32) (GT : Nat → Nat → Int32), X26 t x1 x2 x3 x4 x5 x6 x7 → yJ Z ({ frames := 6, cells := 0, slots := 0, locals := 136 } : Room) 0 0 ([mnC x (A 0) (T 0) rs (P 0) hst rl, dayC A d, tabC T t, padC P p] ++ (dayR g A d G ++ (tabR g T t GT ++ (padR g P p GP ++ [histW g hst arr xs R]))) : List va_W) 26 [(0, .ref x), (1, .int x1), (2, .int x2), (3, .int x3), (4, .int x4), (5, .int x5), (6, .int x6), (7, .int x7)] []) (hX237 : ∀ (t : RV) (x1 : Int32) (x2 : Int32) (x3 : Int32) (x4 : Int32) (x5 : Int32) (x6 : Int32) (x7 : Int32) (GT : Nat → Nat → Int32), X237 t x1 x2 x3 x4 x5 x6 x7 → yJ Z ({ frames := 6, cells := 0, slots := 0, locals := 136 } : Room) 0 0 ([mnC x (A 0) (T 0) rs (P 0) hst rl, dayC A d, tabC T t, padC P p] ++ (dayR g A d G ++ (tabR g T t GT ++ (padR g P p GP ++ [histW g hst arr xs R]))) : List va_W) 237 [(0, .ref x), (1, .int x1), (2, .int x2), (3, .int x3), (4, .int x4), (5, .int x5), (6, .int x6), (7, .int x7)] []) {K : Int32 → RV → Prop} (hK : ∀ (r0 : Int32) (t : RV) (GT : Nat → Nat → Int32), K r0 t → post r0 ([mnC x (A 0) (T 0) rs (P 0) hst rl, dayC A d, tabC T t, padC P p] ++ (dayR g A d G ++ (tabR g T t GT ++ (padR g P p GP ++ [histW g hst arr xs R]))) : List va_W)) (t : RV) (x1 : Int32) (x2 : Int32) (x3 : Int32) (x4 : Int32) (x5 : Int32) (x6 : Int32) (x7 : Int32) (x8 : Int32) (x9 : Int32) (x10 : Int32) (GT : Nat → Nat → Int32) (h : wp_L_holds_79 d p xs X26 X237 K t x1 x2 x3 x4 x5 x6 x7 x8 x9 x10) : yJ Z ({ frames := 6, cells := 0, slots := 0, locals := 136 } : Room) 0 0 ([mnC x (A 0) (T 0) rs (P 0) hst rl, dayC A d, tabC T t, padC P p] ++ (dayR g A d G ++ (tabR g T t GT ++ (padR g P p GP ++ [histW g hst arr xs R]))) : List va_W) 79 [(0, .ref x), (1, .int x1), (2, .int x2), (3, .int x3), (4, .int x4), (5, .int x5), (6, .int x6), (7, .int x7), (8, .int x8), (9, .int x9), (10, .int x10)] [] := by
  unfold wp_L_holds_79 at h
  refine y_iload C dL_holds_79 5 rfl ?_
  refine y_iload C dL_holds_81 8 rfl ?_
  refine y_iconst (v := 1) C dL_holds_83 (by decide) ?_
  refine y_icmp_ne (tgt := 91) C dL_holds_84 rfl h (fun c84 h => ?_) (fun c84 h => ?_)
  · refine y_iconst (v := 0) C dL_holds_91 (by decide) ?_
    refine y_iadd C dL_holds_92 ?_
    refine y_istore (lv' := [(5, .int (x5 + (0 : Int32))), (0, .ref x), (1, .int x1), (2, .int x2), (3, .int x3), (4, .int x4), (6, .int x6), (7, .int x7), (8, .int x8), (9, .int x9), (10, .int x10)]) C dL_holds_93 (Nat.le_of_ble_eq_true rfl) rfl ?_
    refine y_sub (lv' := [(0, .ref x), (1, .int x1), (2, .int x2), (3, .int x3), (4, .int x4), (5, .int (x5 + (0 : Int32))), (6, .int x6), (7, .int x7), (8, .int x8), (9, .int x9), (10, .int x10)]) [1, 2, 3, 4, 5, 0, 6, 7, 8, 9, 10] rfl ?_
    exact w_L_holds_95 g x rs rl A d G T P p GP hst arr xs R C HR hX26 hX237 hK _ _ _ _ _ _ _ _ _ _ _ _ h
  · refine y_iconst (v := 1) C dL_holds_87 (by decide) ?_
    refine y_goto (tgt := 92) C dL_holds_88 rfl ?_
    refine y_iadd C dL_holds_92 ?_
    refine y_istore (lv' := [(5, .int (x5 + (1 : Int32))), (0, .ref x), (1, .int x1), (2, .int x2), (3, .int x3), (4, .int x4), (6, .int x6), (7, .int x7), (8, .int x8), (9, .int x9), (10, .int x10)]) C dL_holds_93 (Nat.le_of_ble_eq_true rfl) rfl ?_
    refine y_sub (lv' := [(0, .ref x), (1, .int x1), (2, .int x2), (3, .int x3), (4, .int x4), (5, .int (x5 + (1 : Int32))), (6, .int x6), (7, .int x7), (8, .int x8), (9, .int x9), (10, .int x10)]) [1, 2, 3, 4, 5, 0, 6, 7, 8, 9, 10] rfl ?_
    exact w_L_holds_95 g x rs rl A d G T P p GP hst arr xs R C HR hX26 hX237 hK _ _ _ _ _ _ _ _ _ _ _ _ h
