theorem kw_0 : Cond.classLink RL 7 RX6 ∈ wsL_law := List.mem_of_getElem? (i := 0) (by decide +kernel)
theorem kw_1 : Cond.instantiable RX6 6 ∈ wsL_law := List.mem_of_getElem? (i := 1) (by decide +kernel)
theorem kw_2 : Cond.initialized RX6 ∈ wsL_law := List.mem_of_getElem? (i := 2) (by decide +kernel)
theorem kw_3 : Cond.classLink RL 10 RX7 ∈ wsL_law := List.mem_of_getElem? (i := 3) (by decide +kernel)
theorem kw_4 : Cond.instantiable RX7 26 ∈ wsL_law := List.mem_of_getElem? (i := 4) (by decide +kernel)
theorem kw_5 : Cond.initialized RX7 ∈ wsL_law := List.mem_of_getElem? (i := 5) (by decide +kernel)
theorem kw_7 : Cond.methodLink RL 9 yX6_init ∈ wsL_law := List.mem_of_getElem? (i := 7) (by decide +kernel)
theorem kw_8 : Cond.instanceMethod yX6_init ∈ wsL_law := List.mem_of_getElem? (i := 8) (by decide +kernel)
theorem kw_14 : Cond.instantiable RX0 15 ∈ wsL_law := List.mem_of_getElem? (i := 14) (by decide +kernel)
theorem kw_18 : Cond.instantiable RX5 10 ∈ wsL_law := List.mem_of_getElem? (i := 18) (by decide +kernel)
theorem kw_22 : Cond.instantiable RX4 9 ∈ wsL_law := List.mem_of_getElem? (i := 22) (by decide +kernel)
theorem kw_26 : Cond.instantiable RX2 2 ∈ wsL_law := List.mem_of_getElem? (i := 26) (by decide +kernel)
theorem kw_30 : Cond.instantiable RX1 2 ∈ wsL_law := List.mem_of_getElem? (i := 30) (by decide +kernel)
theorem kw_39 : Cond.instantiable RX3 2 ∈ wsL_law := List.mem_of_getElem? (i := 39) (by decide +kernel)
theorem kw_61 : Cond.arrayClass .int ∈ wsL_law := List.mem_of_getElem? (i := 61) (by decide +kernel)
theorem kw_102 : Cond.methodLink RL 12 yX7_init ∈ wsL_law := List.mem_of_getElem? (i := 102) (by decide +kernel)
theorem kw_103 : Cond.instanceMethod yX7_init ∈ wsL_law := List.mem_of_getElem? (i := 103) (by decide +kernel)
theorem kw_110 : Cond.arrayClass .boolean ∈ wsL_law := List.mem_of_getElem? (i := 110) (by decide +kernel)
theorem k_X6_init (g : yG) (h0 : Nat) : yMv g yX6_init wsX6_init ({ frames := 4, cells := 81, slots := 900, locals := 84 } : Room) [.ref h0] ([[(h0, .inr (6, [.null, .null, .null, .null, .null, .null]))]] : List va_W) (fun w => ∃ (A : Nat → Nat) (G : Nat → Nat → Int32) (T : Nat → Nat) (GT : Nat → Nat → Int32) (s : Nat) (SA : Nat → Nat) (SG : Nat → Nat → Int32) (ST : Nat → Nat) (SGT : Nat → Nat → Int32) (P : Nat → Nat) (GP : Nat → Nat → Int32) (hst arr sl : Nat), w = ([([mnC h0 (A 0) (T 0) s (P 0) hst sl, dayW g A D0 G, tabW g T T0 GT, seaB g s SA SG ST SGT, padW g P T0 GP, histW g hst arr [] [], slW g sl none none] : List va_W).flatten] : List va_W)) 81 900 :=
  yMv.conv (c_X6_init g h0) rfl (fun w h => by
    obtain ⟨A, G, T, GT, s, SA, SG, ST, SGT, P, GP, hst, arr, sl, rfl⟩ := h
    exact ⟨_, by rw [List.flatten_cons, List.flatten_nil, List.append_nil], A, G, T, GT, s, SA, SG, ST, SGT, P, GP, hst, arr, sl, rfl⟩)
theorem lw_pick0 (g : yG) (h0 s hst arr sl : Nat) (A T SA ST P M : Nat → Nat) (G GT SG SGT GP : Nat → Nat → Int32) : yPick ([mnC h0 (A 0) (T 0) s (P 0) hst sl, dayC A D0] ++ (dayR g A D0 G ++ ([tabC T T0] ++ (tabR g T T0 GT ++ ([seaC s (SA 0) (ST 0) T0, dayC SA D0] ++ (dayR g SA D0 SG ++ ([tabC ST T0] ++ (tabR g ST T0 SGT ++ ([padC P T0] ++ (padR g P T0 GP ++ [histW g hst arr [] [], slW g sl none none, modW g M M0]))))))))) : List va_W) [0, 1, 14, 20, 21, 34, 40, 45, 2, 3, 4, 5, 6, 7, 8, 9, 10, 11, 12, 13, 15, 16, 17, 18, 19, 22, 23, 24, 25, 26, 27, 28, 29, 30, 31, 32, 33, 35, 36, 37, 38, 39, 41, 42, 44, 43] = ([mnC h0 (A 0) (T 0) s (P 0) hst sl, dayC A D0, tabC T T0, seaC s (SA 0) (ST 0) T0, dayC SA D0, tabC ST T0, padC P T0, modW g M M0] ++ (dayR g A D0 G ++ (tabR g T T0 GT ++ (dayR g SA D0 SG ++ (tabR g ST T0 SGT ++ (padR g P T0 GP ++ ([slW g sl ((none, none) : SL × SL).1 ((none, none) : SL × SL).2] ++ [histW g hst arr ([] : List RV) ([] : HRt)])))))) : List va_W) := rfl
theorem lw_flat0 (g : yG) (h0 s hst arr sl : Nat) (A T SA ST P M : Nat → Nat) (G GT SG SGT GP : Nat → Nat → Int32) : ([([mnC h0 (A 0) (T 0) s (P 0) hst sl, dayW g A D0 G, tabW g T T0 GT, seaB g s SA SG ST SGT, padW g P T0 GP, histW g hst arr [] [], slW g sl none none] : List va_W).flatten, modW g M M0] : List va_W).flatten = ([mnC h0 (A 0) (T 0) s (P 0) hst sl, dayC A D0] ++ (dayR g A D0 G ++ ([tabC T T0] ++ (tabR g T T0 GT ++ ([seaC s (SA 0) (ST 0) T0, dayC SA D0] ++ (dayR g SA D0 SG ++ ([tabC ST T0] ++ (tabR g ST T0 SGT ++ ([padC P T0] ++ (padR g P T0 GP ++ [histW g hst arr [] [], slW g sl none none, modW g M M0]))))))))) : List va_W).flatten := by
  simp only [dayW, tabW, padW, seaB, List.flatten_cons, List.flatten_append, List.flatten_nil, List.append_nil, List.append_assoc]
