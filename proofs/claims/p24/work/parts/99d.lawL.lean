/-! ===== the law: its loop ===== -/
set_option maxHeartbeats 4000000 in
set_option maxRecDepth 100000 in
theorem lw_loop {Z : yZ} {g : yG} (x S hst arr sl : Nat) (A T SA ST P : Nat → Nat) {b L : Nat} {sx : Nat → Int32} (hLb : L < 2147483648) (C : yC Z g cL_law 14 wsL_law RL) (HX : ySc Z b L sx) (HR1 : ∀ (k n : Nat) (W0 : List va_W) (lv : List (Nat × Value)), k ≤ 600000 → n ≤ 7302250 → yJ Z room_1 k n W0 330 lv [.int 1]) : ∀ (f j k0 n0 : Nat), j + f = 36 → k0 + 200 * f + 50 ≤ 600000 → n0 + 1888 * f + 472 ≤ 7302250 → ∀ (d t sv sd st p : RV) (o : SL × SL) (xs : List RV) (x2 : Int64) (G GT SG SGT GP : Nat → Nat → Int32) (R : List ((Nat → Nat) × RV × (Nat → Nat → Int32))), LI d o xs x2 → yJ Z room_1 k0 n0 ([mnC x (A 0) (T 0) S (P 0) hst sl, dayC A d, tabC T t, seaC S (SA 0) (ST 0) sv, dayC SA sd, tabC ST st, padC P p] ++ (dayR g A d G ++ (tabR g T t GT ++ (dayR g SA sd SG ++ (tabR g ST st SGT ++ (padR g P p GP ++ ([slW g sl o.1 o.2] ++ [histW g hst arr xs R])))))) : List va_W) 45 [(0, .ref b), (1, .ref x), (2, .long x2), (4, .int (nI j))] [] := by
  intro f
  induction f with
  | zero =>
    intro j k0 n0 hj hk hn d t sv sd st p o xs x2 G GT SG SGT GP R h
    have ej : j = 36 := by omega
    subst ej
    exact lw_45 x S hst arr sl A T SA ST P hLb C HX (by omega) (by omega) HR1 (X158 := fun _ _ _ _ _ _ _ _ _ _ _ _ _ _ _ => False) (fun k1 n1 e1 e2 d t sv sd st p o xs x2 x4 x5 x6 x7 x10 x11 G GT SG SGT GP R hq => hq.elim) d t sv sd st p o xs x2 _ G GT SG SGT GP R (pl_end h)
  | succ f ih =>
    intro j k0 n0 hj hk hn d t sv sd st p o xs x2 G GT SG SGT GP R h
    refine lw_45 x S hst arr sl A T SA ST P hLb C HX (by omega) (by omega) HR1 (X158 := xJ1 j) (fun k1 n1 e1 e2 d t sv sd st p o xs x2 x4 x5 x6 x7 x10 x11 G GT SG SGT GP R hq => ?_) d t sv sd st p o xs x2 _ G GT SG SGT GP R (pl_45 (by omega) h)
    refine lw_158 x S hst arr sl A T SA ST P hLb C HX (by omega) (by omega) HR1 (X199 := xJ1 j) (fun k2 n2 e3 e4 d t sv sd st p o xs x2 x4 x5 x6 x7 x10 x11 G GT SG SGT GP R hq => ?_) d t sv sd st p o xs x2 x4 x5 x6 x7 x10 x11 G GT SG SGT GP R (pl_158 hq)
    refine lw_199 x S hst arr sl A T SA ST P hLb C HX (by omega) (by omega) HR1 (X268 := xJ2 j) (fun k3 n3 e5 e6 d t sv sd st p o xs x2 x4 x5 x11 G GT SG SGT GP R hq => ?_) d t sv sd st p o xs x2 x4 x5 x6 x7 x10 x11 G GT SG SGT GP R (pl_199 hq)
    refine lw_268 x S hst arr sl A T SA ST P hLb C HX (by omega) (by omega) HR1 (X45 := xJ0 (j + 1)) (fun k4 n4 e7 e8 d t sv sd st p o xs x2 x4 G GT SG SGT GP R hq => ?_) d t sv sd st p o xs x2 x4 x5 x11 G GT SG SGT GP R (pl_268 hq)
    obtain ⟨hL, rfl⟩ := hq
    exact ih (j + 1) k4 n4 (by omega) (by omega) (by omega) d t sv sd st p o xs x2 G GT SG SGT GP R hL
