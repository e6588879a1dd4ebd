theorem lw_cmp {L j : Nat} (hL : L ≤ 3072) (hj : 6 * j ≤ L) (h : L < 6 * j + 6) : nI L - (6 : Int32) < nI (6 * j) := by
  have b1 : bd (nI L) 0 3072 := bd_nI (by omega) (by omega) (by omega)
  have b2 : bd (6 : Int32) 6 6 := by unfold bd; decide
  obtain ⟨-, e⟩ := bd_sub b1 b2 (by omega) (by omega)
  rw [Int32.lt_iff_toInt_lt, e, nI_toInt (by omega), nI_toInt (by omega)]
  have : (6 : Int32).toInt = 6 := by decide
  omega
theorem lw_ncmp {L j : Nat} (hL : L ≤ 3072) (h : ¬ L < 6 * j + 6) : ¬ nI L - (6 : Int32) < nI (6 * j) := by
  have b1 : bd (nI L) 0 3072 := bd_nI (by omega) (by omega) (by omega)
  have b2 : bd (6 : Int32) 6 6 := by unfold bd; decide
  obtain ⟨-, e⟩ := bd_sub b1 b2 (by omega) (by omega)
  rw [Int32.lt_iff_toInt_lt, e, nI_toInt (by omega), nI_toInt (by omega)]
  have : (6 : Int32).toInt = 6 := by decide
  omega
/-! ===== the law: its loop ===== -/
theorem y_tl (cs r1 r2 r3 r4 r5 r6 : List va_W) (a b c : va_W) (h : a = b ++ c) : (cs ++ (r1 ++ (r2 ++ (r3 ++ (r4 ++ (r5 ++ (r6 ++ [a]))))))).flatten.Perm ((cs ++ [b]) ++ (r1 ++ (r2 ++ (r3 ++ (r4 ++ (r5 ++ (r6 ++ [c]))))))).flatten := by
  subst h
  have hp : ∀ X b c : va_W, (X ++ (b ++ c)).Perm (b ++ (X ++ c)) := fun X b c => by
    rw [← List.append_assoc, ← List.append_assoc]
    exact List.Perm.append_right _ List.perm_append_comm
  have := hp (r1.flatten ++ (r2.flatten ++ (r3.flatten ++ (r4.flatten ++ (r5.flatten ++ r6.flatten))))) b c
  simp only [List.flatten_append, List.flatten_cons, List.flatten_nil, List.append_nil, List.append_assoc] at this ⊢
  exact List.Perm.append_left _ this
theorem sh_lawp (g : yG) (x S hst arr sl : Nat) (A T SA ST P M : Nat → Nat) (d t sv sd st p : RV) (m : MV) (o : SL × SL) (xs : List RV) (G GT SG SGT GP : Nat → Nat → Int32) (R : HRt) (ok : hOk xs R) : ([mnC x (A 0) (T 0) S (P 0) hst sl, dayC A d, tabC T t, seaC S (SA 0) (ST 0) sv, dayC SA sd, tabC ST st, padC P p, modW g M m] ++ (dayR g A d G ++ (tabR g T t GT ++ (dayR g SA sd SG ++ (tabR g ST st SGT ++ (padR g P p GP ++ ([slW g sl o.1 o.2] ++ [histW g hst arr xs R])))))) : List va_W).flatten.Perm ([mnC x (A 0) (T 0) S (P 0) hst sl, dayC A d, tabC T t, seaC S (SA 0) (ST 0) sv, dayC SA sd, tabC ST st, padC P p, modW g M m, hcC hst arr (nI xs.length)] ++ (dayR g A d G ++ (tabR g T t GT ++ (dayR g SA sd SG ++ (tabR g ST st SGT ++ (padR g P p GP ++ ([slW g sl o.1 o.2] ++ [acC g arr 6 (rmF R) ++ rmW g R])))))) : List va_W).flatten := y_tl [mnC x (A 0) (T 0) S (P 0) hst sl, dayC A d, tabC T t, seaC S (SA 0) (ST 0) sv, dayC SA sd, tabC ST st, padC P p, modW g M m] (dayR g A d G) (tabR g T t GT) (dayR g SA sd SG) (tabR g ST st SGT) (padR g P p GP) ([slW g sl o.1 o.2]) _ _ _ (histW_pos ok)
set_option maxHeartbeats 4000000 in
set_option maxRecDepth 100000 in
theorem lw_432w {Z : yZ} {g : yG} (x S hst arr sl : Nat) (A T SA ST P M : Nat → Nat) {k0 n0 b L : Nat} {sx : Nat → Int32} (C : yC Z g cL_law 4 wsL_law RL) (HX : ySc Z b L sx) (hk : k0 + 25 ≤ 600000) (hn : n0 + 236 ≤ 7302249) {X745 : RV → RV → RV → RV → RV → RV → MV → SL × SL → List RV → Int32 → Prop} (hX745 : ∀ k1 n1, k1 ≤ k0 + 25 → n1 ≤ n0 + 236 → ∀ (d t sv sd st p : RV) (m : MV) (o : SL × SL) (xs : List RV) (x3 : Int32) (G GT SG SGT GP : Nat → Nat → Int32) (R : HRt), X745 d t sv sd st p m o xs x3 → yJ Z room_1 k1 n1 ([mnC x (A 0) (T 0) S (P 0) hst sl, dayC A d, tabC T t, seaC S (SA 0) (ST 0) sv, dayC SA sd, tabC ST st, padC P p, modW g M m] ++ (dayR g A d G ++ (tabR g T t GT ++ (dayR g SA sd SG ++ (tabR g ST st SGT ++ (padR g P p GP ++ ([slW g sl o.1 o.2] ++ [histW g hst arr xs R])))))) : List va_W) 745 [(0, .ref b), (1, .ref x), (2, .ref (M 0)), (3, .int x3)] []) (d t sv sd st p : RV) (m : MV) (o : SL × SL) (xs : List RV) (x3 : Int32) (G GT SG SGT GP : Nat → Nat → Int32) (R : HRt) (h : wl_432 L sx X745 d t sv sd st p m o xs x3) : yJ Z room_1 k0 n0 ([mnC x (A 0) (T 0) S (P 0) hst sl, dayC A d, tabC T t, seaC S (SA 0) (ST 0) sv, dayC SA sd, tabC ST st, padC P p, modW g M m] ++ (dayR g A d G ++ (tabR g T t GT ++ (dayR g SA sd SG ++ (tabR g ST st SGT ++ (padR g P p GP ++ ([slW g sl o.1 o.2] ++ [histW g hst arr xs R])))))) : List va_W) 432 [(0, .ref b), (1, .ref x), (2, .ref (M 0)), (3, .int x3)] [] := by
  refine y_fact (F := hOk xs R) (fun A9 hD => hist_mem (g := g) (h := hst) (arr := arr) (List.mem_append_right _ (List.mem_append_right _ (List.mem_append_right _ (List.mem_append_right _ (List.mem_append_right _ (List.mem_append_right _ (List.mem_append_right _ (List.mem_singleton.mpr rfl)))))))) hD) (fun ok => ?_)
  refine y_perm (sh_lawp g x S hst arr sl A T SA ST P M d t sv sd st p m o xs G GT SG SGT GP R ok) ?_
  refine lw_432 x S hst arr sl A T SA ST P M C HX hk hn xs R (fun k1 n1 e1 e2 d t sv sd st p m o x3 G GT SG SGT GP hq => ?_) d t sv sd st p m o x3 G GT SG SGT GP h
  exact y_perm (sh_lawp g x S hst arr sl A T SA ST P M d t sv sd st p m o xs G GT SG SGT GP R ok).symm (hX745 k1 n1 e1 e2 d t sv sd st p m o xs x3 G GT SG SGT GP R hq)
set_option maxHeartbeats 4000000 in
set_option maxRecDepth 100000 in
theorem lw_loop {Z : yZ} {g : yG} (x S hst arr sl : Nat) (A T SA ST P M : Nat → Nat) {b L : Nat} {sx : Nat → Int32} (hL : L ≤ 3072) (C : yC Z g cL_law 4 wsL_law RL) (HX : ySc Z b L sx) (HR1 : ∀ (k n : Nat) (W0 : List va_W) (lv : List (Nat × Value)), k ≤ 600000 → n ≤ 7302249 → yJ Z room_1 k n W0 752 lv [.int 1]) : ∀ (f j k0 n0 : Nat), 6 * j ≤ L → L < 6 * (j + f) + 6 → k0 + 25 * f ≤ 600000 → n0 + 236 * f ≤ 7302249 → ∀ (d t sv sd st p : RV) (m : MV) (o : SL × SL) (xs : List RV) (G GT SG SGT GP : Nat → Nat → Int32) (R : HRt), modR m d p xs (slA o.1) (slA o.2) → yJ Z room_1 k0 n0 ([mnC x (A 0) (T 0) S (P 0) hst sl, dayC A d, tabC T t, seaC S (SA 0) (ST 0) sv, dayC SA sd, tabC ST st, padC P p, modW g M m] ++ (dayR g A d G ++ (tabR g T t GT ++ (dayR g SA sd SG ++ (tabR g ST st SGT ++ (padR g P p GP ++ ([slW g sl o.1 o.2] ++ [histW g hst arr xs R])))))) : List va_W) 18 [(0, .ref b), (1, .ref x), (2, .ref (M 0)), (3, .int (nI (6 * j)))] [] := by
  intro f
  induction f with
  | zero =>
    intro j k0 n0 hj hf hk hn d t sv sd st p m o xs G GT SG SGT GP R hM
    refine lw_18 C HX (Xc := fun t => t = 751) (pl_18 (fun _ => rfl) (fun hc => absurd (lw_cmp (by omega) (by omega) (by omega)) hc)) (fun t ht => ?_)
    cases ht
    exact y_iconst (v := 1) C dL_law_751 (by decide) (HR1 _ _ _ _ (by omega) (by omega))
  | succ f ih =>
    intro j k0 n0 hj hf hk hn d t sv sd st p m o xs G GT SG SGT GP R hM
    by_cases hc : L < 6 * j + 6
    · refine lw_18 C HX (Xc := fun t => t = 751) (pl_18 (fun _ => rfl) (fun hq => absurd (lw_cmp (by omega) (by omega) hc) hq)) (fun t ht => ?_)
      cases ht
      exact y_iconst (v := 1) C dL_law_751 (by decide) (HR1 _ _ _ _ (by omega) (by omega))
    · have H745 : ∀ k1 n1, k1 ≤ k0 + 25 → n1 ≤ n0 + 236 → ∀ (d t sv sd st p : RV) (m : MV) (o : SL × SL) (xs : List RV) (x3 : Int32) (G GT SG SGT GP : Nat → Nat → Int32) (R : HRt), xI (nI (6 * j)) d t sv sd st p m o xs x3 → yJ Z room_1 k1 n1 ([mnC x (A 0) (T 0) S (P 0) hst sl, dayC A d, tabC T t, seaC S (SA 0) (ST 0) sv, dayC SA sd, tabC ST st, padC P p, modW g M m] ++ (dayR g A d G ++ (tabR g T t GT ++ (dayR g SA sd SG ++ (tabR g ST st SGT ++ (padR g P p GP ++ ([slW g sl o.1 o.2] ++ [histW g hst arr xs R])))))) : List va_W) 745 [(0, .ref b), (1, .ref x), (2, .ref (M 0)), (3, .int x3)] [] := by
        intro k1 n1 e1 e2 d t sv sd st p m o xs x3 G GT SG SGT GP R hq
        obtain ⟨hM, rfl⟩ := hq
        refine y_iinc (v := nI (6 * (j + 1))) (lv' := [(3, .int (nI (6 * (j + 1)))), (0, .ref b), (1, .ref x), (2, .ref (M 0))]) C dL_law_745 3 rfl (by rw [show (6 * (j + 1) : Nat) = 6 * j + 6 by omega, ← nI_add]; rfl) (Nat.le_of_ble_eq_true rfl) rfl ?_
        refine y_goto (tgt := 18) C dL_law_748 rfl ?_
        refine y_sub (lv' := [(0, .ref b), (1, .ref x), (2, .ref (M 0)), (3, .int (nI (6 * (j + 1))))]) [1, 2, 3, 0] rfl ?_
        exact ih (j + 1) k1 n1 (by omega) (by omega) (by omega) (by omega) d t sv sd st p m o xs G GT SG SGT GP R hM
      have hi : ∀ i, i < 6 → vp_in (nI (6 * j) + nI i) L := fun i h => by
        rw [nI_add]
        exact vp_in_nI (by omega) (by omega)
      have i1 : vp_in (nI (6 * j) + (1 : Int32)) L := hi 1 (by omega)
      have i2 : vp_in (nI (6 * j) + (2 : Int32)) L := hi 2 (by omega)
      have i3 : vp_in (nI (6 * j) + (3 : Int32)) L := hi 3 (by omega)
      have i4 : vp_in (nI (6 * j) + (4 : Int32)) L := hi 4 (by omega)
      have i5 : vp_in (nI (6 * j) + (5 : Int32)) L := hi 5 (by omega)
      refine lw_18 C HX (Xc := fun t => t ∈ lwCs) (pl_18 (fun hq => absurd hq (lw_ncmp (by omega) (by omega))) (fun _ => ⟨vp_in_nI (by omega) (by omega), fun t h => h⟩)) (fun t ht => ?_)
      simp only [lwCs, List.mem_cons, List.not_mem_nil, or_false] at ht
      rcases ht with rfl | rfl | rfl | rfl | rfl | rfl | rfl | rfl | rfl | rfl | rfl | rfl | rfl | rfl | rfl | rfl | rfl | rfl | rfl | rfl | rfl | rfl
      · exact lw_132 x S hst arr sl A T SA ST P M C HX (by omega) (by omega) H745 d t sv sd st p m o xs _ G GT SG SGT GP R (pl_132 hM i1 i2 i3 i4 i5)
      · exact lw_165 x S hst arr sl A T SA ST P M C HX (by omega) (by omega) H745 d t sv sd st p m o xs _ G GT SG SGT GP R (pl_165 hM i1 i2 i3 i4 i5)
      · exact lw_198 x S hst arr sl A T SA ST P M C HX (by omega) (by omega) H745 d t sv sd st p m o xs _ G GT SG SGT GP R (pl_198 hM i1 i2 i3 i4 i5)
      · exact lw_251 x S hst arr sl A T SA ST P M C HX (by omega) (by omega) H745 d t sv sd st p m o xs _ G GT SG SGT GP R (pl_251 hM i1 i2 i3 i4 i5)
      · exact lw_274 x S hst arr sl A T SA ST P M C HX (by omega) (by omega) H745 d t sv sd st p m o xs _ G GT SG SGT GP R (pl_274 hM i1 i2 i3 i4 i5)
      · exact lw_297 x S hst arr sl A T SA ST P M C HX (by omega) (by omega) H745 d t sv sd st p m o xs _ G GT SG SGT GP R (pl_297 hM i1 i2 i3 i4 i5)
      · exact lw_320 x S hst arr sl A T SA ST P M C HX (by omega) (by omega) H745 d t sv sd st p m o xs _ G GT SG SGT GP R (pl_320 hM i1 i2 i3 i4 i5)
      · exact lw_333 x S hst arr sl A T SA ST P M C HX (by omega) (by omega) H745 d t sv sd st p m o xs _ G GT SG SGT GP R (pl_333 hM i1 i2 i3 i4 i5)
      · exact lw_366 x S hst arr sl A T SA ST P M C HX (by omega) (by omega) H745 d t sv sd st p m o xs _ G GT SG SGT GP R (pl_366 hM i1 i2 i3 i4 i5)
      · exact lw_399 x S hst arr sl A T SA ST P M C HX (by omega) (by omega) H745 d t sv sd st p m o xs _ G GT SG SGT GP R (pl_399 hM i1 i2 i3 i4 i5)
      · exact lw_432w x S hst arr sl A T SA ST P M C HX (by omega) (by omega) H745 d t sv sd st p m o xs _ G GT SG SGT GP R (pl_432 hM i1 i2 i3 i4 i5)
      · exact lw_455 x S hst arr sl A T SA ST P M C HX (by omega) (by omega) H745 d t sv sd st p m o xs _ G GT SG SGT GP R (pl_455 hM i1 i2 i3 i4 i5)
      · exact lw_518 x S hst arr sl A T SA ST P M C HX (by omega) (by omega) H745 d t sv sd st p m o xs _ G GT SG SGT GP R (pl_518 hM i1 i2 i3 i4 i5)
      · exact lw_561 x S hst arr sl A T SA ST P M C HX (by omega) (by omega) H745 d t sv sd st p m o xs _ G GT SG SGT GP R (pl_561 hM i1 i2 i3 i4 i5)
      · exact lw_584 x S hst arr sl A T SA ST P M C HX (by omega) (by omega) H745 d t sv sd st p m o xs _ G GT SG SGT GP R (pl_584 hM i1 i2 i3 i4 i5)
      · exact lw_607 x S hst arr sl A T SA ST P M C HX (by omega) (by omega) H745 d t sv sd st p m o xs _ G GT SG SGT GP R (pl_607 hM i1 i2 i3 i4 i5)
      · exact lw_660 x S hst arr sl A T SA ST P M C HX (by omega) (by omega) H745 d t sv sd st p m o xs _ G GT SG SGT GP R (pl_660 hM i1 i2 i3 i4 i5)
      · exact lw_673 x S hst arr sl A T SA ST P M C HX (by omega) (by omega) H745 d t sv sd st p m o xs _ G GT SG SGT GP R (pl_673 hM i1 i2 i3 i4 i5)
      · exact lw_686 x S hst arr sl A T SA ST P M C HX (by omega) (by omega) H745 d t sv sd st p m o xs _ G GT SG SGT GP R (pl_686 hM i1 i2 i3 i4 i5)
      · exact lw_699 x S hst arr sl A T SA ST P M C HX (by omega) (by omega) H745 d t sv sd st p m o xs _ G GT SG SGT GP R (pl_699 hM i1 i2 i3 i4 i5)
      · exact lw_722 x S hst arr sl A T SA ST P M C HX (by omega) (by omega) H745 d t sv sd st p m o xs _ G GT SG SGT GP R (pl_722 hM i1 i2 i3 i4 i5)
      · exact H745 _ _ (by omega) (by omega) d t sv sd st p m o xs _ G GT SG SGT GP R ⟨hM, rfl⟩
