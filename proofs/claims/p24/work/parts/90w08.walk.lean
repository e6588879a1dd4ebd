set_option maxHeartbeats 4000000 in
set_option maxRecDepth 100000 in
theorem t_L_act (g : yG) (x : Nat) (A : Nat → Nat) (d : RV) (G : Nat → Nat → Int32) (T : Nat → Nat) (t : RV) (GT : Nat → Nat → Int32) (S : Nat) (sv : RV) (SA : Nat → Nat) (sd : RV) (SG : Nat → Nat → Int32) (ST : Nat → Nat) (st : RV) (SGT : Nat → Nat → Int32) (P : Nat → Nat) (p : RV) (GP : Nat → Nat → Int32) (sl : Nat) (o : SL × SL) (hst arr : Nat) (xs : List RV) (R : List ((Nat → Nat) × RV × (Nat → Nat → Int32))) (v : Int32) (w : Int32) {post : Int32 → List va_W → Prop} {K : Int32 → RV → RV → RV → RV → RV → (List RV) → Prop} (hK : ∀ (r0 : Int32) (d : RV) (t : RV) (sv : RV) (sd : RV) (st : RV) (xs : List RV) (G : Nat → Nat → Int32) (GT : Nat → Nat → Int32) (SG : Nat → Nat → Int32) (SGT : Nat → Nat → Int32) (R : List ((Nat → Nat) × RV × (Nat → Nat → Int32))), K r0 d t sv sd st xs → post r0 ([mnC x (A 0) (T 0) S (P 0) hst sl, dayC A d, tabC T t, seaC S (SA 0) (ST 0) sv, dayC SA sd, tabC ST st, padC P p] ++ (dayR g A d G ++ (tabR g T t GT ++ (dayR g SA sd SG ++ (tabR g ST st SGT ++ (padR g P p GP ++ ([slW g sl o.1 o.2] ++ [histW g hst arr xs R])))))) : List va_W)) (hPO : PO_L_act p o v w K d t sv sd st xs ) : yM g yL_act wsL_act ({ frames := 7, cells := 25, slots := 236, locals := 173 } : Room) [.ref x, .int v, .int w] ([mnC x (A 0) (T 0) S (P 0) hst sl, dayC A d, tabC T t, seaC S (SA 0) (ST 0) sv, dayC SA sd, tabC ST st, padC P p] ++ (dayR g A d G ++ (tabR g T t GT ++ (dayR g SA sd SG ++ (tabR g ST st SGT ++ (padR g P p GP ++ ([slW g sl o.1 o.2] ++ [histW g hst arr xs R])))))) : List va_W) post 25 236 := by
  refine y_entryI (cc := cL_act) (maxL := 6) (by decide +kernel) rfl (Nat.le_of_ble_eq_true rfl) (fun Z C HR => ?_)
  have C : yC Z g cL_act 6 wsL_act RL := C
  have h := hPO
  unfold PO_L_act wp_L_act_0 at h
  show yJ Z _ 0 0 _ 0 [(0, .ref x), (1, .int v), (2, .int w)] []
  refine y_iload_n C dL_act_0 1 rfl rfl ?_
  refine y_iconst (v := 4) C dL_act_1 (by decide) ?_
  refine y_ishr C dL_act_2 ?_
  refine y_aload_n C dL_act_3 0 rfl rfl ?_
  refine y_iconst (v := 1) C dL_act_4 (by decide) ?_
  refine y_callV (As := [.int (1 : Int32)]) (rest := [.int (v >>> ((4 : Int32) &&& 31))]) C dL_act_5 (k_X6_count g x S sl A d G T t GT P p GP hst arr xs R (1 : Int32)) rfl rfl rfl rfl ⟨Nat.le_of_ble_eq_true rfl, Nat.le_of_ble_eq_true rfl⟩ gL_act_X6_count (nA := 1) (by decide +kernel) rfl (sh_9001 g x (A 0) (T 0) S (P 0) hst sl A d G T t GT P p GP hst arr xs R) (Nat.le_of_ble_eq_true rfl) ⟨Nat.le_of_ble_eq_true rfl, Nat.le_of_ble_eq_true rfl⟩ [0, 1, 2, 6, 7, 8, 9, 10, 11, 12, 13, 14, 15, 16, 17, 18, 19, 20, 21, 22, 23, 41, 42, 44] [3, 4, 5, 24, 25, 26, 27, 28, 29, 30, 31, 32, 33, 34, 35, 36, 37, 38, 39, 40, 43] (nB := 45) rfl (by decide +kernel) (sh_9008 g x (A 0) (T 0) S (P 0) hst sl A d G T t GT S (SA 0) (ST 0) sv SA sd SG ST st SGT P p GP sl o hst arr xs R) (fun r4 w9 hw => ?_)
  obtain ⟨er4, t1, G2, e3, rfl⟩ := hw
  have h := y_letP h er4
  have h := y_letP h e3
  refine ⟨([mnC x (A 0) (T 0) S (P 0) hst sl, dayC A d, tabC T t1, seaC S (SA 0) (ST 0) sv, dayC SA sd, tabC ST st, padC P p] ++ (dayR g A d G ++ (tabR g T t1 G2 ++ (dayR g SA sd SG ++ (tabR g ST st SGT ++ (padR g P p GP ++ ([slW g sl o.1 o.2] ++ [histW g hst arr xs R])))))) : List va_W), (sh_9009 g x (A 0) (T 0) S (P 0) hst sl A d G T t GT S (SA 0) (ST 0) sv SA sd SG ST st SGT P p GP sl o hst arr xs R t1 G2), ?_⟩
  refine y_iconst (v := 1) C dL_act_8 (by decide) ?_
  refine y_iadd C dL_act_9 ?_
  obtain ⟨hp5, h⟩ := h
  refine y_callSW (As := [.int (v >>> ((4 : Int32) &&& 31)), .int (r4 + (1 : Int32))]) (rest := []) C dL_act_10 (c_L_low g (v >>> ((4 : Int32) &&& 31)) (r4 + (1 : Int32)) hp5) rfl rfl rfl rfl ⟨Nat.le_of_ble_eq_true rfl, Nat.le_of_ble_eq_true rfl⟩ gL_act_L_low (nA := 2) (by decide +kernel) rfl (Nat.le_of_ble_eq_true rfl) ⟨Nat.le_of_ble_eq_true rfl, Nat.le_of_ble_eq_true rfl⟩ [] [0, 1, 2, 3, 4, 5, 6, 7, 8, 9, 10, 11, 12, 13, 14, 15, 16, 17, 18, 19, 20, 21, 22, 23, 24, 25, 26, 27, 28, 29, 30, 31, 32, 33, 34, 35, 36, 37, 38, 39, 40, 41, 42, 43, 44] (nB := 45) rfl (by decide +kernel) (sh_9010 g x (A 0) (T 0) S (P 0) hst sl A d G T t1 G2 S (SA 0) (ST 0) sv SA sd SG ST st SGT P p GP sl o hst arr xs R) (fun r6 w9 hw => ?_)
  obtain ⟨er6, rfl⟩ := hw
  have h := y_letP h er6
  refine ⟨([mnC x (A 0) (T 0) S (P 0) hst sl, dayC A d, tabC T t1, seaC S (SA 0) (ST 0) sv, dayC SA sd, tabC ST st, padC P p] ++ (dayR g A d G ++ (tabR g T t1 G2 ++ (dayR g SA sd SG ++ (tabR g ST st SGT ++ (padR g P p GP ++ ([slW g sl o.1 o.2] ++ [histW g hst arr xs R])))))) : List va_W), ⟨(sh_9010 g x (A 0) (T 0) S (P 0) hst sl A d G T t1 G2 S (SA 0) (ST 0) sv SA sd SG ST st SGT P p GP sl o hst arr xs R), rfl, rfl⟩, ?_⟩
  refine y_istore_n (lv' := [(3, .int r6), (0, .ref x), (1, .int v), (2, .int w)]) C dL_act_13 rfl (Nat.le_of_ble_eq_true rfl) rfl ?_
  refine y_aload_n C dL_act_14 1 rfl rfl ?_
  refine y_iconst (v := 0) C dL_act_15 (by decide) ?_
  refine y_callV (As := [.int (0 : Int32)]) (rest := []) C dL_act_16 (k_X6_count g x S sl A d G T t1 G2 P p GP hst arr xs R (0 : Int32)) rfl rfl rfl rfl ⟨Nat.le_of_ble_eq_true rfl, Nat.le_of_ble_eq_true rfl⟩ gL_act_X6_count (nA := 1) (by decide +kernel) rfl (sh_9001 g x (A 0) (T 0) S (P 0) hst sl A d G T t1 G2 P p GP hst arr xs R) (Nat.le_of_ble_eq_true rfl) ⟨Nat.le_of_ble_eq_true rfl, Nat.le_of_ble_eq_true rfl⟩ [0, 1, 2, 6, 7, 8, 9, 10, 11, 12, 13, 14, 15, 16, 17, 18, 19, 20, 21, 22, 23, 41, 42, 44] [3, 4, 5, 24, 25, 26, 27, 28, 29, 30, 31, 32, 33, 34, 35, 36, 37, 38, 39, 40, 43] (nB := 45) rfl (by decide +kernel) (sh_9008 g x (A 0) (T 0) S (P 0) hst sl A d G T t1 G2 S (SA 0) (ST 0) sv SA sd SG ST st SGT P p GP sl o hst arr xs R) (fun r10 w9 hw => ?_)
  obtain ⟨er10, t7, G8, e9, rfl⟩ := hw
  have h := y_letP h er10
  have h := y_letP h e9
  refine ⟨([mnC x (A 0) (T 0) S (P 0) hst sl, dayC A d, tabC T t7, seaC S (SA 0) (ST 0) sv, dayC SA sd, tabC ST st, padC P p] ++ (dayR g A d G ++ (tabR g T t7 G8 ++ (dayR g SA sd SG ++ (tabR g ST st SGT ++ (padR g P p GP ++ ([slW g sl o.1 o.2] ++ [histW g hst arr xs R])))))) : List va_W), (sh_9009 g x (A 0) (T 0) S (P 0) hst sl A d G T t1 G2 S (SA 0) (ST 0) sv SA sd SG ST st SGT P p GP sl o hst arr xs R t7 G8), ?_⟩
  refine y_istore (lv' := [(4, .int r10), (3, .int r6), (0, .ref x), (1, .int v), (2, .int w)]) C dL_act_19 (Nat.le_of_ble_eq_true rfl) rfl ?_
  refine y_aload_n C dL_act_21 2 rfl rfl ?_
  refine y_iconst (v := 3) C dL_act_22 (by decide) ?_
  refine y_callV (As := [.int (3 : Int32)]) (rest := []) C dL_act_23 (k_X6_count g x S sl A d G T t7 G8 P p GP hst arr xs R (3 : Int32)) rfl rfl rfl rfl ⟨Nat.le_of_ble_eq_true rfl, Nat.le_of_ble_eq_true rfl⟩ gL_act_X6_count (nA := 1) (by decide +kernel) rfl (sh_9001 g x (A 0) (T 0) S (P 0) hst sl A d G T t7 G8 P p GP hst arr xs R) (Nat.le_of_ble_eq_true rfl) ⟨Nat.le_of_ble_eq_true rfl, Nat.le_of_ble_eq_true rfl⟩ [0, 1, 2, 6, 7, 8, 9, 10, 11, 12, 13, 14, 15, 16, 17, 18, 19, 20, 21, 22, 23, 41, 42, 44] [3, 4, 5, 24, 25, 26, 27, 28, 29, 30, 31, 32, 33, 34, 35, 36, 37, 38, 39, 40, 43] (nB := 45) rfl (by decide +kernel) (sh_9008 g x (A 0) (T 0) S (P 0) hst sl A d G T t7 G8 S (SA 0) (ST 0) sv SA sd SG ST st SGT P p GP sl o hst arr xs R) (fun r14 w9 hw => ?_)
  obtain ⟨er14, t11, G12, e13, rfl⟩ := hw
  have h := y_letP h er14
  have h := y_letP h e13
  refine ⟨([mnC x (A 0) (T 0) S (P 0) hst sl, dayC A d, tabC T t11, seaC S (SA 0) (ST 0) sv, dayC SA sd, tabC ST st, padC P p] ++ (dayR g A d G ++ (tabR g T t11 G12 ++ (dayR g SA sd SG ++ (tabR g ST st SGT ++ (padR g P p GP ++ ([slW g sl o.1 o.2] ++ [histW g hst arr xs R])))))) : List va_W), (sh_9009 g x (A 0) (T 0) S (P 0) hst sl A d G T t7 G8 S (SA 0) (ST 0) sv SA sd SG ST st SGT P p GP sl o hst arr xs R t11 G12), ?_⟩
  refine y_istore (lv' := [(5, .int r14), (4, .int r10), (3, .int r6), (0, .ref x), (1, .int v), (2, .int w)]) C dL_act_26 (Nat.le_of_ble_eq_true rfl) rfl ?_
  refine y_iload_n C dL_act_28 4 rfl rfl ?_
  refine y_bipush (v := 15) C dL_act_29 (by decide) ?_
  refine y_iand C dL_act_31 ?_
  refine y_if h (fun c32_0 h => ?_) (fun c32_0 h => ?_)
  · refine y_tabIn (tgt := 84) C dL_act_32 c32_0 (by decide) (by decide) rfl rfl ?_
    refine y_aload_n C dL_act_84 3 rfl rfl ?_
    refine y_iload_n C dL_act_85 5 rfl rfl ?_
    refine y_iconst (v := 4) C dL_act_86 (by decide) ?_
    obtain ⟨hp15, h⟩ := h
    refine y_callSW (As := [.int w, .int (4 : Int32)]) (rest := [.ref x]) C dL_act_87 (c_L_low g w (4 : Int32) hp15) rfl rfl rfl rfl ⟨Nat.le_of_ble_eq_true rfl, Nat.le_of_ble_eq_true rfl⟩ gL_act_L_low (nA := 2) (by decide +kernel) rfl (Nat.le_of_ble_eq_true rfl) ⟨Nat.le_of_ble_eq_true rfl, Nat.le_of_ble_eq_true rfl⟩ [] [0, 1, 2, 3, 4, 5, 6, 7, 8, 9, 10, 11, 12, 13, 14, 15, 16, 17, 18, 19, 20, 21, 22, 23, 24, 25, 26, 27, 28, 29, 30, 31, 32, 33, 34, 35, 36, 37, 38, 39, 40, 41, 42, 43, 44] (nB := 45) rfl (by decide +kernel) (sh_9010 g x (A 0) (T 0) S (P 0) hst sl A d G T t11 G12 S (SA 0) (ST 0) sv SA sd SG ST st SGT P p GP sl o hst arr xs R) (fun r16 w9 hw => ?_)
    obtain ⟨er16, rfl⟩ := hw
    have h := y_letP h er16
    refine ⟨([mnC x (A 0) (T 0) S (P 0) hst sl, dayC A d, tabC T t11, seaC S (SA 0) (ST 0) sv, dayC SA sd, tabC ST st, padC P p] ++ (dayR g A d G ++ (tabR g T t11 G12 ++ (dayR g SA sd SG ++ (tabR g ST st SGT ++ (padR g P p GP ++ ([slW g sl o.1 o.2] ++ [histW g hst arr xs R])))))) : List va_W), ⟨(sh_9010 g x (A 0) (T 0) S (P 0) hst sl A d G T t11 G12 S (SA 0) (ST 0) sv SA sd SG ST st SGT P p GP sl o hst arr xs R), rfl, rfl⟩, ?_⟩
    refine y_iload_n C dL_act_90 5 rfl rfl ?_
    refine y_iconst (v := 2) C dL_act_91 (by decide) ?_
    refine y_ishr C dL_act_92 ?_
    refine y_iload_n C dL_act_93 5 rfl rfl ?_
    refine y_bipush (v := 9) C dL_act_94 (by decide) ?_
    refine y_ishr C dL_act_96 ?_
    refine y_iconst (v := 1) C dL_act_97 (by decide) ?_
    refine y_iand C dL_act_98 ?_
    refine y_if_ne (tgt := 107) C dL_act_99 rfl h (fun c99 h => ?_) (fun c99 h => ?_)
    · refine y_bipush (v := 62) C dL_act_107 (by decide) ?_
      obtain ⟨hp17, h⟩ := h
      refine y_callSW (As := [.int (w >>> ((2 : Int32) &&& 31)), .int (62 : Int32)]) (rest := [.int r16, .ref x]) C dL_act_109 (c_L_low g (w >>> ((2 : Int32) &&& 31)) (62 : Int32) hp17) rfl rfl rfl rfl ⟨Nat.le_of_ble_eq_true rfl, Nat.le_of_ble_eq_true rfl⟩ gL_act_L_low (nA := 2) (by decide +kernel) rfl (Nat.le_of_ble_eq_true rfl) ⟨Nat.le_of_ble_eq_true rfl, Nat.le_of_ble_eq_true rfl⟩ [] [0, 1, 2, 3, 4, 5, 6, 7, 8, 9, 10, 11, 12, 13, 14, 15, 16, 17, 18, 19, 20, 21, 22, 23, 24, 25, 26, 27, 28, 29, 30, 31, 32, 33, 34, 35, 36, 37, 38, 39, 40, 41, 42, 43, 44] (nB := 45) rfl (by decide +kernel) (sh_9010 g x (A 0) (T 0) S (P 0) hst sl A d G T t11 G12 S (SA 0) (ST 0) sv SA sd SG ST st SGT P p GP sl o hst arr xs R) (fun r18 w9 hw => ?_)
      obtain ⟨er18, rfl⟩ := hw
      have h := y_letP h er18
      refine ⟨([mnC x (A 0) (T 0) S (P 0) hst sl, dayC A d, tabC T t11, seaC S (SA 0) (ST 0) sv, dayC SA sd, tabC ST st, padC P p] ++ (dayR g A d G ++ (tabR g T t11 G12 ++ (dayR g SA sd SG ++ (tabR g ST st SGT ++ (padR g P p GP ++ ([slW g sl o.1 o.2] ++ [histW g hst arr xs R])))))) : List va_W), ⟨(sh_9010 g x (A 0) (T 0) S (P 0) hst sl A d G T t11 G12 S (SA 0) (ST 0) sv SA sd SG ST st SGT P p GP sl o hst arr xs R), rfl, rfl⟩, ?_⟩
      refine y_callV (As := [.int r16, .int r18]) (rest := []) C dL_act_112 (c_X6_set g x (T 0) S (P 0) sl A d G hst arr xs R r16 r18) rfl rfl rfl rfl ⟨Nat.le_of_ble_eq_true rfl, Nat.le_of_ble_eq_true rfl⟩ gL_act_X6_set (nA := 2) (by decide +kernel) rfl (sh_9012 g x (A 0) (T 0) S (P 0) hst sl A d G hst arr xs R) (Nat.le_of_ble_eq_true rfl) ⟨Nat.le_of_ble_eq_true rfl, Nat.le_of_ble_eq_true rfl⟩ [0, 1, 7, 8, 9, 10, 11, 12, 13, 14, 15, 16, 17, 18, 44] [2, 3, 4, 5, 6, 19, 20, 21, 22, 23, 24, 25, 26, 27, 28, 29, 30, 31, 32, 33, 34, 35, 36, 37, 38, 39, 40, 41, 42, 43] (nB := 45) rfl (by decide +kernel) (sh_9011 g x (A 0) (T 0) S (P 0) hst sl A d G T t11 G12 S (SA 0) (ST 0) sv SA sd SG ST st SGT P p GP sl o hst arr xs R) (fun r25 w9 hw => ?_)
      obtain ⟨er25, d19, xs22, G20, G23, e21, e24, rfl⟩ := hw
      have h := y_letP h er25
      have h := y_letP h e21
      have h := y_letP h e24
      refine ⟨([mnC x (A 0) (T 0) S (P 0) hst sl, dayC A d19, tabC T t11, seaC S (SA 0) (ST 0) sv, dayC SA sd, tabC ST st, padC P p] ++ (dayR g A d19 G20 ++ (tabR g T t11 G12 ++ (dayR g SA sd SG ++ (tabR g ST st SGT ++ (padR g P p GP ++ ([slW g sl o.1 o.2] ++ [histW g hst arr xs22 G23])))))) : List va_W), (sh_9013 g x (A 0) (T 0) S (P 0) hst sl A d G T t11 G12 S (SA 0) (ST 0) sv SA sd SG ST st SGT P p GP sl o hst arr xs R d19 G20 xs22 G23), ?_⟩
      exact HR 115 dL_act_115 r25 _ _ _ _ (rfl) (Nat.le_of_ble_eq_true rfl) (Nat.le_of_ble_eq_true rfl) (hK _ _ _ _ _ _ _ _ _ _ _ _ h)
    · refine y_bipush (v := 7) C dL_act_102 (by decide) ?_
      refine y_goto (tgt := 109) C dL_act_104 rfl ?_
      obtain ⟨hp26, h⟩ := h
      refine y_callSW (As := [.int (w >>> ((2 : Int32) &&& 31)), .int (7 : Int32)]) (rest := [.int r16, .ref x]) C dL_act_109 (c_L_low g (w >>> ((2 : Int32) &&& 31)) (7 : Int32) hp26) rfl rfl rfl rfl ⟨Nat.le_of_ble_eq_true rfl, Nat.le_of_ble_eq_true rfl⟩ gL_act_L_low (nA := 2) (by decide +kernel) rfl (Nat.le_of_ble_eq_true rfl) ⟨Nat.le_of_ble_eq_true rfl, Nat.le_of_ble_eq_true rfl⟩ [] [0, 1, 2, 3, 4, 5, 6, 7, 8, 9, 10, 11, 12, 13, 14, 15, 16, 17, 18, 19, 20, 21, 22, 23, 24, 25, 26, 27, 28, 29, 30, 31, 32, 33, 34, 35, 36, 37, 38, 39, 40, 41, 42, 43, 44] (nB := 45) rfl (by decide +kernel) (sh_9010 g x (A 0) (T 0) S (P 0) hst sl A d G T t11 G12 S (SA 0) (ST 0) sv SA sd SG ST st SGT P p GP sl o hst arr xs R) (fun r27 w9 hw => ?_)
      obtain ⟨er27, rfl⟩ := hw
      have h := y_letP h er27
      refine ⟨([mnC x (A 0) (T 0) S (P 0) hst sl, dayC A d, tabC T t11, seaC S (SA 0) (ST 0) sv, dayC SA sd, tabC ST st, padC P p] ++ (dayR g A d G ++ (tabR g T t11 G12 ++ (dayR g SA sd SG ++ (tabR g ST st SGT ++ (padR g P p GP ++ ([slW g sl o.1 o.2] ++ [histW g hst arr xs R])))))) : List va_W), ⟨(sh_9010 g x (A 0) (T 0) S (P 0) hst sl A d G T t11 G12 S (SA 0) (ST 0) sv SA sd SG ST st SGT P p GP sl o hst arr xs R), rfl, rfl⟩, ?_⟩
      refine y_callV (As := [.int r16, .int r27]) (rest := []) C dL_act_112 (c_X6_set g x (T 0) S (P 0) sl A d G hst arr xs R r16 r27) rfl rfl rfl rfl ⟨Nat.le_of_ble_eq_true rfl, Nat.le_of_ble_eq_true rfl⟩ gL_act_X6_set (nA := 2) (by decide +kernel) rfl (sh_9012 g x (A 0) (T 0) S (P 0) hst sl A d G hst arr xs R) (Nat.le_of_ble_eq_true rfl) ⟨Nat.le_of_ble_eq_true rfl, Nat.le_of_ble_eq_true rfl⟩ [0, 1, 7, 8, 9, 10, 11, 12, 13, 14, 15, 16, 17, 18, 44] [2, 3, 4, 5, 6, 19, 20, 21, 22, 23, 24, 25, 26, 27, 28, 29, 30, 31, 32, 33, 34, 35, 36, 37, 38, 39, 40, 41, 42, 43] (nB := 45) rfl (by decide +kernel) (sh_9011 g x (A 0) (T 0) S (P 0) hst sl A d G T t11 G12 S (SA 0) (ST 0) sv SA sd SG ST st SGT P p GP sl o hst arr xs R) (fun r34 w9 hw => ?_)
      obtain ⟨er34, d28, xs31, G29, G32, e30, e33, rfl⟩ := hw
      have h := y_letP h er34
      have h := y_letP h e30
      have h := y_letP h e33
      refine ⟨([mnC x (A 0) (T 0) S (P 0) hst sl, dayC A d28, tabC T t11, seaC S (SA 0) (ST 0) sv, dayC SA sd, tabC ST st, padC P p] ++ (dayR g A d28 G29 ++ (tabR g T t11 G12 ++ (dayR g SA sd SG ++ (tabR g ST st SGT ++ (padR g P p GP ++ ([slW g sl o.1 o.2] ++ [histW g hst arr xs31 G32])))))) : List va_W), (sh_9013 g x (A 0) (T 0) S (P 0) hst sl A d G T t11 G12 S (SA 0) (ST 0) sv SA sd SG ST st SGT P p GP sl o hst arr xs R d28 G29 xs31 G32), ?_⟩
      exact HR 115 dL_act_115 r34 _ _ _ _ (rfl) (Nat.le_of_ble_eq_true rfl) (Nat.le_of_ble_eq_true rfl) (hK _ _ _ _ _ _ _ _ _ _ _ _ h)
  refine y_if h (fun c32_1 h => ?_) (fun c32_1 h => ?_)
  · refine y_tabIn (tgt := 116) C dL_act_32 c32_1 (by decide) (by decide) rfl rfl ?_
    refine y_aload_n C dL_act_116 3 rfl rfl ?_
    refine y_iload_n C dL_act_117 5 rfl rfl ?_
    refine y_bipush (v := 32) C dL_act_118 (by decide) ?_
    obtain ⟨hp35, h⟩ := h
    refine y_callSW (As := [.int w, .int (32 : Int32)]) (rest := [.ref x]) C dL_act_120 (c_L_low g w (32 : Int32) hp35) rfl rfl rfl rfl ⟨Nat.le_of_ble_eq_true rfl, Nat.le_of_ble_eq_true rfl⟩ gL_act_L_low (nA := 2) (by decide +kernel) rfl (Nat.le_of_ble_eq_true rfl) ⟨Nat.le_of_ble_eq_true rfl, Nat.le_of_ble_eq_true rfl⟩ [] [0, 1, 2, 3, 4, 5, 6, 7, 8, 9, 10, 11, 12, 13, 14, 15, 16, 17, 18, 19, 20, 21, 22, 23, 24, 25, 26, 27, 28, 29, 30, 31, 32, 33, 34, 35, 36, 37, 38, 39, 40, 41, 42, 43, 44] (nB := 45) rfl (by decide +kernel) (sh_9010 g x (A 0) (T 0) S (P 0) hst sl A d G T t11 G12 S (SA 0) (ST 0) sv SA sd SG ST st SGT P p GP sl o hst arr xs R) (fun r36 w9 hw => ?_)
    obtain ⟨er36, rfl⟩ := hw
    have h := y_letP h er36
    refine ⟨([mnC x (A 0) (T 0) S (P 0) hst sl, dayC A d, tabC T t11, seaC S (SA 0) (ST 0) sv, dayC SA sd, tabC ST st, padC P p] ++ (dayR g A d G ++ (tabR g T t11 G12 ++ (dayR g SA sd SG ++ (tabR g ST st SGT ++ (padR g P p GP ++ ([slW g sl o.1 o.2] ++ [histW g hst arr xs R])))))) : List va_W), ⟨(sh_9010 g x (A 0) (T 0) S (P 0) hst sl A d G T t11 G12 S (SA 0) (ST 0) sv SA sd SG ST st SGT P p GP sl o hst arr xs R), rfl, rfl⟩, ?_⟩
    refine y_iload_n C dL_act_123 5 rfl rfl ?_
    refine y_iconst (v := 5) C dL_act_124 (by decide) ?_
    refine y_ishr C dL_act_125 ?_
    refine y_bipush (v := 31) C dL_act_126 (by decide) ?_
    obtain ⟨hp37, h⟩ := h
    refine y_callSW (As := [.int (w >>> ((5 : Int32) &&& 31)), .int (31 : Int32)]) (rest := [.int r36, .ref x]) C dL_act_128 (c_L_low g (w >>> ((5 : Int32) &&& 31)) (31 : Int32) hp37) rfl rfl rfl rfl ⟨Nat.le_of_ble_eq_true rfl, Nat.le_of_ble_eq_true rfl⟩ gL_act_L_low (nA := 2) (by decide +kernel) rfl (Nat.le_of_ble_eq_true rfl) ⟨Nat.le_of_ble_eq_true rfl, Nat.le_of_ble_eq_true rfl⟩ [] [0, 1, 2, 3, 4, 5, 6, 7, 8, 9, 10, 11, 12, 13, 14, 15, 16, 17, 18, 19, 20, 21, 22, 23, 24, 25, 26, 27, 28, 29, 30, 31, 32, 33, 34, 35, 36, 37, 38, 39, 40, 41, 42, 43, 44] (nB := 45) rfl (by decide +kernel) (sh_9010 g x (A 0) (T 0) S (P 0) hst sl A d G T t11 G12 S (SA 0) (ST 0) sv SA sd SG ST st SGT P p GP sl o hst arr xs R) (fun r38 w9 hw => ?_)
    obtain ⟨er38, rfl⟩ := hw
    have h := y_letP h er38
    refine ⟨([mnC x (A 0) (T 0) S (P 0) hst sl, dayC A d, tabC T t11, seaC S (SA 0) (ST 0) sv, dayC SA sd, tabC ST st, padC P p] ++ (dayR g A d G ++ (tabR g T t11 G12 ++ (dayR g SA sd SG ++ (tabR g ST st SGT ++ (padR g P p GP ++ ([slW g sl o.1 o.2] ++ [histW g hst arr xs R])))))) : List va_W), ⟨(sh_9010 g x (A 0) (T 0) S (P 0) hst sl A d G T t11 G12 S (SA 0) (ST 0) sv SA sd SG ST st SGT P p GP sl o hst arr xs R), rfl, rfl⟩, ?_⟩
    refine y_callV (As := [.int r36, .int r38]) (rest := []) C dL_act_131 (c_X6_stop g x (T 0) S (P 0) sl A d G hst arr xs R r36 r38) rfl rfl rfl rfl ⟨Nat.le_of_ble_eq_true rfl, Nat.le_of_ble_eq_true rfl⟩ gL_act_X6_stop (nA := 2) (by decide +kernel) rfl (sh_9012 g x (A 0) (T 0) S (P 0) hst sl A d G hst arr xs R) (Nat.le_of_ble_eq_true rfl) ⟨Nat.le_of_ble_eq_true rfl, Nat.le_of_ble_eq_true rfl⟩ [0, 1, 7, 8, 9, 10, 11, 12, 13, 14, 15, 16, 17, 18, 44] [2, 3, 4, 5, 6, 19, 20, 21, 22, 23, 24, 25, 26, 27, 28, 29, 30, 31, 32, 33, 34, 35, 36, 37, 38, 39, 40, 41, 42, 43] (nB := 45) rfl (by decide +kernel) (sh_9014 g x (A 0) (T 0) S (P 0) hst sl A d G T t11 G12 S (SA 0) (ST 0) sv SA sd SG ST st SGT P p GP sl o hst arr xs R) (fun r45 w9 hw => ?_)
    obtain ⟨er45, d39, xs42, G40, G43, e41, e44, rfl⟩ := hw
    have h := y_letP h er45
    have h := y_letP h e41
    have h := y_letP h e44
    refine ⟨([mnC x (A 0) (T 0) S (P 0) hst sl, dayC A d39, tabC T t11, seaC S (SA 0) (ST 0) sv, dayC SA sd, tabC ST st, padC P p] ++ (dayR g A d39 G40 ++ (tabR g T t11 G12 ++ (dayR g SA sd SG ++ (tabR g ST st SGT ++ (padR g P p GP ++ ([slW g sl o.1 o.2] ++ [histW g hst arr xs42 G43])))))) : List va_W), (sh_9015 g x (A 0) (T 0) S (P 0) hst sl A d G T t11 G12 S (SA 0) (ST 0) sv SA sd SG ST st SGT P p GP sl o hst arr xs R d39 G40 xs42 G43), ?_⟩
    exact HR 134 dL_act_134 r45 _ _ _ _ (rfl) (Nat.le_of_ble_eq_true rfl) (Nat.le_of_ble_eq_true rfl) (hK _ _ _ _ _ _ _ _ _ _ _ _ h)
  refine y_if h (fun c32_2 h => ?_) (fun c32_2 h => ?_)
  · refine y_tabIn (tgt := 116) C dL_act_32 c32_2 (by decide) (by decide) rfl rfl ?_
    refine y_aload_n C dL_act_116 3 rfl rfl ?_
    refine y_iload_n C dL_act_117 5 rfl rfl ?_
    refine y_bipush (v := 32) C dL_act_118 (by decide) ?_
    obtain ⟨hp46, h⟩ := h
    refine y_callSW (As := [.int w, .int (32 : Int32)]) (rest := [.ref x]) C dL_act_120 (c_L_low g w (32 : Int32) hp46) rfl rfl rfl rfl ⟨Nat.le_of_ble_eq_true rfl, Nat.le_of_ble_eq_true rfl⟩ gL_act_L_low (nA := 2) (by decide +kernel) rfl (Nat.le_of_ble_eq_true rfl) ⟨Nat.le_of_ble_eq_true rfl, Nat.le_of_ble_eq_true rfl⟩ [] [0, 1, 2, 3, 4, 5, 6, 7, 8, 9, 10, 11, 12, 13, 14, 15, 16, 17, 18, 19, 20, 21, 22, 23, 24, 25, 26, 27, 28, 29, 30, 31, 32, 33, 34, 35, 36, 37, 38, 39, 40, 41, 42, 43, 44] (nB := 45) rfl (by decide +kernel) (sh_9010 g x (A 0) (T 0) S (P 0) hst sl A d G T t11 G12 S (SA 0) (ST 0) sv SA sd SG ST st SGT P p GP sl o hst arr xs R) (fun r47 w9 hw => ?_)
    obtain ⟨er47, rfl⟩ := hw
    have h := y_letP h er47
    refine ⟨([mnC x (A 0) (T 0) S (P 0) hst sl, dayC A d, tabC T t11, seaC S (SA 0) (ST 0) sv, dayC SA sd, tabC ST st, padC P p] ++ (dayR g A d G ++ (tabR g T t11 G12 ++ (dayR g SA sd SG ++ (tabR g ST st SGT ++ (padR g P p GP ++ ([slW g sl o.1 o.2] ++ [histW g hst arr xs R])))))) : List va_W), ⟨(sh_9010 g x (A 0) (T 0) S (P 0) hst sl A d G T t11 G12 S (SA 0) (ST 0) sv SA sd SG ST st SGT P p GP sl o hst arr xs R), rfl, rfl⟩, ?_⟩
    refine y_iload_n C dL_act_123 5 rfl rfl ?_
    refine y_iconst (v := 5) C dL_act_124 (by decide) ?_
    refine y_ishr C dL_act_125 ?_
    refine y_bipush (v := 31) C dL_act_126 (by decide) ?_
    obtain ⟨hp48, h⟩ := h
    refine y_callSW (As := [.int (w >>> ((5 : Int32) &&& 31)), .int (31 : Int32)]) (rest := [.int r47, .ref x]) C dL_act_128 (c_L_low g (w >>> ((5 : Int32) &&& 31)) (31 : Int32) hp48) rfl rfl rfl rfl ⟨Nat.le_of_ble_eq_true rfl, Nat.le_of_ble_eq_true rfl⟩ gL_act_L_low (nA := 2) (by decide +kernel) rfl (Nat.le_of_ble_eq_true rfl) ⟨Nat.le_of_ble_eq_true rfl, Nat.le_of_ble_eq_true rfl⟩ [] [0, 1, 2, 3, 4, 5, 6, 7, 8, 9, 10, 11, 12, 13, 14, 15, 16, 17, 18, 19, 20, 21, 22, 23, 24, 25, 26, 27, 28, 29, 30, 31, 32, 33, 34, 35, 36, 37, 38, 39, 40, 41, 42, 43, 44] (nB := 45) rfl (by decide +kernel) (sh_9010 g x (A 0) (T 0) S (P 0) hst sl A d G T t11 G12 S (SA 0) (ST 0) sv SA sd SG ST st SGT P p GP sl o hst arr xs R) (fun r49 w9 hw => ?_)
    obtain ⟨er49, rfl⟩ := hw
    have h := y_letP h er49
    refine ⟨([mnC x (A 0) (T 0) S (P 0) hst sl, dayC A d, tabC T t11, seaC S (SA 0) (ST 0) sv, dayC SA sd, tabC ST st, padC P p] ++ (dayR g A d G ++ (tabR g T t11 G12 ++ (dayR g SA sd SG ++ (tabR g ST st SGT ++ (padR g P p GP ++ ([slW g sl o.1 o.2] ++ [histW g hst arr xs R])))))) : List va_W), ⟨(sh_9010 g x (A 0) (T 0) S (P 0) hst sl A d G T t11 G12 S (SA 0) (ST 0) sv SA sd SG ST st SGT P p GP sl o hst arr xs R), rfl, rfl⟩, ?_⟩
    refine y_callV (As := [.int r47, .int r49]) (rest := []) C dL_act_131 (c_X6_stop g x (T 0) S (P 0) sl A d G hst arr xs R r47 r49) rfl rfl rfl rfl ⟨Nat.le_of_ble_eq_true rfl, Nat.le_of_ble_eq_true rfl⟩ gL_act_X6_stop (nA := 2) (by decide +kernel) rfl (sh_9012 g x (A 0) (T 0) S (P 0) hst sl A d G hst arr xs R) (Nat.le_of_ble_eq_true rfl) ⟨Nat.le_of_ble_eq_true rfl, Nat.le_of_ble_eq_true rfl⟩ [0, 1, 7, 8, 9, 10, 11, 12, 13, 14, 15, 16, 17, 18, 44] [2, 3, 4, 5, 6, 19, 20, 21, 22, 23, 24, 25, 26, 27, 28, 29, 30, 31, 32, 33, 34, 35, 36, 37, 38, 39, 40, 41, 42, 43] (nB := 45) rfl (by decide +kernel) (sh_9014 g x (A 0) (T 0) S (P 0) hst sl A d G T t11 G12 S (SA 0) (ST 0) sv SA sd SG ST st SGT P p GP sl o hst arr xs R) (fun r56 w9 hw => ?_)
    obtain ⟨er56, d50, xs53, G51, G54, e52, e55, rfl⟩ := hw
    have h := y_letP h er56
    have h := y_letP h e52
    have h := y_letP h e55
    refine ⟨([mnC x (A 0) (T 0) S (P 0) hst sl, dayC A d50, tabC T t11, seaC S (SA 0) (ST 0) sv, dayC SA sd, tabC ST st, padC P p] ++ (dayR g A d50 G51 ++ (tabR g T t11 G12 ++ (dayR g SA sd SG ++ (tabR g ST st SGT ++ (padR g P p GP ++ ([slW g sl o.1 o.2] ++ [histW g hst arr xs53 G54])))))) : List va_W), (sh_9015 g x (A 0) (T 0) S (P 0) hst sl A d G T t11 G12 S (SA 0) (ST 0) sv SA sd SG ST st SGT P p GP sl o hst arr xs R d50 G51 xs53 G54), ?_⟩
    exact HR 134 dL_act_134 r56 _ _ _ _ (rfl) (Nat.le_of_ble_eq_true rfl) (Nat.le_of_ble_eq_true rfl) (hK _ _ _ _ _ _ _ _ _ _ _ _ h)
  refine y_if h (fun c32_3 h => ?_) (fun c32_3 h => ?_)
  · refine y_tabIn (tgt := 135) C dL_act_32 c32_3 (by decide) (by decide) rfl rfl ?_
    refine y_aload_n C dL_act_135 3 rfl rfl ?_
    refine y_iload_n C dL_act_136 2 rfl rfl ?_
    refine y_callV (As := [.int r6]) (rest := []) C dL_act_137 (c_X6_cancel g x (T 0) S (P 0) sl A d G hst arr xs R r6) rfl rfl rfl rfl ⟨Nat.le_of_ble_eq_true rfl, Nat.le_of_ble_eq_true rfl⟩ gL_act_X6_cancel (nA := 1) (by decide +kernel) rfl (sh_9012 g x (A 0) (T 0) S (P 0) hst sl A d G hst arr xs R) (Nat.le_of_ble_eq_true rfl) ⟨Nat.le_of_ble_eq_true rfl, Nat.le_of_ble_eq_true rfl⟩ [0, 1, 7, 8, 9, 10, 11, 12, 13, 14, 15, 16, 17, 18, 44] [2, 3, 4, 5, 6, 19, 20, 21, 22, 23, 24, 25, 26, 27, 28, 29, 30, 31, 32, 33, 34, 35, 36, 37, 38, 39, 40, 41, 42, 43] (nB := 45) rfl (by decide +kernel) (sh_9016 g x (A 0) (T 0) S (P 0) hst sl A d G T t11 G12 S (SA 0) (ST 0) sv SA sd SG ST st SGT P p GP sl o hst arr xs R) (fun r63 w9 hw => ?_)
    obtain ⟨er63, d57, xs60, G58, G61, e59, e62, rfl⟩ := hw
    have h := y_letP h er63
    have h := y_letP h e59
    have h := y_letP h e62
    refine ⟨([mnC x (A 0) (T 0) S (P 0) hst sl, dayC A d57, tabC T t11, seaC S (SA 0) (ST 0) sv, dayC SA sd, tabC ST st, padC P p] ++ (dayR g A d57 G58 ++ (tabR g T t11 G12 ++ (dayR g SA sd SG ++ (tabR g ST st SGT ++ (padR g P p GP ++ ([slW g sl o.1 o.2] ++ [histW g hst arr xs60 G61])))))) : List va_W), (sh_9017 g x (A 0) (T 0) S (P 0) hst sl A d G T t11 G12 S (SA 0) (ST 0) sv SA sd SG ST st SGT P p GP sl o hst arr xs R d57 G58 xs60 G61), ?_⟩
    exact HR 140 dL_act_140 r63 _ _ _ _ (rfl) (Nat.le_of_ble_eq_true rfl) (Nat.le_of_ble_eq_true rfl) (hK _ _ _ _ _ _ _ _ _ _ _ _ h)
  refine y_if h (fun c32_4 h => ?_) (fun c32_4 h => ?_)
  · refine y_tabIn (tgt := 135) C dL_act_32 c32_4 (by decide) (by decide) rfl rfl ?_
    refine y_aload_n C dL_act_135 3 rfl rfl ?_
    refine y_iload_n C dL_act_136 2 rfl rfl ?_
    refine y_callV (As := [.int r6]) (rest := []) C dL_act_137 (c_X6_cancel g x (T 0) S (P 0) sl A d G hst arr xs R r6) rfl rfl rfl rfl ⟨Nat.le_of_ble_eq_true rfl, Nat.le_of_ble_eq_true rfl⟩ gL_act_X6_cancel (nA := 1) (by decide +kernel) rfl (sh_9012 g x (A 0) (T 0) S (P 0) hst sl A d G hst arr xs R) (Nat.le_of_ble_eq_true rfl) ⟨Nat.le_of_ble_eq_true rfl, Nat.le_of_ble_eq_true rfl⟩ [0, 1, 7, 8, 9, 10, 11, 12, 13, 14, 15, 16, 17, 18, 44] [2, 3, 4, 5, 6, 19, 20, 21, 22, 23, 24, 25, 26, 27, 28, 29, 30, 31, 32, 33, 34, 35, 36, 37, 38, 39, 40, 41, 42, 43] (nB := 45) rfl (by decide +kernel) (sh_9016 g x (A 0) (T 0) S (P 0) hst sl A d G T t11 G12 S (SA 0) (ST 0) sv SA sd SG ST st SGT P p GP sl o hst arr xs R) (fun r70 w9 hw => ?_)
    obtain ⟨er70, d64, xs67, G65, G68, e66, e69, rfl⟩ := hw
    have h := y_letP h er70
    have h := y_letP h e66
    have h := y_letP h e69
    refine ⟨([mnC x (A 0) (T 0) S (P 0) hst sl, dayC A d64, tabC T t11, seaC S (SA 0) (ST 0) sv, dayC SA sd, tabC ST st, padC P p] ++ (dayR g A d64 G65 ++ (tabR g T t11 G12 ++ (dayR g SA sd SG ++ (tabR g ST st SGT ++ (padR g P p GP ++ ([slW g sl o.1 o.2] ++ [histW g hst arr xs67 G68])))))) : List va_W), (sh_9017 g x (A 0) (T 0) S (P 0) hst sl A d G T t11 G12 S (SA 0) (ST 0) sv SA sd SG ST st SGT P p GP sl o hst arr xs R d64 G65 xs67 G68), ?_⟩
    exact HR 140 dL_act_140 r70 _ _ _ _ (rfl) (Nat.le_of_ble_eq_true rfl) (Nat.le_of_ble_eq_true rfl) (hK _ _ _ _ _ _ _ _ _ _ _ _ h)
  refine y_if h (fun c32_5 h => ?_) (fun c32_5 h => ?_)
  · refine y_tabIn (tgt := 141) C dL_act_32 c32_5 (by decide) (by decide) rfl rfl ?_
    refine y_aload_n C dL_act_141 3 rfl rfl ?_
    refine y_iload_n C dL_act_142 2 rfl rfl ?_
    refine y_callV (As := [.int r6]) (rest := []) C dL_act_143 (c_X6_miss g x (T 0) S (P 0) sl A d G hst arr xs R r6) rfl rfl rfl rfl ⟨Nat.le_of_ble_eq_true rfl, Nat.le_of_ble_eq_true rfl⟩ gL_act_X6_miss (nA := 1) (by decide +kernel) rfl (sh_9012 g x (A 0) (T 0) S (P 0) hst sl A d G hst arr xs R) (Nat.le_of_ble_eq_true rfl) ⟨Nat.le_of_ble_eq_true rfl, Nat.le_of_ble_eq_true rfl⟩ [0, 1, 7, 8, 9, 10, 11, 12, 13, 14, 15, 16, 17, 18, 44] [2, 3, 4, 5, 6, 19, 20, 21, 22, 23, 24, 25, 26, 27, 28, 29, 30, 31, 32, 33, 34, 35, 36, 37, 38, 39, 40, 41, 42, 43] (nB := 45) rfl (by decide +kernel) (sh_9018 g x (A 0) (T 0) S (P 0) hst sl A d G T t11 G12 S (SA 0) (ST 0) sv SA sd SG ST st SGT P p GP sl o hst arr xs R) (fun r77 w9 hw => ?_)
    obtain ⟨er77, d71, xs74, G72, G75, e73, e76, rfl⟩ := hw
    have h := y_letP h er77
    have h := y_letP h e73
    have h := y_letP h e76
    refine ⟨([mnC x (A 0) (T 0) S (P 0) hst sl, dayC A d71, tabC T t11, seaC S (SA 0) (ST 0) sv, dayC SA sd, tabC ST st, padC P p] ++ (dayR g A d71 G72 ++ (tabR g T t11 G12 ++ (dayR g SA sd SG ++ (tabR g ST st SGT ++ (padR g P p GP ++ ([slW g sl o.1 o.2] ++ [histW g hst arr xs74 G75])))))) : List va_W), (sh_9019 g x (A 0) (T 0) S (P 0) hst sl A d G T t11 G12 S (SA 0) (ST 0) sv SA sd SG ST st SGT P p GP sl o hst arr xs R d71 G72 xs74 G75), ?_⟩
    exact HR 146 dL_act_146 r77 _ _ _ _ (rfl) (Nat.le_of_ble_eq_true rfl) (Nat.le_of_ble_eq_true rfl) (hK _ _ _ _ _ _ _ _ _ _ _ _ h)
  refine y_if h (fun c32_6 h => ?_) (fun c32_6 h => ?_)
  · refine y_tabIn (tgt := 147) C dL_act_32 c32_6 (by decide) (by decide) rfl rfl ?_
    refine y_aload_n C dL_act_147 3 rfl rfl ?_
    refine y_iload C dL_act_148 0 rfl ?_
    refine y_iload_n C dL_act_150 5 rfl rfl ?_
    refine y_bipush (v := 40) C dL_act_151 (by decide) ?_
    obtain ⟨hp78, h⟩ := h
    refine y_callSW (As := [.int w, .int (40 : Int32)]) (rest := [.int r14, .ref x]) C dL_act_153 (c_L_low g w (40 : Int32) hp78) rfl rfl rfl rfl ⟨Nat.le_of_ble_eq_true rfl, Nat.le_of_ble_eq_true rfl⟩ gL_act_L_low (nA := 2) (by decide +kernel) rfl (Nat.le_of_ble_eq_true rfl) ⟨Nat.le_of_ble_eq_true rfl, Nat.le_of_ble_eq_true rfl⟩ [] [0, 1, 2, 3, 4, 5, 6, 7, 8, 9, 10, 11, 12, 13, 14, 15, 16, 17, 18, 19, 20, 21, 22, 23, 24, 25, 26, 27, 28, 29, 30, 31, 32, 33, 34, 35, 36, 37, 38, 39, 40, 41, 42, 43, 44] (nB := 45) rfl (by decide +kernel) (sh_9010 g x (A 0) (T 0) S (P 0) hst sl A d G T t11 G12 S (SA 0) (ST 0) sv SA sd SG ST st SGT P p GP sl o hst arr xs R) (fun r79 w9 hw => ?_)
    obtain ⟨er79, rfl⟩ := hw
    have h := y_letP h er79
    refine ⟨([mnC x (A 0) (T 0) S (P 0) hst sl, dayC A d, tabC T t11, seaC S (SA 0) (ST 0) sv, dayC SA sd, tabC ST st, padC P p] ++ (dayR g A d G ++ (tabR g T t11 G12 ++ (dayR g SA sd SG ++ (tabR g ST st SGT ++ (padR g P p GP ++ ([slW g sl o.1 o.2] ++ [histW g hst arr xs R])))))) : List va_W), ⟨(sh_9010 g x (A 0) (T 0) S (P 0) hst sl A d G T t11 G12 S (SA 0) (ST 0) sv SA sd SG ST st SGT P p GP sl o hst arr xs R), rfl, rfl⟩, ?_⟩
    refine y_iadd C dL_act_156 ?_
    refine y_callV (As := [.int (r14 + r79)]) (rest := []) C dL_act_157 (c_X6_pass g x S (P 0) sl A d G T t11 G12 hst arr xs R (r14 + r79)) rfl rfl rfl rfl ⟨Nat.le_of_ble_eq_true rfl, Nat.le_of_ble_eq_true rfl⟩ gL_act_X6_pass (nA := 1) (by decide +kernel) rfl (sh_9021 g x (A 0) (T 0) S (P 0) hst sl A d G T t11 G12 hst arr xs R) (Nat.le_of_ble_eq_true rfl) ⟨Nat.le_of_ble_eq_true rfl, Nat.le_of_ble_eq_true rfl⟩ [0, 1, 2, 7, 8, 9, 10, 11, 12, 13, 14, 15, 16, 17, 18, 19, 20, 21, 22, 23, 44] [3, 4, 5, 6, 24, 25, 26, 27, 28, 29, 30, 31, 32, 33, 34, 35, 36, 37, 38, 39, 40, 41, 42, 43] (nB := 45) rfl (by decide +kernel) (sh_9020 g x (A 0) (T 0) S (P 0) hst sl A d G T t11 G12 S (SA 0) (ST 0) sv SA sd SG ST st SGT P p GP sl o hst arr xs R) (fun r89 w9 hw => ?_)
    obtain ⟨er89, d80, t83, xs86, G81, G84, G87, e82, e85, e88, rfl⟩ := hw
    have h := y_letP h er89
    have h := y_letP h e82
    have h := y_letP h e85
    have h := y_letP h e88
    refine ⟨([mnC x (A 0) (T 0) S (P 0) hst sl, dayC A d80, tabC T t83, seaC S (SA 0) (ST 0) sv, dayC SA sd, tabC ST st, padC P p] ++ (dayR g A d80 G81 ++ (tabR g T t83 G84 ++ (dayR g SA sd SG ++ (tabR g ST st SGT ++ (padR g P p GP ++ ([slW g sl o.1 o.2] ++ [histW g hst arr xs86 G87])))))) : List va_W), (sh_9022 g x (A 0) (T 0) S (P 0) hst sl A d G T t11 G12 S (SA 0) (ST 0) sv SA sd SG ST st SGT P p GP sl o hst arr xs R d80 G81 t83 G84 xs86 G87), ?_⟩
    exact HR 160 dL_act_160 r89 _ _ _ _ (rfl) (Nat.le_of_ble_eq_true rfl) (Nat.le_of_ble_eq_true rfl) (hK _ _ _ _ _ _ _ _ _ _ _ _ h)
  refine y_if h (fun c32_7 h => ?_) (fun c32_7 h => ?_)
  · refine y_tabIn (tgt := 147) C dL_act_32 c32_7 (by decide) (by decide) rfl rfl ?_
    refine y_aload_n C dL_act_147 3 rfl rfl ?_
    refine y_iload C dL_act_148 0 rfl ?_
    refine y_iload_n C dL_act_150 5 rfl rfl ?_
    refine y_bipush (v := 40) C dL_act_151 (by decide) ?_
    obtain ⟨hp90, h⟩ := h
    refine y_callSW (As := [.int w, .int (40 : Int32)]) (rest := [.int r14, .ref x]) C dL_act_153 (c_L_low g w (40 : Int32) hp90) rfl rfl rfl rfl ⟨Nat.le_of_ble_eq_true rfl, Nat.le_of_ble_eq_true rfl⟩ gL_act_L_low (nA := 2) (by decide +kernel) rfl (Nat.le_of_ble_eq_true rfl) ⟨Nat.le_of_ble_eq_true rfl, Nat.le_of_ble_eq_true rfl⟩ [] [0, 1, 2, 3, 4, 5, 6, 7, 8, 9, 10, 11, 12, 13, 14, 15, 16, 17, 18, 19, 20, 21, 22, 23, 24, 25, 26, 27, 28, 29, 30, 31, 32, 33, 34, 35, 36, 37, 38, 39, 40, 41, 42, 43, 44] (nB := 45) rfl (by decide +kernel) (sh_9010 g x (A 0) (T 0) S (P 0) hst sl A d G T t11 G12 S (SA 0) (ST 0) sv SA sd SG ST st SGT P p GP sl o hst arr xs R) (fun r91 w9 hw => ?_)
    obtain ⟨er91, rfl⟩ := hw
    have h := y_letP h er91
    refine ⟨([mnC x (A 0) (T 0) S (P 0) hst sl, dayC A d, tabC T t11, seaC S (SA 0) (ST 0) sv, dayC SA sd, tabC ST st, padC P p] ++ (dayR g A d G ++ (tabR g T t11 G12 ++ (dayR g SA sd SG ++ (tabR g ST st SGT ++ (padR g P p GP ++ ([slW g sl o.1 o.2] ++ [histW g hst arr xs R])))))) : List va_W), ⟨(sh_9010 g x (A 0) (T 0) S (P 0) hst sl A d G T t11 G12 S (SA 0) (ST 0) sv SA sd SG ST st SGT P p GP sl o hst arr xs R), rfl, rfl⟩, ?_⟩
    refine y_iadd C dL_act_156 ?_
    refine y_callV (As := [.int (r14 + r91)]) (rest := []) C dL_act_157 (c_X6_pass g x S (P 0) sl A d G T t11 G12 hst arr xs R (r14 + r91)) rfl rfl rfl rfl ⟨Nat.le_of_ble_eq_true rfl, Nat.le_of_ble_eq_true rfl⟩ gL_act_X6_pass (nA := 1) (by decide +kernel) rfl (sh_9021 g x (A 0) (T 0) S (P 0) hst sl A d G T t11 G12 hst arr xs R) (Nat.le_of_ble_eq_true rfl) ⟨Nat.le_of_ble_eq_true rfl, Nat.le_of_ble_eq_true rfl⟩ [0, 1, 2, 7, 8, 9, 10, 11, 12, 13, 14, 15, 16, 17, 18, 19, 20, 21, 22, 23, 44] [3, 4, 5, 6, 24, 25, 26, 27, 28, 29, 30, 31, 32, 33, 34, 35, 36, 37, 38, 39, 40, 41, 42, 43] (nB := 45) rfl (by decide +kernel) (sh_9020 g x (A 0) (T 0) S (P 0) hst sl A d G T t11 G12 S (SA 0) (ST 0) sv SA sd SG ST st SGT P p GP sl o hst arr xs R) (fun r101 w9 hw => ?_)
    obtain ⟨er101, d92, t95, xs98, G93, G96, G99, e94, e97, e100, rfl⟩ := hw
    have h := y_letP h er101
    have h := y_letP h e94
    have h := y_letP h e97
    have h := y_letP h e100
    refine ⟨([mnC x (A 0) (T 0) S (P 0) hst sl, dayC A d92, tabC T t95, seaC S (SA 0) (ST 0) sv, dayC SA sd, tabC ST st, padC P p] ++ (dayR g A d92 G93 ++ (tabR g T t95 G96 ++ (dayR g SA sd SG ++ (tabR g ST st SGT ++ (padR g P p GP ++ ([slW g sl o.1 o.2] ++ [histW g hst arr xs98 G99])))))) : List va_W), (sh_9022 g x (A 0) (T 0) S (P 0) hst sl A d G T t11 G12 S (SA 0) (ST 0) sv SA sd SG ST st SGT P p GP sl o hst arr xs R d92 G93 t95 G96 xs98 G99), ?_⟩
    exact HR 160 dL_act_160 r101 _ _ _ _ (rfl) (Nat.le_of_ble_eq_true rfl) (Nat.le_of_ble_eq_true rfl) (hK _ _ _ _ _ _ _ _ _ _ _ _ h)
  refine y_if h (fun c32_8 h => ?_) (fun c32_8 h => ?_)
  · refine y_tabIn (tgt := 161) C dL_act_32 c32_8 (by decide) (by decide) rfl rfl ?_
    refine y_aload_n C dL_act_161 3 rfl rfl ?_
    refine y_iload_n C dL_act_162 5 rfl rfl ?_
    refine y_iconst (v := 1) C dL_act_163 (by decide) ?_
    refine y_iand C dL_act_164 ?_
    refine y_callV (As := [.int (w &&& (1 : Int32))]) (rest := []) C dL_act_165 (k_X6_restore g x (T 0) S (P 0) A d G hst arr xs R sl o (w &&& (1 : Int32))) rfl rfl rfl rfl ⟨Nat.le_of_ble_eq_true rfl, Nat.le_of_ble_eq_true rfl⟩ gL_act_X6_restore (nA := 1) (by decide +kernel) rfl (sh_9024 g x (A 0) (T 0) S (P 0) hst sl A d G hst arr xs R sl o) (Nat.le_of_ble_eq_true rfl) ⟨Nat.le_of_ble_eq_true rfl, Nat.le_of_ble_eq_true rfl⟩ [0, 1, 7, 8, 9, 10, 11, 12, 13, 14, 15, 16, 17, 18, 44, 43] [2, 3, 4, 5, 6, 19, 20, 21, 22, 23, 24, 25, 26, 27, 28, 29, 30, 31, 32, 33, 34, 35, 36, 37, 38, 39, 40, 41, 42] (nB := 45) rfl (by decide +kernel) (sh_9023 g x (A 0) (T 0) S (P 0) hst sl A d G T t11 G12 S (SA 0) (ST 0) sv SA sd SG ST st SGT P p GP sl o hst arr xs R) (fun r108 w9 hw => ?_)
    obtain ⟨d102, xs105, G103, G106, hq109, rfl⟩ := hw
    have h := h r108 d102 xs105 hq109
    refine ⟨([mnC x (A 0) (T 0) S (P 0) hst sl, dayC A d102, tabC T t11, seaC S (SA 0) (ST 0) sv, dayC SA sd, tabC ST st, padC P p] ++ (dayR g A d102 G103 ++ (tabR g T t11 G12 ++ (dayR g SA sd SG ++ (tabR g ST st SGT ++ (padR g P p GP ++ ([slW g sl o.1 o.2] ++ [histW g hst arr xs105 G106])))))) : List va_W), (sh_9025 g x (A 0) (T 0) S (P 0) hst sl A d G T t11 G12 S (SA 0) (ST 0) sv SA sd SG ST st SGT P p GP sl o hst arr xs R d102 G103 xs105 G106), ?_⟩
    exact HR 168 dL_act_168 r108 _ _ _ _ (rfl) (Nat.le_of_ble_eq_true rfl) (Nat.le_of_ble_eq_true rfl) (hK _ _ _ _ _ _ _ _ _ _ _ _ h)
  refine y_tabOut (tgt := 169) C dL_act_32 (by have q0 := lv_neT c32_0 (show (0 : Int32).toInt = 0 by decide); have q1 := lv_neT c32_1 (show (1 : Int32).toInt = 1 by decide); have q2 := lv_neT c32_2 (show (2 : Int32).toInt = 2 by decide); have q3 := lv_neT c32_3 (show (3 : Int32).toInt = 3 by decide); have q4 := lv_neT c32_4 (show (4 : Int32).toInt = 4 by decide); have q5 := lv_neT c32_5 (show (5 : Int32).toInt = 5 by decide); have q6 := lv_neT c32_6 (show (6 : Int32).toInt = 6 by decide); have q7 := lv_neT c32_7 (show (7 : Int32).toInt = 7 by decide); have q8 := lv_neT c32_8 (show (8 : Int32).toInt = 8 by decide); omega) rfl ?_
  refine y_aload_n C dL_act_169 3 rfl rfl ?_
  refine y_iload_n C dL_act_170 5 rfl rfl ?_
  refine y_iload C dL_act_171 1 rfl ?_
  refine y_iconst (v := 1) C dL_act_173 (by decide) ?_
  refine y_iadd C dL_act_174 ?_
  obtain ⟨hp110, h⟩ := h
  refine y_callSW (As := [.int w, .int (r10 + (1 : Int32))]) (rest := [.ref x]) C dL_act_175 (c_L_low g w (r10 + (1 : Int32)) hp110) rfl rfl rfl rfl ⟨Nat.le_of_ble_eq_true rfl, Nat.le_of_ble_eq_true rfl⟩ gL_act_L_low (nA := 2) (by decide +kernel) rfl (Nat.le_of_ble_eq_true rfl) ⟨Nat.le_of_ble_eq_true rfl, Nat.le_of_ble_eq_true rfl⟩ [] [0, 1, 2, 3, 4, 5, 6, 7, 8, 9, 10, 11, 12, 13, 14, 15, 16, 17, 18, 19, 20, 21, 22, 23, 24, 25, 26, 27, 28, 29, 30, 31, 32, 33, 34, 35, 36, 37, 38, 39, 40, 41, 42, 43, 44] (nB := 45) rfl (by decide +kernel) (sh_9010 g x (A 0) (T 0) S (P 0) hst sl A d G T t11 G12 S (SA 0) (ST 0) sv SA sd SG ST st SGT P p GP sl o hst arr xs R) (fun r111 w9 hw => ?_)
  obtain ⟨er111, rfl⟩ := hw
  have h := y_letP h er111
  refine ⟨([mnC x (A 0) (T 0) S (P 0) hst sl, dayC A d, tabC T t11, seaC S (SA 0) (ST 0) sv, dayC SA sd, tabC ST st, padC P p] ++ (dayR g A d G ++ (tabR g T t11 G12 ++ (dayR g SA sd SG ++ (tabR g ST st SGT ++ (padR g P p GP ++ ([slW g sl o.1 o.2] ++ [histW g hst arr xs R])))))) : List va_W), ⟨(sh_9010 g x (A 0) (T 0) S (P 0) hst sl A d G T t11 G12 S (SA 0) (ST 0) sv SA sd SG ST st SGT P p GP sl o hst arr xs R), rfl, rfl⟩, ?_⟩
  refine y_iload_n C dL_act_178 5 rfl rfl ?_
  refine y_iconst (v := 4) C dL_act_179 (by decide) ?_
  refine y_ishr C dL_act_180 ?_
  refine y_iload C dL_act_181 1 rfl ?_
  refine y_iconst (v := 1) C dL_act_183 (by decide) ?_
  refine y_iadd C dL_act_184 ?_
  obtain ⟨hp112, h⟩ := h
  refine y_callSW (As := [.int (w >>> ((4 : Int32) &&& 31)), .int (r10 + (1 : Int32))]) (rest := [.int r111, .ref x]) C dL_act_185 (c_L_low g (w >>> ((4 : Int32) &&& 31)) (r10 + (1 : Int32)) hp112) rfl rfl rfl rfl ⟨Nat.le_of_ble_eq_true rfl, Nat.le_of_ble_eq_true rfl⟩ gL_act_L_low (nA := 2) (by decide +kernel) rfl (Nat.le_of_ble_eq_true rfl) ⟨Nat.le_of_ble_eq_true rfl, Nat.le_of_ble_eq_true rfl⟩ [] [0, 1, 2, 3, 4, 5, 6, 7, 8, 9, 10, 11, 12, 13, 14, 15, 16, 17, 18, 19, 20, 21, 22, 23, 24, 25, 26, 27, 28, 29, 30, 31, 32, 33, 34, 35, 36, 37, 38, 39, 40, 41, 42, 43, 44] (nB := 45) rfl (by decide +kernel) (sh_9010 g x (A 0) (T 0) S (P 0) hst sl A d G T t11 G12 S (SA 0) (ST 0) sv SA sd SG ST st SGT P p GP sl o hst arr xs R) (fun r113 w9 hw => ?_)
  obtain ⟨er113, rfl⟩ := hw
  have h := y_letP h er113
  refine ⟨([mnC x (A 0) (T 0) S (P 0) hst sl, dayC A d, tabC T t11, seaC S (SA 0) (ST 0) sv, dayC SA sd, tabC ST st, padC P p] ++ (dayR g A d G ++ (tabR g T t11 G12 ++ (dayR g SA sd SG ++ (tabR g ST st SGT ++ (padR g P p GP ++ ([slW g sl o.1 o.2] ++ [histW g hst arr xs R])))))) : List va_W), ⟨(sh_9010 g x (A 0) (T 0) S (P 0) hst sl A d G T t11 G12 S (SA 0) (ST 0) sv SA sd SG ST st SGT P p GP sl o hst arr xs R), rfl, rfl⟩, ?_⟩
  refine y_iload C dL_act_188 0 rfl ?_
  refine y_iload_n C dL_act_190 5 rfl rfl ?_
  refine y_bipush (v := 8) C dL_act_191 (by decide) ?_
  refine y_ishr C dL_act_193 ?_
  refine y_bipush (v := 50) C dL_act_194 (by decide) ?_
  obtain ⟨hp114, h⟩ := h
  refine y_callSW (As := [.int (w >>> ((8 : Int32) &&& 31)), .int (50 : Int32)]) (rest := [.int r14, .int r113, .int r111, .ref x]) C dL_act_196 (c_L_low g (w >>> ((8 : Int32) &&& 31)) (50 : Int32) hp114) rfl rfl rfl rfl ⟨Nat.le_of_ble_eq_true rfl, Nat.le_of_ble_eq_true rfl⟩ gL_act_L_low (nA := 2) (by decide +kernel) rfl (Nat.le_of_ble_eq_true rfl) ⟨Nat.le_of_ble_eq_true rfl, Nat.le_of_ble_eq_true rfl⟩ [] [0, 1, 2, 3, 4, 5, 6, 7, 8, 9, 10, 11, 12, 13, 14, 15, 16, 17, 18, 19, 20, 21, 22, 23, 24, 25, 26, 27, 28, 29, 30, 31, 32, 33, 34, 35, 36, 37, 38, 39, 40, 41, 42, 43, 44] (nB := 45) rfl (by decide +kernel) (sh_9010 g x (A 0) (T 0) S (P 0) hst sl A d G T t11 G12 S (SA 0) (ST 0) sv SA sd SG ST st SGT P p GP sl o hst arr xs R) (fun r115 w9 hw => ?_)
  obtain ⟨er115, rfl⟩ := hw
  have h := y_letP h er115
  refine ⟨([mnC x (A 0) (T 0) S (P 0) hst sl, dayC A d, tabC T t11, seaC S (SA 0) (ST 0) sv, dayC SA sd, tabC ST st, padC P p] ++ (dayR g A d G ++ (tabR g T t11 G12 ++ (dayR g SA sd SG ++ (tabR g ST st SGT ++ (padR g P p GP ++ ([slW g sl o.1 o.2] ++ [histW g hst arr xs R])))))) : List va_W), ⟨(sh_9010 g x (A 0) (T 0) S (P 0) hst sl A d G T t11 G12 S (SA 0) (ST 0) sv SA sd SG ST st SGT P p GP sl o hst arr xs R), rfl, rfl⟩, ?_⟩
  refine y_iadd C dL_act_199 ?_
  refine y_sipush (v := 602) C dL_act_200 (by decide) ?_
  obtain ⟨hp116, h⟩ := h
  refine y_callSW (As := [.int (r14 + r115), .int (602 : Int32)]) (rest := [.int r113, .int r111, .ref x]) C dL_act_203 (c_L_low g (r14 + r115) (602 : Int32) hp116) rfl rfl rfl rfl ⟨Nat.le_of_ble_eq_true rfl, Nat.le_of_ble_eq_true rfl⟩ gL_act_L_low (nA := 2) (by decide +kernel) rfl (Nat.le_of_ble_eq_true rfl) ⟨Nat.le_of_ble_eq_true rfl, Nat.le_of_ble_eq_true rfl⟩ [] [0, 1, 2, 3, 4, 5, 6, 7, 8, 9, 10, 11, 12, 13, 14, 15, 16, 17, 18, 19, 20, 21, 22, 23, 24, 25, 26, 27, 28, 29, 30, 31, 32, 33, 34, 35, 36, 37, 38, 39, 40, 41, 42, 43, 44] (nB := 45) rfl (by decide +kernel) (sh_9010 g x (A 0) (T 0) S (P 0) hst sl A d G T t11 G12 S (SA 0) (ST 0) sv SA sd SG ST st SGT P p GP sl o hst arr xs R) (fun r117 w9 hw => ?_)
  obtain ⟨er117, rfl⟩ := hw
  have h := y_letP h er117
  refine ⟨([mnC x (A 0) (T 0) S (P 0) hst sl, dayC A d, tabC T t11, seaC S (SA 0) (ST 0) sv, dayC SA sd, tabC ST st, padC P p] ++ (dayR g A d G ++ (tabR g T t11 G12 ++ (dayR g SA sd SG ++ (tabR g ST st SGT ++ (padR g P p GP ++ ([slW g sl o.1 o.2] ++ [histW g hst arr xs R])))))) : List va_W), ⟨(sh_9010 g x (A 0) (T 0) S (P 0) hst sl A d G T t11 G12 S (SA 0) (ST 0) sv SA sd SG ST st SGT P p GP sl o hst arr xs R), rfl, rfl⟩, ?_⟩
  refine y_iload C dL_act_206 0 rfl ?_
  refine y_bipush (v := 10) C dL_act_208 (by decide) ?_
  refine y_iadd C dL_act_210 ?_
  refine y_iload_n C dL_act_211 5 rfl rfl ?_
  refine y_bipush (v := 14) C dL_act_212 (by decide) ?_
  refine y_ishr C dL_act_214 ?_
  refine y_sipush (v := 150) C dL_act_215 (by decide) ?_
  obtain ⟨hp118, h⟩ := h
  refine y_callSW (As := [.int (w >>> ((14 : Int32) &&& 31)), .int (150 : Int32)]) (rest := [.int (r14 + (10 : Int32)), .int r117, .int r113, .int r111, .ref x]) C dL_act_218 (c_L_low g (w >>> ((14 : Int32) &&& 31)) (150 : Int32) hp118) rfl rfl rfl rfl ⟨Nat.le_of_ble_eq_true rfl, Nat.le_of_ble_eq_true rfl⟩ gL_act_L_low (nA := 2) (by decide +kernel) rfl (Nat.le_of_ble_eq_true rfl) ⟨Nat.le_of_ble_eq_true rfl, Nat.le_of_ble_eq_true rfl⟩ [] [0, 1, 2, 3, 4, 5, 6, 7, 8, 9, 10, 11, 12, 13, 14, 15, 16, 17, 18, 19, 20, 21, 22, 23, 24, 25, 26, 27, 28, 29, 30, 31, 32, 33, 34, 35, 36, 37, 38, 39, 40, 41, 42, 43, 44] (nB := 45) rfl (by decide +kernel) (sh_9010 g x (A 0) (T 0) S (P 0) hst sl A d G T t11 G12 S (SA 0) (ST 0) sv SA sd SG ST st SGT P p GP sl o hst arr xs R) (fun r119 w9 hw => ?_)
  obtain ⟨er119, rfl⟩ := hw
  have h := y_letP h er119
  refine ⟨([mnC x (A 0) (T 0) S (P 0) hst sl, dayC A d, tabC T t11, seaC S (SA 0) (ST 0) sv, dayC SA sd, tabC ST st, padC P p] ++ (dayR g A d G ++ (tabR g T t11 G12 ++ (dayR g SA sd SG ++ (tabR g ST st SGT ++ (padR g P p GP ++ ([slW g sl o.1 o.2] ++ [histW g hst arr xs R])))))) : List va_W), ⟨(sh_9010 g x (A 0) (T 0) S (P 0) hst sl A d G T t11 G12 S (SA 0) (ST 0) sv SA sd SG ST st SGT P p GP sl o hst arr xs R), rfl, rfl⟩, ?_⟩
  refine y_iadd C dL_act_221 ?_
  refine y_sipush (v := 902) C dL_act_222 (by decide) ?_
  obtain ⟨hp120, h⟩ := h
  refine y_callSW (As := [.int ((r14 + (10 : Int32)) + r119), .int (902 : Int32)]) (rest := [.int r117, .int r113, .int r111, .ref x]) C dL_act_225 (c_L_low g ((r14 + (10 : Int32)) + r119) (902 : Int32) hp120) rfl rfl rfl rfl ⟨Nat.le_of_ble_eq_true rfl, Nat.le_of_ble_eq_true rfl⟩ gL_act_L_low (nA := 2) (by decide +kernel) rfl (Nat.le_of_ble_eq_true rfl) ⟨Nat.le_of_ble_eq_true rfl, Nat.le_of_ble_eq_true rfl⟩ [] [0, 1, 2, 3, 4, 5, 6, 7, 8, 9, 10, 11, 12, 13, 14, 15, 16, 17, 18, 19, 20, 21, 22, 23, 24, 25, 26, 27, 28, 29, 30, 31, 32, 33, 34, 35, 36, 37, 38, 39, 40, 41, 42, 43, 44] (nB := 45) rfl (by decide +kernel) (sh_9010 g x (A 0) (T 0) S (P 0) hst sl A d G T t11 G12 S (SA 0) (ST 0) sv SA sd SG ST st SGT P p GP sl o hst arr xs R) (fun r121 w9 hw => ?_)
  obtain ⟨er121, rfl⟩ := hw
  have h := y_letP h er121
  refine ⟨([mnC x (A 0) (T 0) S (P 0) hst sl, dayC A d, tabC T t11, seaC S (SA 0) (ST 0) sv, dayC SA sd, tabC ST st, padC P p] ++ (dayR g A d G ++ (tabR g T t11 G12 ++ (dayR g SA sd SG ++ (tabR g ST st SGT ++ (padR g P p GP ++ ([slW g sl o.1 o.2] ++ [histW g hst arr xs R])))))) : List va_W), ⟨(sh_9010 g x (A 0) (T 0) S (P 0) hst sl A d G T t11 G12 S (SA 0) (ST 0) sv SA sd SG ST st SGT P p GP sl o hst arr xs R), rfl, rfl⟩, ?_⟩
  refine y_callV (As := [.int r111, .int r113, .int r117, .int r121]) (rest := []) C dL_act_228 (c_X6_book g x (T 0) (P 0) sl A d G S sv SA sd SG ST st SGT hst arr xs R r111 r113 r117 r121) rfl rfl rfl rfl ⟨Nat.le_of_ble_eq_true rfl, Nat.le_of_ble_eq_true rfl⟩ gL_act_X6_book (nA := 4) (by decide +kernel) rfl (sh_9027 g x (A 0) (T 0) S (P 0) hst sl A d G S (SA 0) (ST 0) sv SA sd SG ST st SGT hst arr xs R) (Nat.le_of_ble_eq_true rfl) ⟨Nat.le_of_ble_eq_true rfl, Nat.le_of_ble_eq_true rfl⟩ [0, 1, 3, 4, 5, 7, 8, 9, 10, 11, 12, 13, 14, 15, 16, 17, 18, 24, 25, 26, 27, 28, 29, 30, 31, 32, 33, 34, 35, 36, 37, 38, 39, 40, 44] [2, 6, 19, 20, 21, 22, 23, 41, 42, 43] (nB := 45) rfl (by decide +kernel) (sh_9026 g x (A 0) (T 0) S (P 0) hst sl A d G T t11 G12 S (SA 0) (ST 0) sv SA sd SG ST st SGT P p GP sl o hst arr xs R) (fun r136 w9 hw => ?_)
  obtain ⟨er136, d122, sv125, sd127, st130, xs133, G123, G128, G131, G134, e124, e126, e129, e132, e135, rfl⟩ := hw
  have h := y_letP h er136
  have h := y_letP h e124
  have h := y_letP h e126
  have h := y_letP h e129
  have h := y_letP h e132
  have h := y_letP h e135
  refine ⟨([mnC x (A 0) (T 0) S (P 0) hst sl, dayC A d122, tabC T t11, seaC S (SA 0) (ST 0) sv125, dayC SA sd127, tabC ST st130, padC P p] ++ (dayR g A d122 G123 ++ (tabR g T t11 G12 ++ (dayR g SA sd127 G128 ++ (tabR g ST st130 G131 ++ (padR g P p GP ++ ([slW g sl o.1 o.2] ++ [histW g hst arr xs133 G134])))))) : List va_W), (sh_9028 g x (A 0) (T 0) S (P 0) hst sl A d G T t11 G12 S (SA 0) (ST 0) sv SA sd SG ST st SGT P p GP sl o hst arr xs R d122 G123 sv125 sd127 G128 st130 G131 xs133 G134), ?_⟩
  exact HR 231 dL_act_231 r136 _ _ _ _ (rfl) (Nat.le_of_ble_eq_true rfl) (Nat.le_of_ble_eq_true rfl) (hK _ _ _ _ _ _ _ _ _ _ _ _ h)
