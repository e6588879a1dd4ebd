theorem dL_digest_0 : decode cL_digest 0 = .ok (.ldc2_w 8, 3) := by decide +kernel
theorem dL_digest_3 : decode cL_digest 3 = .ok (.lstore_n 1, 1) := by decide +kernel
theorem dL_digest_4 : decode cL_digest 4 = .ok (.iconst 0, 1) := by decide +kernel
theorem dL_digest_5 : decode cL_digest 5 = .ok (.istore_n 3, 1) := by decide +kernel
theorem dL_digest_6 : decode cL_digest 6 = .ok (.iload_n 3, 1) := by decide +kernel
theorem dL_digest_7 : decode cL_digest 7 = .ok (.bipush 12, 2) := by decide +kernel
theorem dL_digest_9 : decode cL_digest 9 = .ok (.if_icmp .ge 22, 3) := by decide +kernel
theorem dL_digest_12 : decode cL_digest 12 = .ok (.ldc2_w 10, 3) := by decide +kernel
theorem dL_digest_15 : decode cL_digest 15 = .ok (.lload_n 1, 1) := by decide +kernel
theorem dL_digest_16 : decode cL_digest 16 = .ok (.lmul, 1) := by decide +kernel
theorem dL_digest_17 : decode cL_digest 17 = .ok (.aload_n 0, 1) := by decide +kernel
theorem dL_digest_18 : decode cL_digest 18 = .ok (.iload_n 3, 1) := by decide +kernel
theorem dL_digest_19 : decode cL_digest 19 = .ok (.invokevirtual 12, 3) := by decide +kernel
theorem dL_digest_22 : decode cL_digest 22 = .ok (.i2l, 1) := by decide +kernel
theorem dL_digest_23 : decode cL_digest 23 = .ok (.ladd, 1) := by decide +kernel
theorem dL_digest_24 : decode cL_digest 24 = .ok (.lstore_n 1, 1) := by decide +kernel
theorem dL_digest_25 : decode cL_digest 25 = .ok (.iinc 3 1, 3) := by decide +kernel
theorem dL_digest_28 : decode cL_digest 28 = .ok (.goto (-22), 3) := by decide +kernel
theorem dL_digest_31 : decode cL_digest 31 = .ok (.iconst 0, 1) := by decide +kernel
theorem dL_digest_32 : decode cL_digest 32 = .ok (.istore_n 3, 1) := by decide +kernel
theorem dL_digest_33 : decode cL_digest 33 = .ok (.iload_n 3, 1) := by decide +kernel
theorem dL_digest_34 : decode cL_digest 34 = .ok (.aload_n 0, 1) := by decide +kernel
theorem dL_digest_35 : decode cL_digest 35 = .ok (.iconst 1, 1) := by decide +kernel
theorem dL_digest_36 : decode cL_digest 36 = .ok (.invokevirtual 12, 3) := by decide +kernel
theorem dL_digest_39 : decode cL_digest 39 = .ok (.if_icmp .ge 40, 3) := by decide +kernel
theorem dL_digest_42 : decode cL_digest 42 = .ok (.iconst 0, 1) := by decide +kernel
theorem dL_digest_43 : decode cL_digest 43 = .ok (.istore 4, 2) := by decide +kernel
theorem dL_digest_45 : decode cL_digest 45 = .ok (.iload 4, 2) := by decide +kernel
theorem dL_digest_47 : decode cL_digest 47 = .ok (.bipush 8, 2) := by decide +kernel
theorem dL_digest_49 : decode cL_digest 49 = .ok (.if_icmp .ge 24, 3) := by decide +kernel
theorem dL_digest_52 : decode cL_digest 52 = .ok (.ldc2_w 10, 3) := by decide +kernel
theorem dL_digest_55 : decode cL_digest 55 = .ok (.lload_n 1, 1) := by decide +kernel
theorem dL_digest_56 : decode cL_digest 56 = .ok (.lmul, 1) := by decide +kernel
theorem dL_digest_57 : decode cL_digest 57 = .ok (.aload_n 0, 1) := by decide +kernel
theorem dL_digest_58 : decode cL_digest 58 = .ok (.iload_n 3, 1) := by decide +kernel
theorem dL_digest_59 : decode cL_digest 59 = .ok (.iload 4, 2) := by decide +kernel
theorem dL_digest_61 : decode cL_digest 61 = .ok (.invokevirtual 18, 3) := by decide +kernel
theorem dL_digest_64 : decode cL_digest 64 = .ok (.i2l, 1) := by decide +kernel
theorem dL_digest_65 : decode cL_digest 65 = .ok (.ladd, 1) := by decide +kernel
theorem dL_digest_66 : decode cL_digest 66 = .ok (.lstore_n 1, 1) := by decide +kernel
theorem dL_digest_67 : decode cL_digest 67 = .ok (.iinc 4 1, 3) := by decide +kernel
theorem dL_digest_70 : decode cL_digest 70 = .ok (.goto (-25), 3) := by decide +kernel
theorem dL_digest_73 : decode cL_digest 73 = .ok (.iinc 3 1, 3) := by decide +kernel
theorem dL_digest_76 : decode cL_digest 76 = .ok (.goto (-43), 3) := by decide +kernel
theorem dL_digest_79 : decode cL_digest 79 = .ok (.iconst 0, 1) := by decide +kernel
theorem dL_digest_80 : decode cL_digest 80 = .ok (.istore_n 3, 1) := by decide +kernel
theorem dL_digest_81 : decode cL_digest 81 = .ok (.iload_n 3, 1) := by decide +kernel
theorem dL_digest_82 : decode cL_digest 82 = .ok (.aload_n 0, 1) := by decide +kernel
theorem dL_digest_83 : decode cL_digest 83 = .ok (.iconst 2, 1) := by decide +kernel
theorem dL_digest_84 : decode cL_digest 84 = .ok (.invokevirtual 12, 3) := by decide +kernel
theorem dL_digest_87 : decode cL_digest 87 = .ok (.if_icmp .ge 40, 3) := by decide +kernel
theorem dL_digest_90 : decode cL_digest 90 = .ok (.iconst 0, 1) := by decide +kernel
theorem dL_digest_91 : decode cL_digest 91 = .ok (.istore 4, 2) := by decide +kernel
theorem dL_digest_93 : decode cL_digest 93 = .ok (.iload 4, 2) := by decide +kernel
theorem dL_digest_95 : decode cL_digest 95 = .ok (.bipush 6, 2) := by decide +kernel
theorem dL_digest_97 : decode cL_digest 97 = .ok (.if_icmp .ge 24, 3) := by decide +kernel
theorem dL_digest_100 : decode cL_digest 100 = .ok (.ldc2_w 10, 3) := by decide +kernel
theorem dL_digest_103 : decode cL_digest 103 = .ok (.lload_n 1, 1) := by decide +kernel
theorem dL_digest_104 : decode cL_digest 104 = .ok (.lmul, 1) := by decide +kernel
theorem dL_digest_105 : decode cL_digest 105 = .ok (.aload_n 0, 1) := by decide +kernel
theorem dL_digest_106 : decode cL_digest 106 = .ok (.iload_n 3, 1) := by decide +kernel
theorem dL_digest_107 : decode cL_digest 107 = .ok (.iload 4, 2) := by decide +kernel
theorem dL_digest_109 : decode cL_digest 109 = .ok (.invokevirtual 22, 3) := by decide +kernel
theorem dL_digest_112 : decode cL_digest 112 = .ok (.i2l, 1) := by decide +kernel
theorem dL_digest_113 : decode cL_digest 113 = .ok (.ladd, 1) := by decide +kernel
theorem dL_digest_114 : decode cL_digest 114 = .ok (.lstore_n 1, 1) := by decide +kernel
theorem dL_digest_115 : decode cL_digest 115 = .ok (.iinc 4 1, 3) := by decide +kernel
theorem dL_digest_118 : decode cL_digest 118 = .ok (.goto (-25), 3) := by decide +kernel
theorem dL_digest_121 : decode cL_digest 121 = .ok (.iinc 3 1, 3) := by decide +kernel
theorem dL_digest_124 : decode cL_digest 124 = .ok (.goto (-43), 3) := by decide +kernel
theorem dL_digest_127 : decode cL_digest 127 = .ok (.iconst 0, 1) := by decide +kernel
theorem dL_digest_128 : decode cL_digest 128 = .ok (.istore_n 3, 1) := by decide +kernel
theorem dL_digest_129 : decode cL_digest 129 = .ok (.iload_n 3, 1) := by decide +kernel
theorem dL_digest_130 : decode cL_digest 130 = .ok (.aload_n 0, 1) := by decide +kernel
theorem dL_digest_131 : decode cL_digest 131 = .ok (.iconst 0, 1) := by decide +kernel
theorem dL_digest_132 : decode cL_digest 132 = .ok (.invokevirtual 12, 3) := by decide +kernel
theorem dL_digest_135 : decode cL_digest 135 = .ok (.if_icmp .ge 35, 3) := by decide +kernel
theorem dL_digest_138 : decode cL_digest 138 = .ok (.ldc2_w 10, 3) := by decide +kernel
theorem dL_digest_141 : decode cL_digest 141 = .ok (.ldc2_w 10, 3) := by decide +kernel
theorem dL_digest_144 : decode cL_digest 144 = .ok (.lload_n 1, 1) := by decide +kernel
theorem dL_digest_145 : decode cL_digest 145 = .ok (.lmul, 1) := by decide +kernel
theorem dL_digest_146 : decode cL_digest 146 = .ok (.aload_n 0, 1) := by decide +kernel
theorem dL_digest_147 : decode cL_digest 147 = .ok (.iload_n 3, 1) := by decide +kernel
theorem dL_digest_148 : decode cL_digest 148 = .ok (.iconst 0, 1) := by decide +kernel
theorem dL_digest_149 : decode cL_digest 149 = .ok (.invokevirtual 25, 3) := by decide +kernel
theorem dL_digest_152 : decode cL_digest 152 = .ok (.i2l, 1) := by decide +kernel
theorem dL_digest_153 : decode cL_digest 153 = .ok (.ladd, 1) := by decide +kernel
theorem dL_digest_154 : decode cL_digest 154 = .ok (.lmul, 1) := by decide +kernel
theorem dL_digest_155 : decode cL_digest 155 = .ok (.aload_n 0, 1) := by decide +kernel
theorem dL_digest_156 : decode cL_digest 156 = .ok (.iload_n 3, 1) := by decide +kernel
theorem dL_digest_157 : decode cL_digest 157 = .ok (.iconst 1, 1) := by decide +kernel
theorem dL_digest_158 : decode cL_digest 158 = .ok (.invokevirtual 25, 3) := by decide +kernel
theorem dL_digest_161 : decode cL_digest 161 = .ok (.i2l, 1) := by decide +kernel
theorem dL_digest_162 : decode cL_digest 162 = .ok (.ladd, 1) := by decide +kernel
theorem dL_digest_163 : decode cL_digest 163 = .ok (.lstore_n 1, 1) := by decide +kernel
theorem dL_digest_164 : decode cL_digest 164 = .ok (.iinc 3 1, 3) := by decide +kernel
theorem dL_digest_167 : decode cL_digest 167 = .ok (.goto (-38), 3) := by decide +kernel
theorem dL_digest_170 : decode cL_digest 170 = .ok (.lload_n 1, 1) := by decide +kernel
theorem dL_digest_171 : decode cL_digest 171 = .ok (.lreturn, 1) := by decide +kernel
theorem kL_digest_2 : Cond.constantLong RL 10 (31) ∈ wsL_digest := List.mem_of_getElem? (i := 2) (by decide +kernel)
theorem kL_digest_1 : Cond.constantLong RL 8 (3) ∈ wsL_digest := List.mem_of_getElem? (i := 1) (by decide +kernel)
set_option maxHeartbeats 4000000 in
set_option maxRecDepth 100000 in
theorem w_L_digest_6 {Z : yZ} (g : yG) (x rs rl : Nat) (A : Nat → Nat) (d : RV) (G : Nat → Nat → Int32) (T : Nat → Nat) (P : Nat → Nat) (p : RV) (GP : Nat → Nat → Int32) (hst arr : Nat) (xs : List RV) (R : List ((Nat → Nat) × RV × (Nat → Nat → Int32))) (C : yC Z g cL_digest 5 wsL_digest RL) {post : Int64 → List va_W → Prop} (HR : yRl Z ({ frames := 6, cells := 0, slots := 0, locals := 136 } : Room) cL_digest post 0 0) {X6 : RV → Int64 → Int32 → Prop} {X33 : RV → Int64 → Int32 → Prop} {X45 : RV → Int64 → Int32 → Int32 → Prop} {X81 : RV → Int64 → Int32 → Prop} {X93 : RV → Int64 → Int32 → Int32 → Prop} {X129 : RV → Int64 → Int32 → Prop} (hX6 : ∀ (t : RV) (x1 : Int64) (x3 : Int32) (GT : Nat → Nat → Int32), X6 t x1 x3 → yJ Z ({ frames := 6, cells := 0, slots := 0, locals := 136 } : Room) 0 0 ([mnC x (A 0) (T 0) rs (P 0) hst rl, dayC A d, tabC T t, padC P p] ++ (dayR g A d G ++ (tabR g T t GT ++ (padR g P p GP ++ [histW g hst arr xs R]))) : List va_W) 6 [(0, .ref x), (1, .long x1), (3, .int x3)] []) (hX33 : ∀ (t : RV) (x1 : Int64) (x3 : Int32) (GT : Nat → Nat → Int32), X33 t x1 x3 → yJ Z ({ frames := 6, cells := 0, slots := 0, locals := 136 } : Room) 0 0 ([mnC x (A 0) (T 0) rs (P 0) hst rl, dayC A d, tabC T t, padC P p] ++ (dayR g A d G ++ (tabR g T t GT ++ (padR g P p GP ++ [histW g hst arr xs R]))) : List va_W) 33 [(0, .ref x), (1, .long x1), (3, .int x3)] []) (hX45 : ∀ (t : RV) (x1 : Int64) (x3 : Int32) (x4 : Int32) (GT : Nat → Nat → Int32), X45 t x1 x3 x4 → yJ Z ({ frames := 6, cells := 0, slots := 0, locals := 136 } : Room) 0 0 ([mnC x (A 0) (T 0) rs (P 0) hst rl, dayC A d, tabC T t, padC P p] ++ (dayR g A d G ++ (tabR g T t GT ++ (padR g P p GP ++ [histW g hst arr xs R]))) : List va_W) 45 [(0, .ref x), (1, .long x1), (3, .int x3), (4, .int x4)] []) (hX81 : ∀ (t : RV) (x1 : Int64) (x3 : Int32) (GT : Nat → Nat → Int32), X81 t x1 x3 → yJ Z ({ frames := 6, cells := 0, slots := 0, locals := 136 } : Room) 0 0 ([mnC x (A 0) (T 0) rs (P 0) hst rl, dayC A d, tabC T t, padC P p] ++ (dayR g A d G ++ (tabR g T t GT ++ (padR g P p GP ++ [histW g hst arr xs R]))) : List va_W) 81 [(0, .ref x), (1, .long x1), (3, .int x3)] []) (hX93 : ∀ (t : RV) (x1 : Int64) (x3 : Int32) (x4 : Int32) (GT : Nat → Nat → Int32), X93 t x1 x3 x4 → yJ Z ({ frames := 6, cells := 0, slots := 0, locals := 136 } : Room) 0 0 ([mnC x (A 0) (T 0) rs (P 0) hst rl, dayC A d, tabC T t, padC P p] ++ (dayR g A d G ++ (tabR g T t GT ++ (padR g P p GP ++ [histW g hst arr xs R]))) : List va_W) 93 [(0, .ref x), (1, .long x1), (3, .int x3), (4, .int x4)] []) (hX129 : ∀ (t : RV) (x1 : Int64) (x3 : Int32) (GT : Nat → Nat → Int32), X129 t x1 x3 → yJ Z ({ frames := 6, cells := 0, slots := 0, locals := 136 } : Room) 0 0 ([mnC x (A 0) (T 0) rs (P 0) hst rl, dayC A d, tabC T t, padC P p] ++ (dayR g A d G ++ (tabR g T t GT ++ (padR g P p GP ++ [histW g hst arr xs R]))) : List va_W) 129 [(0, .ref x), (1, .long x1), (3, .int x3)] []) {K : Int64 → RV → Prop} (hK : ∀ (r0 : Int64) (t : RV) (GT : Nat → Nat → Int32), K r0 t → post r0 ([mnC x (A 0) (T 0) rs (P 0) hst rl, dayC A d, tabC T t, padC P p] ++ (dayR g A d G ++ (tabR g T t GT ++ (padR g P p GP ++ [histW g hst arr xs R]))) : List va_W)) (t : RV) (x1 : Int64) (x3 : Int32) (GT : Nat → Nat → Int32) (h : wp_L_digest_6 d p xs X6 X33 X45 X81 X93 X129 K t x1 x3) : yJ Z ({ frames := 6, cells := 0, slots := 0, locals := 136 } : Room) 0 0 ([mnC x (A 0) (T 0) rs (P 0) hst rl, dayC A d, tabC T t, padC P p] ++ (dayR g A d G ++ (tabR g T t GT ++ (padR g P p GP ++ [histW g hst arr xs R]))) : List va_W) 6 [(0, .ref x), (1, .long x1), (3, .int x3)] [] := by
  unfold wp_L_digest_6 at h
  refine y_iload_n C dL_digest_6 2 rfl rfl ?_
  refine y_bipush (v := 12) C dL_digest_7 (by decide) ?_
  refine y_icmp_ge (tgt := 31) C dL_digest_9 rfl h (fun c9 h => ?_) (fun c9 h => ?_)
  · refine y_iconst (v := 0) C dL_digest_31 (by decide) ?_
    refine y_istore_n (lv' := [(3, .int (0 : Int32)), (0, .ref x), (1, .long x1)]) C dL_digest_32 rfl (Nat.le_of_ble_eq_true rfl) rfl ?_
    refine y_sub (lv' := [(0, .ref x), (1, .long x1), (3, .int (0 : Int32))]) [1, 2, 0] rfl ?_
    exact hX33 _ _ _ _ h
  · refine y_ldc2 (v := 31) C dL_digest_12 kL_digest_2 ?_
    refine y_lload_n C dL_digest_15 1 rfl rfl ?_
    refine y_lmul C dL_digest_16 ?_
    refine y_aload_n C dL_digest_17 0 rfl rfl ?_
    refine y_iload_n C dL_digest_18 2 rfl rfl ?_
    refine y_callV (As := [.int x3]) (rest := [.long ((31 : Int64) * x1)]) C dL_digest_19 (k_X6_count g x rs rl A d G T t GT P p GP hst arr xs R x3) rfl rfl rfl rfl ⟨Nat.le_of_ble_eq_true rfl, Nat.le_of_ble_eq_true rfl⟩ gL_digest_X6_count (nA := 1) (by decide +kernel) rfl (sh_9001 g x (A 0) (T 0) rs (P 0) hst rl A d G T t GT P p GP hst arr xs R) (Nat.le_of_ble_eq_true rfl) ⟨Nat.le_of_ble_eq_true rfl, Nat.le_of_ble_eq_true rfl⟩ [0, 1, 2, 3, 4, 5, 6, 7, 8, 9, 10, 11, 12, 13, 14, 15, 16, 17, 18, 19, 20, 21, 22, 23] [] (nB := 24) rfl (by decide +kernel) (sh_9000 g x (A 0) (T 0) rs (P 0) hst rl A d G T t GT P p GP hst arr xs R) (fun r4 w9 hw => ?_)
    obtain ⟨er4, t1, G2, e3, rfl⟩ := hw
    have h := y_letP h er4
    have h := y_letP h e3
    refine ⟨([mnC x (A 0) (T 0) rs (P 0) hst rl, dayC A d, tabC T t1, padC P p] ++ (dayR g A d G ++ (tabR g T t1 G2 ++ (padR g P p GP ++ [histW g hst arr xs R]))) : List va_W), (sh_9002 g x (A 0) (T 0) rs (P 0) hst rl A d G T t GT P p GP hst arr xs R t1 G2), ?_⟩
    refine y_i2l C dL_digest_22 rfl ?_
    refine y_ladd C dL_digest_23 ?_
    refine y_lstore_n (lv' := [(1, .long (((31 : Int64) * x1) + (r4).toInt64)), (0, .ref x), (3, .int x3)]) C dL_digest_24 rfl (Nat.le_of_ble_eq_true rfl) rfl ?_
    refine y_iinc (v := (x3 + (1 : Int32))) (lv' := [(3, .int (x3 + (1 : Int32))), (1, .long (((31 : Int64) * x1) + (r4).toInt64)), (0, .ref x)]) C dL_digest_25 2 rfl rfl (Nat.le_of_ble_eq_true rfl) rfl ?_
    refine y_goto (tgt := 6) C dL_digest_28 rfl ?_
    refine y_sub (lv' := [(0, .ref x), (1, .long (((31 : Int64) * x1) + (r4).toInt64)), (3, .int (x3 + (1 : Int32)))]) [2, 1, 0] rfl ?_
    exact hX6 _ _ _ _ h
set_option maxHeartbeats 4000000 in
set_option maxRecDepth 100000 in
theorem w_L_digest_33 {Z : yZ} (g : yG) (x rs rl : Nat) (A : Nat → Nat) (d : RV) (G : Nat → Nat → Int32) (T : Nat → Nat) (P : Nat → Nat) (p : RV) (GP : Nat → Nat → Int32) (hst arr : Nat) (xs : List RV) (R : List ((Nat → Nat) × RV × (Nat → Nat → Int32))) (C : yC Z g cL_digest 5 wsL_digest RL) {post : Int64 → List va_W → Prop} (HR : yRl Z ({ frames := 6, cells := 0, slots := 0, locals := 136 } : Room) cL_digest post 0 0) {X6 : RV → Int64 → Int32 → Prop} {X33 : RV → Int64 → Int32 → Prop} {X45 : RV → Int64 → Int32 → Int32 → Prop} {X81 : RV → Int64 → Int32 → Prop} {X93 : RV → Int64 → Int32 → Int32 → Prop} {X129 : RV → Int64 → Int32 → Prop} (hX6 : ∀ (t : RV) (x1 : Int64) (x3 : Int32) (GT : Nat → Nat → Int32), X6 t x1 x3 → yJ Z ({ frames := 6, cells := 0, slots := 0, locals := 136 } : Room) 0 0 ([mnC x (A 0) (T 0) rs (P 0) hst rl, dayC A d, tabC T t, padC P p] ++ (dayR g A d G ++ (tabR g T t GT ++ (padR g P p GP ++ [histW g hst arr xs R]))) : List va_W) 6 [(0, .ref x), (1, .long x1), (3, .int x3)] []) (hX33 : ∀ (t : RV) (x1 : Int64) (x3 : Int32) (GT : Nat → Nat → Int32), X33 t x1 x3 → yJ Z ({ frames := 6, cells := 0, slots := 0, locals := 136 } : Room) 0 0 ([mnC x (A 0) (T 0) rs (P 0) hst rl, dayC A d, tabC T t, padC P p] ++ (dayR g A d G ++ (tabR g T t GT ++ (padR g P p GP ++ [histW g hst arr xs R]))) : List va_W) 33 [(0, .ref x), (1, .long x1), (3, .int x3)] []) (hX45 : ∀ (t : RV) (x1 : Int64) (x3 : Int32) (x4 : Int32) (GT : Nat → Nat → Int32), X45 t x1 x3 x4 → yJ Z ({ frames := 6, cells := 0, slots := 0, locals := 136 } : Room) 0 0 ([mnC x (A 0) (T 0) rs (P 0) hst rl, dayC A d, tabC T t, padC P p] ++ (dayR g A d G ++ (tabR g T t GT ++ (padR g P p GP ++ [histW g hst arr xs R]))) : List va_W) 45 [(0, .ref x), (1, .long x1), (3, .int x3), (4, .int x4)] []) (hX81 : ∀ (t : RV) (x1 : Int64) (x3 : Int32) (GT : Nat → Nat → Int32), X81 t x1 x3 → yJ Z ({ frames := 6, cells := 0, slots := 0, locals := 136 } : Room) 0 0 ([mnC x (A 0) (T 0) rs (P 0) hst rl, dayC A d, tabC T t, padC P p] ++ (dayR g A d G ++ (tabR g T t GT ++ (padR g P p GP ++ [histW g hst arr xs R]))) : List va_W) 81 [(0, .ref x), (1, .long x1), (3, .int x3)] []) (hX93 : ∀ (t : RV) (x1 : Int64) (x3 : Int32) (x4 : Int32) (GT : Nat → Nat → Int32), X93 t x1 x3 x4 → yJ Z ({ frames := 6, cells := 0, slots := 0, locals := 136 } : Room) 0 0 ([mnC x (A 0) (T 0) rs (P 0) hst rl, dayC A d, tabC T t, padC P p] ++ (dayR g A d G ++ (tabR g T t GT ++ (padR g P p GP ++ [histW g hst arr xs R]))) : List va_W) 93 [(0, .ref x), (1, .long x1), (3, .int x3), (4, .int x4)] []) (hX129 : ∀ (t : RV) (x1 : Int64) (x3 : Int32) (GT : Nat → Nat → Int32), X129 t x1 x3 → yJ Z ({ frames := 6, cells := 0, slots := 0, locals := 136 } : Room) 0 0 ([mnC x (A 0) (T 0) rs (P 0) hst rl, dayC A d, tabC T t, padC P p] ++ (dayR g A d G ++ (tabR g T t GT ++ (padR g P p GP ++ [histW g hst arr xs R]))) : List va_W) 129 [(0, .ref x), (1, .long x1), (3, .int x3)] []) {K : Int64 → RV → Prop} (hK : ∀ (r0 : Int64) (t : RV) (GT : Nat → Nat → Int32), K r0 t → post r0 ([mnC x (A 0) (T 0) rs (P 0) hst rl, dayC A d, tabC T t, padC P p] ++ (dayR g A d G ++ (tabR g T t GT ++ (padR g P p GP ++ [histW g hst arr xs R]))) : List va_W)) (t : RV) (x1 : Int64) (x3 : Int32) (GT : Nat → Nat → Int32) (h : wp_L_digest_33 d p xs X6 X33 X45 X81 X93 X129 K t x1 x3) : yJ Z ({ frames := 6, cells := 0, slots := 0, locals := 136 } : Room) 0 0 ([mnC x (A 0) (T 0) rs (P 0) hst rl, dayC A d, tabC T t, padC P p] ++ (dayR g A d G ++ (tabR g T t GT ++ (padR g P p GP ++ [histW g hst arr xs R]))) : List va_W) 33 [(0, .ref x), (1, .long x1), (3, .int x3)] [] := by
  unfold wp_L_digest_33 at h
  refine y_iload_n C dL_digest_33 2 rfl rfl ?_
  refine y_aload_n C dL_digest_34 0 rfl rfl ?_
  refine y_iconst (v := 1) C dL_digest_35 (by decide) ?_
  refine y_callV (As := [.int (1 : Int32)]) (rest := [.int x3]) C dL_digest_36 (k_X6_count g x rs rl A d G T t GT P p GP hst arr xs R (1 : Int32)) rfl rfl rfl rfl ⟨Nat.le_of_ble_eq_true rfl, Nat.le_of_ble_eq_true rfl⟩ gL_digest_X6_count (nA := 1) (by decide +kernel) rfl (sh_9001 g x (A 0) (T 0) rs (P 0) hst rl A d G T t GT P p GP hst arr xs R) (Nat.le_of_ble_eq_true rfl) ⟨Nat.le_of_ble_eq_true rfl, Nat.le_of_ble_eq_true rfl⟩ [0, 1, 2, 3, 4, 5, 6, 7, 8, 9, 10, 11, 12, 13, 14, 15, 16, 17, 18, 19, 20, 21, 22, 23] [] (nB := 24) rfl (by decide +kernel) (sh_9000 g x (A 0) (T 0) rs (P 0) hst rl A d G T t GT P p GP hst arr xs R) (fun r4 w9 hw => ?_)
  obtain ⟨er4, t1, G2, e3, rfl⟩ := hw
  have h := y_letP h er4
  have h := y_letP h e3
  refine ⟨([mnC x (A 0) (T 0) rs (P 0) hst rl, dayC A d, tabC T t1, padC P p] ++ (dayR g A d G ++ (tabR g T t1 G2 ++ (padR g P p GP ++ [histW g hst arr xs R]))) : List va_W), (sh_9002 g x (A 0) (T 0) rs (P 0) hst rl A d G T t GT P p GP hst arr xs R t1 G2), ?_⟩
  refine y_icmp_ge (tgt := 79) C dL_digest_39 rfl h (fun c39 h => ?_) (fun c39 h => ?_)
  · refine y_iconst (v := 0) C dL_digest_79 (by decide) ?_
    refine y_istore_n (lv' := [(3, .int (0 : Int32)), (0, .ref x), (1, .long x1)]) C dL_digest_80 rfl (Nat.le_of_ble_eq_true rfl) rfl ?_
    refine y_sub (lv' := [(0, .ref x), (1, .long x1), (3, .int (0 : Int32))]) [1, 2, 0] rfl ?_
    exact hX81 _ _ _ _ h
  · refine y_iconst (v := 0) C dL_digest_42 (by decide) ?_
    refine y_istore (lv' := [(4, .int (0 : Int32)), (0, .ref x), (1, .long x1), (3, .int x3)]) C dL_digest_43 (Nat.le_of_ble_eq_true rfl) rfl ?_
    refine y_sub (lv' := [(0, .ref x), (1, .long x1), (3, .int x3), (4, .int (0 : Int32))]) [1, 2, 3, 0] rfl ?_
    exact hX45 _ _ _ _ _ h
set_option maxHeartbeats 4000000 in
set_option maxRecDepth 100000 in
theorem w_L_digest_45 {Z : yZ} (g : yG) (x rs rl : Nat) (A : Nat → Nat) (d : RV) (G : Nat → Nat → Int32) (T : Nat → Nat) (P : Nat → Nat) (p : RV) (GP : Nat → Nat → Int32) (hst arr : Nat) (xs : List RV) (R : List ((Nat → Nat) × RV × (Nat → Nat → Int32))) (C : yC Z g cL_digest 5 wsL_digest RL) {post : Int64 → List va_W → Prop} (HR : yRl Z ({ frames := 6, cells := 0, slots := 0, locals := 136 } : Room) cL_digest post 0 0) {X6 : RV → Int64 → Int32 → Prop} {X33 : RV → Int64 → Int32 → Prop} {X45 : RV → Int64 → Int32 → Int32 → Prop} {X81 : RV → Int64 → Int32 → Prop} {X93 : RV → Int64 → Int32 → Int32 → Prop} {X129 : RV → Int64 → Int32 → Prop} (hX6 : ∀ (t : RV) (x1 : Int64) (x3 : Int32) (GT : Nat → Nat → Int32), X6 t x1 x3 → yJ Z ({ frames := 6, cells := 0, slots := 0, locals := 136 } : Room) 0 0 ([mnC x (A 0) (T 0) rs (P 0) hst rl, dayC A d, tabC T t, padC P p] ++ (dayR g A d G ++ (tabR g T t GT ++ (padR g P p GP ++ [histW g hst arr xs R]))) : List va_W) 6 [(0, .ref x), (1, .long x1), (3, .int x3)] []) (hX33 : ∀ (t : RV) (x1 : Int64) (x3 : Int32) (GT : Nat → Nat → Int32), X33 t x1 x3 → yJ Z ({ frames := 6, cells := 0, slots := 0, locals := 136 } : Room) 0 0 ([mnC x (A 0) (T 0) rs (P 0) hst rl, dayC A d, tabC T t, padC P p] ++ (dayR g A d G ++ (tabR g T t GT ++ (padR g P p GP ++ [histW g hst arr xs R]))) : List va_W) 33 [(0, .ref x), (1, .long x1), (3, .int x3)] []) (hX45 : ∀ (t : RV) (x1 : Int64) (x3 : Int32) (x4 : Int32) (GT : Nat → Nat → Int32), X45 t x1 x3 x4 → yJ Z ({ frames := 6, cells := 0, slots := 0, locals := 136 } : Room) 0 0 ([mnC x (A 0) (T 0) rs (P 0) hst rl, dayC A d, tabC T t, padC P p] ++ (dayR g A d G ++ (tabR g T t GT ++ (padR g P p GP ++ [histW g hst arr xs R]))) : List va_W) 45 [(0, .ref x), (1, .long x1), (3, .int x3), (4, .int x4)] []) (hX81 : ∀ (t : RV) (x1 : Int64) (x3 : Int32) (GT : Nat → Nat → Int32), X81 t x1 x3 → yJ Z ({ frames := 6, cells := 0, slots := 0, locals := 136 } : Room) 0 0 ([mnC x (A 0) (T 0) rs (P 0) hst rl, dayC A d, tabC T t, padC P p] ++ (dayR g A d G ++ (tabR g T t GT ++ (padR g P p GP ++ [histW g hst arr xs R]))) : List va_W) 81 [(0, .ref x), (1, .long x1), (3, .int x3)] []) (hX93 : ∀ (t : RV) (x1 : Int64) (x3 : Int32) (x4 : Int32) (GT : Nat → Nat → Int32), X93 t x1 x3 x4 → yJ Z ({ frames := 6, cells := 0, slots := 0, locals := 136 } : Room) 0 0 ([mnC x (A 0) (T 0) rs (P 0) hst rl, dayC A d, tabC T t, padC P p] ++ (dayR g A d G ++ (tabR g T t GT ++ (padR g P p GP ++ [histW g hst arr xs R]))) : List va_W) 93 [(0, .ref x), (1, .long x1), (3, .int x3), (4, .int x4)] []) (hX129 : ∀ (t : RV) (x1 : Int64) (x3 : Int32) (GT : Nat → Nat → Int32), X129 t x1 x3 → yJ Z ({ frames := 6, cells := 0, slots := 0, locals := 136 } : Room) 0 0 ([mnC x (A 0) (T 0) rs (P 0) hst rl, dayC A d, tabC T t, padC P p] ++ (dayR g A d G ++ (tabR g T t GT ++ (padR g P p GP ++ [histW g hst arr xs R]))) : List va_W) 129 [(0, .ref x), (1, .long x1), (3, .int x3)] []) {K : Int64 → RV → Prop} (hK : ∀ (r0 : Int64) (t : RV) (GT : Nat → Nat → Int32), K r0 t → post r0 ([mnC x (A 0) (T 0) rs (P 0) hst rl, dayC A d, tabC T t, padC P p] ++ (dayR g A d G ++ (tabR g T t GT ++ (padR g P p GP ++ [histW g hst arr xs R]))) : List va_W)) (t : RV) (x1 : Int64) (x3 : Int32) (x4 : Int32) (GT : Nat → Nat → Int32) (h : wp_L_digest_45 d p xs X6 X33 X45 X81 X93 X129 K t x1 x3 x4) : yJ Z ({ frames := 6, cells := 0, slots := 0, locals := 136 } : Room) 0 0 ([mnC x (A 0) (T 0) rs (P 0) hst rl, dayC A d, tabC T t, padC P p] ++ (dayR g A d G ++ (tabR g T t GT ++ (padR g P p GP ++ [histW g hst arr xs R]))) : List va_W) 45 [(0, .ref x), (1, .long x1), (3, .int x3), (4, .int x4)] [] := by
  unfold wp_L_digest_45 at h
  refine y_iload C dL_digest_45 3 rfl ?_
  refine y_bipush (v := 8) C dL_digest_47 (by decide) ?_
  refine y_icmp_ge (tgt := 73) C dL_digest_49 rfl h (fun c49 h => ?_) (fun c49 h => ?_)
  · refine y_iinc (v := (x3 + (1 : Int32))) (lv' := [(3, .int (x3 + (1 : Int32))), (0, .ref x), (1, .long x1), (4, .int x4)]) C dL_digest_73 2 rfl rfl (Nat.le_of_ble_eq_true rfl) rfl ?_
    refine y_goto (tgt := 33) C dL_digest_76 rfl ?_
    refine y_sub (lv' := [(0, .ref x), (1, .long x1), (3, .int (x3 + (1 : Int32)))]) [1, 2, 0] rfl ?_
    exact hX33 _ _ _ _ h
  · refine y_ldc2 (v := 31) C dL_digest_52 kL_digest_2 ?_
    refine y_lload_n C dL_digest_55 1 rfl rfl ?_
    refine y_lmul C dL_digest_56 ?_
    refine y_aload_n C dL_digest_57 0 rfl rfl ?_
    refine y_iload_n C dL_digest_58 2 rfl rfl ?_
    refine y_iload C dL_digest_59 3 rfl ?_
    refine y_callV (As := [.int x3, .int x4]) (rest := [.long ((31 : Int64) * x1)]) C dL_digest_61 (c_X6_ride g x rs (P 0) hst rl A d G T t GT x3 x4) rfl rfl rfl rfl ⟨Nat.le_of_ble_eq_true rfl, Nat.le_of_ble_eq_true rfl⟩ gL_digest_X6_ride (nA := 2) (by decide +kernel) rfl (sh_9004 g x (A 0) (T 0) rs (P 0) hst rl A d G T t GT) (Nat.le_of_ble_eq_true rfl) ⟨Nat.le_of_ble_eq_true rfl, Nat.le_of_ble_eq_true rfl⟩ [0, 1, 2, 4, 5, 6, 7, 8, 9, 10, 11, 12, 13, 14, 15, 16, 17, 18, 19, 20] [3, 21, 22, 23] (nB := 24) rfl (by decide +kernel) (sh_9003 g x (A 0) (T 0) rs (P 0) hst rl A d G T t GT P p GP hst arr xs R) (fun r4 w9 hw => ?_)
    obtain ⟨er4, t1, G2, e3, rfl⟩ := hw
    have h := y_letP h er4
    have h := y_letP h e3
    refine ⟨([mnC x (A 0) (T 0) rs (P 0) hst rl, dayC A d, tabC T t1, padC P p] ++ (dayR g A d G ++ (tabR g T t1 G2 ++ (padR g P p GP ++ [histW g hst arr xs R]))) : List va_W), (sh_9005 g x (A 0) (T 0) rs (P 0) hst rl A d G T t GT P p GP hst arr xs R t1 G2), ?_⟩
    refine y_i2l C dL_digest_64 rfl ?_
    refine y_ladd C dL_digest_65 ?_
    refine y_lstore_n (lv' := [(1, .long (((31 : Int64) * x1) + (r4).toInt64)), (0, .ref x), (3, .int x3), (4, .int x4)]) C dL_digest_66 rfl (Nat.le_of_ble_eq_true rfl) rfl ?_
    refine y_iinc (v := (x4 + (1 : Int32))) (lv' := [(4, .int (x4 + (1 : Int32))), (1, .long (((31 : Int64) * x1) + (r4).toInt64)), (0, .ref x), (3, .int x3)]) C dL_digest_67 3 rfl rfl (Nat.le_of_ble_eq_true rfl) rfl ?_
    refine y_goto (tgt := 45) C dL_digest_70 rfl ?_
    refine y_sub (lv' := [(0, .ref x), (1, .long (((31 : Int64) * x1) + (r4).toInt64)), (3, .int x3), (4, .int (x4 + (1 : Int32)))]) [2, 1, 3, 0] rfl ?_
    exact hX45 _ _ _ _ _ h
set_option maxHeartbeats 4000000 in
set_option maxRecDepth 100000 in
theorem w_L_digest_81 {Z : yZ} (g : yG) (x rs rl : Nat) (A : Nat → Nat) (d : RV) (G : Nat → Nat → Int32) (T : Nat → Nat) (P : Nat → Nat) (p : RV) (GP : Nat → Nat → Int32) (hst arr : Nat) (xs : List RV) (R : List ((Nat → Nat) × RV × (Nat → Nat → Int32))) (C : yC Z g cL_digest 5 wsL_digest RL) {post : Int64 → List va_W → Prop} (HR : yRl Z ({ frames := 6, cells := 0, slots := 0, locals := 136 } : Room) cL_digest post 0 0) {X6 : RV → Int64 → Int32 → Prop} {X33 : RV → Int64 → Int32 → Prop} {X45 : RV → Int64 → Int32 → Int32 → Prop} {X81 : RV → Int64 → Int32 → Prop} {X93 : RV → Int64 → Int32 → Int32 → Prop} {X129 : RV → Int64 → Int32 → Prop} (hX6 : ∀ (t : RV) (x1 : Int64) (x3 : Int32) (GT : Nat → Nat → Int32), X6 t x1 x3 → yJ Z ({ frames := 6, cells := 0, slots := 0, locals := 136 } : Room) 0 0 ([mnC x (A 0) (T 0) rs (P 0) hst rl, dayC A d, tabC T t, padC P p] ++ (dayR g A d G ++ (tabR g T t GT ++ (padR g P p GP ++ [histW g hst arr xs R]))) : List va_W) 6 [(0, .ref x), (1, .long x1), (3, .int x3)] []) (hX33 : ∀ (t : RV) (x1 : Int64) (x3 : Int32) (GT : Nat → Nat → Int32), X33 t x1 x3 → yJ Z ({ frames := 6, cells := 0, slots := 0, locals := 136 } : Room) 0 0 ([mnC x (A 0) (T 0) rs (P 0) hst rl, dayC A d, tabC T t, padC P p] ++ (dayR g A d G ++ (tabR g T t GT ++ (padR g P p GP ++ [histW g hst arr xs R]))) : List va_W) 33 [(0, .ref x), (1, .long x1), (3, .int x3)] []) (hX45 : ∀ (t : RV) (x1 : Int64) (x3 : Int32) (x4 : Int32) (GT : Nat → Nat → Int32), X45 t x1 x3 x4 → yJ Z ({ frames := 6, cells := 0, slots := 0, locals := 136 } : Room) 0 0 ([mnC x (A 0) (T 0) rs (P 0) hst rl, dayC A d, tabC T t, padC P p] ++ (dayR g A d G ++ (tabR g T t GT ++ (padR g P p GP ++ [histW g hst arr xs R]))) : List va_W) 45 [(0, .ref x), (1, .long x1), (3, .int x3), (4, .int x4)] []) (hX81 : ∀ (t : RV) (x1 : Int64) (x3 : Int32) (GT : Nat → Nat → Int32), X81 t x1 x3 → yJ Z ({ frames := 6, cells := 0, slots := 0, locals := 136 } : Room) 0 0 ([mnC x (A 0) (T 0) rs (P 0) hst rl, dayC A d, tabC T t, padC P p] ++ (dayR g A d G ++ (tabR g T t GT ++ (padR g P p GP ++ [histW g hst arr xs R]))) : List va_W) 81 [(0, .ref x), (1, .long x1), (3, .int x3)] []) (hX93 : ∀ (t : RV) (x1 : Int64) (x3 : Int32) (x4 : Int32) (GT : Nat → Nat → Int32), X93 t x1 x3 x4 → yJ Z ({ frames := 6, cells := 0, slots := 0, locals := 136 } : Room) 0 0 ([mnC x (A 0) (T 0) rs (P 0) hst rl, dayC A d, tabC T t, padC P p] ++ (dayR g A d G ++ (tabR g T t GT ++ (padR g P p GP ++ [histW g hst arr xs R]))) : List va_W) 93 [(0, .ref x), (1, .long x1), (3, .int x3), (4, .int x4)] []) (hX129 : ∀ (t : RV) (x1 : Int64) (x3 : Int32) (GT : Nat → Nat → Int32), X129 t x1 x3 → yJ Z ({ frames := 6, cells := 0, slots := 0, locals := 136 } : Room) 0 0 ([mnC x (A 0) (T 0) rs (P 0) hst rl, dayC A d, tabC T t, padC P p] ++ (dayR g A d G ++ (tabR g T t GT ++ (padR g P p GP ++ [histW g hst arr xs R]))) : List va_W) 129 [(0, .ref x), (1, .long x1), (3, .int x3)] []) {K : Int64 → RV → Prop} (hK : ∀ (r0 : Int64) (t : RV) (GT : Nat → Nat → Int32), K r0 t → post r0 ([mnC x (A 0) (T 0) rs (P 0) hst rl, dayC A d, tabC T t, padC P p] ++ (dayR g A d G ++ (tabR g T t GT ++ (padR g P p GP ++ [histW g hst arr xs R]))) : List va_W)) (t : RV) (x1 : Int64) (x3 : Int32) (GT : Nat → Nat → Int32) (h : wp_L_digest_81 d p xs X6 X33 X45 X81 X93 X129 K t x1 x3) : yJ Z ({ frames := 6, cells := 0, slots := 0, locals := 136 } : Room) 0 0 ([mnC x (A 0) (T 0) rs (P 0) hst rl, dayC A d, tabC T t, padC P p] ++ (dayR g A d G ++ (tabR g T t GT ++ (padR g P p GP ++ [histW g hst arr xs R]))) : List va_W) 81 [(0, .ref x), (1, .long x1), (3, .int x3)] [] := by
  unfold wp_L_digest_81 at h
  refine y_iload_n C dL_digest_81 2 rfl rfl ?_
  refine y_aload_n C dL_digest_82 0 rfl rfl ?_
  refine y_iconst (v := 2) C dL_digest_83 (by decide) ?_
  refine y_callV (As := [.int (2 : Int32)]) (rest := [.int x3]) C dL_digest_84 (k_X6_count g x rs rl A d G T t GT P p GP hst arr xs R (2 : Int32)) rfl rfl rfl rfl ⟨Nat.le_of_ble_eq_true rfl, Nat.le_of_ble_eq_true rfl⟩ gL_digest_X6_count (nA := 1) (by decide +kernel) rfl (sh_9001 g x (A 0) (T 0) rs (P 0) hst rl A d G T t GT P p GP hst arr xs R) (Nat.le_of_ble_eq_true rfl) ⟨Nat.le_of_ble_eq_true rfl, Nat.le_of_ble_eq_true rfl⟩ [0, 1, 2, 3, 4, 5, 6, 7, 8, 9, 10, 11, 12, 13, 14, 15, 16, 17, 18, 19, 20, 21, 22, 23] [] (nB := 24) rfl (by decide +kernel) (sh_9000 g x (A 0) (T 0) rs (P 0) hst rl A d G T t GT P p GP hst arr xs R) (fun r4 w9 hw => ?_)
  obtain ⟨er4, t1, G2, e3, rfl⟩ := hw
  have h := y_letP h er4
  have h := y_letP h e3
  refine ⟨([mnC x (A 0) (T 0) rs (P 0) hst rl, dayC A d, tabC T t1, padC P p] ++ (dayR g A d G ++ (tabR g T t1 G2 ++ (padR g P p GP ++ [histW g hst arr xs R]))) : List va_W), (sh_9002 g x (A 0) (T 0) rs (P 0) hst rl A d G T t GT P p GP hst arr xs R t1 G2), ?_⟩
  refine y_icmp_ge (tgt := 127) C dL_digest_87 rfl h (fun c87 h => ?_) (fun c87 h => ?_)
  · refine y_iconst (v := 0) C dL_digest_127 (by decide) ?_
    refine y_istore_n (lv' := [(3, .int (0 : Int32)), (0, .ref x), (1, .long x1)]) C dL_digest_128 rfl (Nat.le_of_ble_eq_true rfl) rfl ?_
    refine y_sub (lv' := [(0, .ref x), (1, .long x1), (3, .int (0 : Int32))]) [1, 2, 0] rfl ?_
    exact hX129 _ _ _ _ h
  · refine y_iconst (v := 0) C dL_digest_90 (by decide) ?_
    refine y_istore (lv' := [(4, .int (0 : Int32)), (0, .ref x), (1, .long x1), (3, .int x3)]) C dL_digest_91 (Nat.le_of_ble_eq_true rfl) rfl ?_
    refine y_sub (lv' := [(0, .ref x), (1, .long x1), (3, .int x3), (4, .int (0 : Int32))]) [1, 2, 3, 0] rfl ?_
    exact hX93 _ _ _ _ _ h
set_option maxHeartbeats 4000000 in
set_option maxRecDepth 100000 in
theorem w_L_digest_93 {Z : yZ} (g : yG) (x rs rl : Nat) (A : Nat → Nat) (d : RV) (G : Nat → Nat → Int32) (T : Nat → Nat) (P : Nat → Nat) (p : RV) (GP : Nat → Nat → Int32) (hst arr : Nat) (xs : List RV) (R : List ((Nat → Nat) × RV × (Nat → Nat → Int32))) (C : yC Z g cL_digest 5 wsL_digest RL) {post : Int64 → List va_W → Prop} (HR : yRl Z ({ frames := 6, cells := 0, slots := 0, locals := 136 } : Room) cL_digest post 0 0) {X6 : RV → Int64 → Int32 → Prop} {X33 : RV → Int64 → Int32 → Prop} {X45 : RV → Int64 → Int32 → Int32 → Prop} {X81 : RV → Int64 → Int32 → Prop} {X93 : RV → Int64 → Int32 → Int32 → Prop} {X129 : RV → Int64 → Int32 → Prop} (hX6 : ∀ (t : RV) (x1 : Int64) (x3 : Int32) (GT : Nat → Nat → Int32), X6 t x1 x3 → yJ Z ({ frames := 6, cells := 0, slots := 0, locals := 136 } : Room) 0 0 ([mnC x (A 0) (T 0) rs (P 0) hst rl, dayC A d, tabC T t, padC P p] ++ (dayR g A d G ++ (tabR g T t GT ++ (padR g P p GP ++ [histW g hst arr xs R]))) : List va_W) 6 [(0, .ref x), (1, .long x1), (3, .int x3)] []) (hX33 : ∀ (t : RV) (x1 : Int64) (x3 : Int32) (GT : Nat → Nat → Int32), X33 t x1 x3 → yJ Z ({ frames := 6, cells := 0, slots := 0, locals := 136 } : Room) 0 0 ([mnC x (A 0) (T 0) rs (P 0) hst rl, dayC A d, tabC T t, padC P p] ++ (dayR g A d G ++ (tabR g T t GT ++ (padR g P p GP ++ [histW g hst arr xs R]))) : List va_W) 33 [(0, .ref x), (1, .long x1), (3, .int x3)] []) (hX45 : ∀ (t : RV) (x1 : Int64) (x3 : Int32) (x4 : Int32) (GT : Nat → Nat → Int32), X45 t x1 x3 x4 → yJ Z ({ frames := 6, cells := 0, slots := 0, locals := 136 } : Room) 0 0 ([mnC x (A 0) (T 0) rs (P 0) hst rl, dayC A d, tabC T t, padC P p] ++ (dayR g A d G ++ (tabR g T t GT ++ (padR g P p GP ++ [histW g hst arr xs R]))) : List va_W) 45 [(0, .ref x), (1, .long x1), (3, .int x3), (4, .int x4)] []) (hX81 : ∀ (t : RV) (x1 : Int64) (x3 : Int32) (GT : Nat → Nat → Int32), X81 t x1 x3 → yJ Z ({ frames := 6, cells := 0, slots := 0, locals := 136 } : Room) 0 0 ([mnC x (A 0) (T 0) rs (P 0) hst rl, dayC A d, tabC T t, padC P p] ++ (dayR g A d G ++ (tabR g T t GT ++ (padR g P p GP ++ [histW g hst arr xs R]))) : List va_W) 81 [(0, .ref x), (1, .long x1), (3, .int x3)] []) (hX93 : ∀ (t : RV) (x1 : Int64) (x3 : Int32) (x4 : Int32) (GT : Nat → Nat → Int32), X93 t x1 x3 x4 → yJ Z ({ frames := 6, cells := 0, slots := 0, locals := 136 } : Room) 0 0 ([mnC x (A 0) (T 0) rs (P 0) hst rl, dayC A d, tabC T t, padC P p] ++ (dayR g A d G ++ (tabR g T t GT ++ (padR g P p GP ++ [histW g hst arr xs R]))) : List va_W) 93 [(0, .ref x), (1, .long x1), (3, .int x3), (4, .int x4)] []) (hX129 : ∀ (t : RV) (x1 : Int64) (x3 : Int32) (GT : Nat → Nat → Int32), X129 t x1 x3 → yJ Z ({ frames := 6, cells := 0, slots := 0, locals := 136 } : Room) 0 0 ([mnC x (A 0) (T 0) rs (P 0) hst rl, dayC A d, tabC T t, padC P p] ++ (dayR g A d G ++ (tabR g T t GT ++ (padR g P p GP ++ [histW g hst arr xs R]))) : List va_W) 129 [(0, .ref x), (1, .long x1), (3, .int x3)] []) {K : Int64 → RV → Prop} (hK : ∀ (r0 : Int64) (t : RV) (GT : Nat → Nat → Int32), K r0 t → post r0 ([mnC x (A 0) (T 0) rs (P 0) hst rl, dayC A d, tabC T t, padC P p] ++ (dayR g A d G ++ (tabR g T t GT ++ (padR g P p GP ++ [histW g hst arr xs R]))) : List va_W)) (t : RV) (x1 : Int64) (x3 : Int32) (x4 : Int32) (GT : Nat → Nat → Int32) (h : wp_L_digest_93 d p xs X6 X33 X45 X81 X93 X129 K t x1 x3 x4) : yJ Z ({ frames := 6, cells := 0, slots := 0, locals := 136 } : Room) 0 0 ([mnC x (A 0) (T 0) rs (P 0) hst rl, dayC A d, tabC T t, padC P p] ++ (dayR g A d G ++ (tabR g T t GT ++ (padR g P p GP ++ [histW g hst arr xs R]))) : List va_W) 93 [(0, .ref x), (1, .long x1), (3, .int x3), (4, .int x4)] [] := by
  unfold wp_L_digest_93 at h
  refine y_iload C dL_digest_93 3 rfl ?_
  refine y_bipush (v := 6) C dL_digest_95 (by decide) ?_
  refine y_icmp_ge (tgt := 121) C dL_digest_97 rfl h (fun c97 h => ?_) (fun c97 h => ?_)
  · refine y_iinc (v := (x3 + (1 : Int32))) (lv' := [(3, .int (x3 + (1 : Int32))), (0, .ref x), (1, .long x1), (4, .int x4)]) C dL_digest_121 2 rfl rfl (Nat.le_of_ble_eq_true rfl) rfl ?_
    refine y_goto (tgt := 81) C dL_digest_124 rfl ?_
    refine y_sub (lv' := [(0, .ref x), (1, .long x1), (3, .int (x3 + (1 : Int32)))]) [1, 2, 0] rfl ?_
    exact hX81 _ _ _ _ h
  · refine y_ldc2 (v := 31) C dL_digest_100 kL_digest_2 ?_
    refine y_lload_n C dL_digest_103 1 rfl rfl ?_
    refine y_lmul C dL_digest_104 ?_
    refine y_aload_n C dL_digest_105 0 rfl rfl ?_
    refine y_iload_n C dL_digest_106 2 rfl rfl ?_
    refine y_iload C dL_digest_107 3 rfl ?_
    refine y_callV (As := [.int x3, .int x4]) (rest := [.long ((31 : Int64) * x1)]) C dL_digest_109 (c_X6_visit g x rs (P 0) hst rl A d G T t GT x3 x4) rfl rfl rfl rfl ⟨Nat.le_of_ble_eq_true rfl, Nat.le_of_ble_eq_true rfl⟩ gL_digest_X6_visit (nA := 2) (by decide +kernel) rfl (sh_9004 g x (A 0) (T 0) rs (P 0) hst rl A d G T t GT) (Nat.le_of_ble_eq_true rfl) ⟨Nat.le_of_ble_eq_true rfl, Nat.le_of_ble_eq_true rfl⟩ [0, 1, 2, 4, 5, 6, 7, 8, 9, 10, 11, 12, 13, 14, 15, 16, 17, 18, 19, 20] [3, 21, 22, 23] (nB := 24) rfl (by decide +kernel) (sh_9003 g x (A 0) (T 0) rs (P 0) hst rl A d G T t GT P p GP hst arr xs R) (fun r4 w9 hw => ?_)
    obtain ⟨er4, t1, G2, e3, rfl⟩ := hw
    have h := y_letP h er4
    have h := y_letP h e3
    refine ⟨([mnC x (A 0) (T 0) rs (P 0) hst rl, dayC A d, tabC T t1, padC P p] ++ (dayR g A d G ++ (tabR g T t1 G2 ++ (padR g P p GP ++ [histW g hst arr xs R]))) : List va_W), (sh_9005 g x (A 0) (T 0) rs (P 0) hst rl A d G T t GT P p GP hst arr xs R t1 G2), ?_⟩
    refine y_i2l C dL_digest_112 rfl ?_
    refine y_ladd C dL_digest_113 ?_
    refine y_lstore_n (lv' := [(1, .long (((31 : Int64) * x1) + (r4).toInt64)), (0, .ref x), (3, .int x3), (4, .int x4)]) C dL_digest_114 rfl (Nat.le_of_ble_eq_true rfl) rfl ?_
    refine y_iinc (v := (x4 + (1 : Int32))) (lv' := [(4, .int (x4 + (1 : Int32))), (1, .long (((31 : Int64) * x1) + (r4).toInt64)), (0, .ref x), (3, .int x3)]) C dL_digest_115 3 rfl rfl (Nat.le_of_ble_eq_true rfl) rfl ?_
    refine y_goto (tgt := 93) C dL_digest_118 rfl ?_
    refine y_sub (lv' := [(0, .ref x), (1, .long (((31 : Int64) * x1) + (r4).toInt64)), (3, .int x3), (4, .int (x4 + (1 : Int32)))]) [2, 1, 3, 0] rfl ?_
    exact hX93 _ _ _ _ _ h
