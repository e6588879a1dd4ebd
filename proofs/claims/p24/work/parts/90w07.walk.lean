set_option maxHeartbeats 4000000 in
set_option maxRecDepth 100000 in
theorem t_L_holds (g : yG) (x rs rl : Nat) (A : Nat → Nat) (d : RV) (G : Nat → Nat → Int32) (T : Nat → Nat) (t : RV) (GT : Nat → Nat → Int32) (P : Nat → Nat) (p : RV) (GP : Nat → Nat → Int32) (hst arr : Nat) (xs : List RV) (R : List ((Nat → Nat) × RV × (Nat → Nat → Int32)))  {post : Int32 → List va_W → Prop} {K : Int32 → RV → Prop} (hK : ∀ (r0 : Int32) (t : RV) (GT : Nat → Nat → Int32), K r0 t → post r0 ([mnC x (A 0) (T 0) rs (P 0) hst rl, dayC A d, tabC T t, padC P p] ++ (dayR g A d G ++ (tabR g T t GT ++ (padR g P p GP ++ [histW g hst arr xs R]))) : List va_W)) (hPO : PO_L_holds d p xs K t ) : yM g yL_holds wsL_holds ({ frames := 6, cells := 0, slots := 0, locals := 136 } : Room) [.ref x] ([mnC x (A 0) (T 0) rs (P 0) hst rl, dayC A d, tabC T t, padC P p] ++ (dayR g A d G ++ (tabR g T t GT ++ (padR g P p GP ++ [histW g hst arr xs R]))) : List va_W) post 0 0 := by
  refine y_entryI (cc := cL_holds) (maxL := 12) (by decide +kernel) rfl (Nat.le_of_ble_eq_true rfl) (fun Z C HR => ?_)
  have C : yC Z g cL_holds 12 wsL_holds RL := C
  obtain ⟨I26, I237, o26, o237, h⟩ := hPO
  have hX26 : ∀ (t : RV) (x1 : Int32) (x2 : Int32) (x3 : Int32) (x4 : Int32) (x5 : Int32) (x6 : Int32) (x7 : Int32) (GT : Nat → Nat → Int32), (fun (t9 : RV) (x19 : Int32) (x29 : Int32) (x39 : Int32) (x49 : Int32) (x59 : Int32) (x69 : Int32) (x79 : Int32) => ∃ w9, I26 w9 t9 x19 x29 x39 x49 x59 x69 x79) t x1 x2 x3 x4 x5 x6 x7 → yJ Z ({ frames := 6, cells := 0, slots := 0, locals := 136 } : Room) 0 0 ([mnC x (A 0) (T 0) rs (P 0) hst rl, dayC A d, tabC T t, padC P p] ++ (dayR g A d G ++ (tabR g T t GT ++ (padR g P p GP ++ [histW g hst arr xs R]))) : List va_W) 26 [(0, .ref x), (1, .int x1), (2, .int x2), (3, .int x3), (4, .int x4), (5, .int x5), (6, .int x6), (7, .int x7)] [] := by
    intro t x1 x2 x3 x4 x5 x6 x7 GT hq
    obtain ⟨w9, hi⟩ := hq
    exact (l_L_holds g x rs rl A d G T P p GP hst arr xs R C HR hK o26 o237 w9).1 t x1 x2 x3 x4 x5 x6 x7 GT hi
  have hX237 : ∀ (t : RV) (x1 : Int32) (x2 : Int32) (x3 : Int32) (x4 : Int32) (x5 : Int32) (x6 : Int32) (x7 : Int32) (GT : Nat → Nat → Int32), (fun (t9 : RV) (x19 : Int32) (x29 : Int32) (x39 : Int32) (x49 : Int32) (x59 : Int32) (x69 : Int32) (x79 : Int32) => ∃ w9, I237 w9 t9 x19 x29 x39 x49 x59 x69 x79) t x1 x2 x3 x4 x5 x6 x7 → yJ Z ({ frames := 6, cells := 0, slots := 0, locals := 136 } : Room) 0 0 ([mnC x (A 0) (T 0) rs (P 0) hst rl, dayC A d, tabC T t, padC P p] ++ (dayR g A d G ++ (tabR g T t GT ++ (padR g P p GP ++ [histW g hst arr xs R]))) : List va_W) 237 [(0, .ref x), (1, .int x1), (2, .int x2), (3, .int x3), (4, .int x4), (5, .int x5), (6, .int x6), (7, .int x7)] [] := by
    intro t x1 x2 x3 x4 x5 x6 x7 GT hq
    obtain ⟨w9, hi⟩ := hq
    exact (l_L_holds g x rs rl A d G T P p GP hst arr xs R C HR hK o26 o237 w9).2 t x1 x2 x3 x4 x5 x6 x7 GT hi
  unfold wp_L_holds_0 at h
  show yJ Z _ 0 0 _ 0 [(0, .ref x)] []
  refine y_iconst (v := 0) C dL_holds_0 (by decide) ?_
  refine y_istore_n (lv' := [(1, .int (0 : Int32)), (0, .ref x)]) C dL_holds_1 rfl (Nat.le_of_ble_eq_true rfl) rfl ?_
  refine y_aload_n C dL_holds_2 1 rfl rfl ?_
  refine y_iconst (v := 5) C dL_holds_3 (by decide) ?_
  refine y_callV (As := [.int (5 : Int32)]) (rest := []) C dL_holds_4 (k_X6_count g x rs rl A d G T t GT P p GP hst arr xs R (5 : Int32)) rfl rfl rfl rfl ⟨Nat.le_of_ble_eq_true rfl, Nat.le_of_ble_eq_true rfl⟩ gL_holds_X6_count (nA := 1) (by decide +kernel) rfl (sh_9001 g x (A 0) (T 0) rs (P 0) hst rl A d G T t GT P p GP hst arr xs R) (Nat.le_of_ble_eq_true rfl) ⟨Nat.le_of_ble_eq_true rfl, Nat.le_of_ble_eq_true rfl⟩ [0, 1, 2, 3, 4, 5, 6, 7, 8, 9, 10, 11, 12, 13, 14, 15, 16, 17, 18, 19, 20, 21, 22, 23] [] (nB := 24) rfl (by decide +kernel) (sh_9000 g x (A 0) (T 0) rs (P 0) hst rl A d G T t GT P p GP hst arr xs R) (fun r4 w9 hw => ?_)
  obtain ⟨er4, t1, G2, e3, rfl⟩ := hw
  have h := y_letP h er4
  have h := y_letP h e3
  refine ⟨([mnC x (A 0) (T 0) rs (P 0) hst rl, dayC A d, tabC T t1, padC P p] ++ (dayR g A d G ++ (tabR g T t1 G2 ++ (padR g P p GP ++ [histW g hst arr xs R]))) : List va_W), (sh_9002 g x (A 0) (T 0) rs (P 0) hst rl A d G T t GT P p GP hst arr xs R t1 G2), ?_⟩
  refine y_istore_n (lv' := [(2, .int r4), (1, .int (0 : Int32)), (0, .ref x)]) C dL_holds_7 rfl (Nat.le_of_ble_eq_true rfl) rfl ?_
  refine y_aload_n C dL_holds_8 2 rfl rfl ?_
  refine y_iconst (v := 2) C dL_holds_9 (by decide) ?_
  refine y_callV (As := [.int (2 : Int32)]) (rest := []) C dL_holds_10 (k_X6_count g x rs rl A d G T t1 G2 P p GP hst arr xs R (2 : Int32)) rfl rfl rfl rfl ⟨Nat.le_of_ble_eq_true rfl, Nat.le_of_ble_eq_true rfl⟩ gL_holds_X6_count (nA := 1) (by decide +kernel) rfl (sh_9001 g x (A 0) (T 0) rs (P 0) hst rl A d G T t1 G2 P p GP hst arr xs R) (Nat.le_of_ble_eq_true rfl) ⟨Nat.le_of_ble_eq_true rfl, Nat.le_of_ble_eq_true rfl⟩ [0, 1, 2, 3, 4, 5, 6, 7, 8, 9, 10, 11, 12, 13, 14, 15, 16, 17, 18, 19, 20, 21, 22, 23] [] (nB := 24) rfl (by decide +kernel) (sh_9000 g x (A 0) (T 0) rs (P 0) hst rl A d G T t1 G2 P p GP hst arr xs R) (fun r8 w9 hw => ?_)
  obtain ⟨er8, t5, G6, e7, rfl⟩ := hw
  have h := y_letP h er8
  have h := y_letP h e7
  refine ⟨([mnC x (A 0) (T 0) rs (P 0) hst rl, dayC A d, tabC T t5, padC P p] ++ (dayR g A d G ++ (tabR g T t5 G6 ++ (padR g P p GP ++ [histW g hst arr xs R]))) : List va_W), (sh_9002 g x (A 0) (T 0) rs (P 0) hst rl A d G T t1 G2 P p GP hst arr xs R t5 G6), ?_⟩
  refine y_istore_n (lv' := [(3, .int r8), (2, .int r4), (1, .int (0 : Int32)), (0, .ref x)]) C dL_holds_13 rfl (Nat.le_of_ble_eq_true rfl) rfl ?_
  refine y_iconst (v := 0) C dL_holds_14 (by decide) ?_
  refine y_istore (lv' := [(4, .int (0 : Int32)), (3, .int r8), (2, .int r4), (1, .int (0 : Int32)), (0, .ref x)]) C dL_holds_15 (Nat.le_of_ble_eq_true rfl) rfl ?_
  refine y_iconst (v := 0) C dL_holds_17 (by decide) ?_
  refine y_istore (lv' := [(5, .int (0 : Int32)), (4, .int (0 : Int32)), (3, .int r8), (2, .int r4), (1, .int (0 : Int32)), (0, .ref x)]) C dL_holds_18 (Nat.le_of_ble_eq_true rfl) rfl ?_
  refine y_iconst (v := 0) C dL_holds_20 (by decide) ?_
  refine y_istore (lv' := [(6, .int (0 : Int32)), (5, .int (0 : Int32)), (4, .int (0 : Int32)), (3, .int r8), (2, .int r4), (1, .int (0 : Int32)), (0, .ref x)]) C dL_holds_21 (Nat.le_of_ble_eq_true rfl) rfl ?_
  refine y_iconst (v := 0) C dL_holds_23 (by decide) ?_
  refine y_istore (lv' := [(7, .int (0 : Int32)), (6, .int (0 : Int32)), (5, .int (0 : Int32)), (4, .int (0 : Int32)), (3, .int r8), (2, .int r4), (1, .int (0 : Int32)), (0, .ref x)]) C dL_holds_24 (Nat.le_of_ble_eq_true rfl) rfl ?_
  refine y_sub (lv' := [(0, .ref x), (1, .int (0 : Int32)), (2, .int r4), (3, .int r8), (4, .int (0 : Int32)), (5, .int (0 : Int32)), (6, .int (0 : Int32)), (7, .int (0 : Int32))]) [7, 6, 5, 4, 3, 2, 1, 0] rfl ?_
  exact hX26 _ _ _ _ _ _ _ _ _ h
theorem dL_act_0 : decode cL_act 0 = .ok (.iload_n 1, 1) := by decide +kernel
theorem dL_act_1 : decode cL_act 1 = .ok (.iconst 4, 1) := by decide +kernel
theorem dL_act_2 : decode cL_act 2 = .ok (.ishr, 1) := by decide +kernel
theorem dL_act_3 : decode cL_act 3 = .ok (.aload_n 0, 1) := by decide +kernel
theorem dL_act_4 : decode cL_act 4 = .ok (.iconst 1, 1) := by decide +kernel
theorem dL_act_5 : decode cL_act 5 = .ok (.invokevirtual 12, 3) := by decide +kernel
theorem dL_act_8 : decode cL_act 8 = .ok (.iconst 1, 1) := by decide +kernel
theorem dL_act_9 : decode cL_act 9 = .ok (.iadd, 1) := by decide +kernel
theorem dL_act_10 : decode cL_act 10 = .ok (.invokestatic 28, 3) := by decide +kernel
theorem dL_act_13 : decode cL_act 13 = .ok (.istore_n 3, 1) := by decide +kernel
theorem dL_act_14 : decode cL_act 14 = .ok (.aload_n 0, 1) := by decide +kernel
theorem dL_act_15 : decode cL_act 15 = .ok (.iconst 0, 1) := by decide +kernel
theorem dL_act_16 : decode cL_act 16 = .ok (.invokevirtual 12, 3) := by decide +kernel
theorem dL_act_19 : decode cL_act 19 = .ok (.istore 4, 2) := by decide +kernel
theorem dL_act_21 : decode cL_act 21 = .ok (.aload_n 0, 1) := by decide +kernel
theorem dL_act_22 : decode cL_act 22 = .ok (.iconst 3, 1) := by decide +kernel
theorem dL_act_23 : decode cL_act 23 = .ok (.invokevirtual 12, 3) := by decide +kernel
theorem dL_act_26 : decode cL_act 26 = .ok (.istore 5, 2) := by decide +kernel
theorem dL_act_28 : decode cL_act 28 = .ok (.iload_n 1, 1) := by decide +kernel
theorem dL_act_29 : decode cL_act 29 = .ok (.bipush 15, 2) := by decide +kernel
theorem dL_act_31 : decode cL_act 31 = .ok (.iand, 1) := by decide +kernel
theorem dL_act_32 : decode cL_act 32 = .ok (.tableswitch 137 0 8 #[52, 84, 84, 103, 103, 109, 115, 115, 129], 52) := by decide +kernel
theorem dL_act_84 : decode cL_act 84 = .ok (.aload_n 0, 1) := by decide +kernel
theorem dL_act_85 : decode cL_act 85 = .ok (.iload_n 2, 1) := by decide +kernel
theorem dL_act_86 : decode cL_act 86 = .ok (.iconst 4, 1) := by decide +kernel
theorem dL_act_87 : decode cL_act 87 = .ok (.invokestatic 28, 3) := by decide +kernel
theorem dL_act_90 : decode cL_act 90 = .ok (.iload_n 2, 1) := by decide +kernel
theorem dL_act_91 : decode cL_act 91 = .ok (.iconst 2, 1) := by decide +kernel
theorem dL_act_92 : decode cL_act 92 = .ok (.ishr, 1) := by decide +kernel
theorem dL_act_93 : decode cL_act 93 = .ok (.iload_n 2, 1) := by decide +kernel
theorem dL_act_94 : decode cL_act 94 = .ok (.bipush 9, 2) := by decide +kernel
theorem dL_act_96 : decode cL_act 96 = .ok (.ishr, 1) := by decide +kernel
theorem dL_act_97 : decode cL_act 97 = .ok (.iconst 1, 1) := by decide +kernel
theorem dL_act_98 : decode cL_act 98 = .ok (.iand, 1) := by decide +kernel
theorem dL_act_99 : decode cL_act 99 = .ok (.ifCond .ne 8, 3) := by decide +kernel
theorem dL_act_102 : decode cL_act 102 = .ok (.bipush 7, 2) := by decide +kernel
theorem dL_act_104 : decode cL_act 104 = .ok (.goto 5, 3) := by decide +kernel
theorem dL_act_107 : decode cL_act 107 = .ok (.bipush 62, 2) := by decide +kernel
theorem dL_act_109 : decode cL_act 109 = .ok (.invokestatic 28, 3) := by decide +kernel
theorem dL_act_112 : decode cL_act 112 = .ok (.invokevirtual 33, 3) := by decide +kernel
theorem dL_act_115 : decode cL_act 115 = .ok (.ireturn, 1) := by decide +kernel
theorem dL_act_116 : decode cL_act 116 = .ok (.aload_n 0, 1) := by decide +kernel
theorem dL_act_117 : decode cL_act 117 = .ok (.iload_n 2, 1) := by decide +kernel
theorem dL_act_118 : decode cL_act 118 = .ok (.bipush 32, 2) := by decide +kernel
theorem dL_act_120 : decode cL_act 120 = .ok (.invokestatic 28, 3) := by decide +kernel
theorem dL_act_123 : decode cL_act 123 = .ok (.iload_n 2, 1) := by decide +kernel
theorem dL_act_124 : decode cL_act 124 = .ok (.iconst 5, 1) := by decide +kernel
theorem dL_act_125 : decode cL_act 125 = .ok (.ishr, 1) := by decide +kernel
theorem dL_act_126 : decode cL_act 126 = .ok (.bipush 31, 2) := by decide +kernel
theorem dL_act_128 : decode cL_act 128 = .ok (.invokestatic 28, 3) := by decide +kernel
theorem dL_act_131 : decode cL_act 131 = .ok (.invokevirtual 36, 3) := by decide +kernel
theorem dL_act_134 : decode cL_act 134 = .ok (.ireturn, 1) := by decide +kernel
theorem dL_act_135 : decode cL_act 135 = .ok (.aload_n 0, 1) := by decide +kernel
theorem dL_act_136 : decode cL_act 136 = .ok (.iload_n 3, 1) := by decide +kernel
theorem dL_act_137 : decode cL_act 137 = .ok (.invokevirtual 39, 3) := by decide +kernel
theorem dL_act_140 : decode cL_act 140 = .ok (.ireturn, 1) := by decide +kernel
theorem dL_act_141 : decode cL_act 141 = .ok (.aload_n 0, 1) := by decide +kernel
theorem dL_act_142 : decode cL_act 142 = .ok (.iload_n 3, 1) := by decide +kernel
theorem dL_act_143 : decode cL_act 143 = .ok (.invokevirtual 42, 3) := by decide +kernel
theorem dL_act_146 : decode cL_act 146 = .ok (.ireturn, 1) := by decide +kernel
theorem dL_act_147 : decode cL_act 147 = .ok (.aload_n 0, 1) := by decide +kernel
theorem dL_act_148 : decode cL_act 148 = .ok (.iload 5, 2) := by decide +kernel
theorem dL_act_150 : decode cL_act 150 = .ok (.iload_n 2, 1) := by decide +kernel
theorem dL_act_151 : decode cL_act 151 = .ok (.bipush 40, 2) := by decide +kernel
theorem dL_act_153 : decode cL_act 153 = .ok (.invokestatic 28, 3) := by decide +kernel
theorem dL_act_156 : decode cL_act 156 = .ok (.iadd, 1) := by decide +kernel
theorem dL_act_157 : decode cL_act 157 = .ok (.invokevirtual 45, 3) := by decide +kernel
theorem dL_act_160 : decode cL_act 160 = .ok (.ireturn, 1) := by decide +kernel
theorem dL_act_161 : decode cL_act 161 = .ok (.aload_n 0, 1) := by decide +kernel
theorem dL_act_162 : decode cL_act 162 = .ok (.iload_n 2, 1) := by decide +kernel
theorem dL_act_163 : decode cL_act 163 = .ok (.iconst 1, 1) := by decide +kernel
theorem dL_act_164 : decode cL_act 164 = .ok (.iand, 1) := by decide +kernel
theorem dL_act_165 : decode cL_act 165 = .ok (.invokevirtual 48, 3) := by decide +kernel
theorem dL_act_168 : decode cL_act 168 = .ok (.ireturn, 1) := by decide +kernel
theorem dL_act_169 : decode cL_act 169 = .ok (.aload_n 0, 1) := by decide +kernel
theorem dL_act_170 : decode cL_act 170 = .ok (.iload_n 2, 1) := by decide +kernel
theorem dL_act_171 : decode cL_act 171 = .ok (.iload 4, 2) := by decide +kernel
theorem dL_act_173 : decode cL_act 173 = .ok (.iconst 1, 1) := by decide +kernel
theorem dL_act_174 : decode cL_act 174 = .ok (.iadd, 1) := by decide +kernel
theorem dL_act_175 : decode cL_act 175 = .ok (.invokestatic 28, 3) := by decide +kernel
theorem dL_act_178 : decode cL_act 178 = .ok (.iload_n 2, 1) := by decide +kernel
theorem dL_act_179 : decode cL_act 179 = .ok (.iconst 4, 1) := by decide +kernel
theorem dL_act_180 : decode cL_act 180 = .ok (.ishr, 1) := by decide +kernel
theorem dL_act_181 : decode cL_act 181 = .ok (.iload 4, 2) := by decide +kernel
theorem dL_act_183 : decode cL_act 183 = .ok (.iconst 1, 1) := by decide +kernel
theorem dL_act_184 : decode cL_act 184 = .ok (.iadd, 1) := by decide +kernel
theorem dL_act_185 : decode cL_act 185 = .ok (.invokestatic 28, 3) := by decide +kernel
theorem dL_act_188 : decode cL_act 188 = .ok (.iload 5, 2) := by decide +kernel
theorem dL_act_190 : decode cL_act 190 = .ok (.iload_n 2, 1) := by decide +kernel
theorem dL_act_191 : decode cL_act 191 = .ok (.bipush 8, 2) := by decide +kernel
theorem dL_act_193 : decode cL_act 193 = .ok (.ishr, 1) := by decide +kernel
theorem dL_act_194 : decode cL_act 194 = .ok (.bipush 50, 2) := by decide +kernel
theorem dL_act_196 : decode cL_act 196 = .ok (.invokestatic 28, 3) := by decide +kernel
theorem dL_act_199 : decode cL_act 199 = .ok (.iadd, 1) := by decide +kernel
theorem dL_act_200 : decode cL_act 200 = .ok (.sipush 602, 3) := by decide +kernel
theorem dL_act_203 : decode cL_act 203 = .ok (.invokestatic 28, 3) := by decide +kernel
theorem dL_act_206 : decode cL_act 206 = .ok (.iload 5, 2) := by decide +kernel
theorem dL_act_208 : decode cL_act 208 = .ok (.bipush 10, 2) := by decide +kernel
theorem dL_act_210 : decode cL_act 210 = .ok (.iadd, 1) := by decide +kernel
theorem dL_act_211 : decode cL_act 211 = .ok (.iload_n 2, 1) := by decide +kernel
theorem dL_act_212 : decode cL_act 212 = .ok (.bipush 14, 2) := by decide +kernel
theorem dL_act_214 : decode cL_act 214 = .ok (.ishr, 1) := by decide +kernel
theorem dL_act_215 : decode cL_act 215 = .ok (.sipush 150, 3) := by decide +kernel
theorem dL_act_218 : decode cL_act 218 = .ok (.invokestatic 28, 3) := by decide +kernel
theorem dL_act_221 : decode cL_act 221 = .ok (.iadd, 1) := by decide +kernel
theorem dL_act_222 : decode cL_act 222 = .ok (.sipush 902, 3) := by decide +kernel
theorem dL_act_225 : decode cL_act 225 = .ok (.invokestatic 28, 3) := by decide +kernel
theorem dL_act_228 : decode cL_act 228 = .ok (.invokevirtual 51, 3) := by decide +kernel
theorem dL_act_231 : decode cL_act 231 = .ok (.ireturn, 1) := by decide +kernel
