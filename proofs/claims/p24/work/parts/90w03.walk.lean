set_option maxHeartbeats 4000000 in
set_option maxRecDepth 100000 in
theorem t_L_areKept (g : yG) (x rs rl : Nat) (A : Nat → Nat) (d : RV) (G : Nat → Nat → Int32) (T : Nat → Nat) (t : RV) (GT : Nat → Nat → Int32) (P : Nat → Nat) (p : RV) (GP : Nat → Nat → Int32) (hst arr : Nat) (xs : List RV) (R : List ((Nat → Nat) × RV × (Nat → Nat → Int32)))  {post : Int32 → List va_W → Prop} {K : Int32 → RV → Prop} (hK : ∀ (r0 : Int32) (t : RV) (GT : Nat → Nat → Int32), K r0 t → post r0 ([mnC x (A 0) (T 0) rs (P 0) hst rl, dayC A d, tabC T t, padC P p] ++ (dayR g A d G ++ (tabR g T t GT ++ (padR g P p GP ++ [histW g hst arr xs R]))) : List va_W)) (hPO : PO_L_areKept d p xs K t ) : yM g yL_areKept wsL_areKept ({ frames := 6, cells := 0, slots := 0, locals := 136 } : Room) [.ref x] ([mnC x (A 0) (T 0) rs (P 0) hst rl, dayC A d, tabC T t, padC P p] ++ (dayR g A d G ++ (tabR g T t GT ++ (padR g P p GP ++ [histW g hst arr xs R]))) : List va_W) post 0 0 := by
  refine y_entryI (cc := cL_areKept) (maxL := 3) (by decide +kernel) rfl (Nat.le_of_ble_eq_true rfl) (fun Z C HR => ?_)
  have C : yC Z g cL_areKept 3 wsL_areKept RL := C
  obtain ⟨I4, I46, o4, o46, h⟩ := hPO
  have hX4 : ∀ (t : RV) (x1 : Int32) (x2 : Int32) (GT : Nat → Nat → Int32), (fun (t9 : RV) (x19 : Int32) (x29 : Int32) => ∃ w9, I4 w9 t9 x19 x29) t x1 x2 → yJ Z ({ frames := 6, cells := 0, slots := 0, locals := 136 } : Room) 0 0 ([mnC x (A 0) (T 0) rs (P 0) hst rl, dayC A d, tabC T t, padC P p] ++ (dayR g A d G ++ (tabR g T t GT ++ (padR g P p GP ++ [histW g hst arr xs R]))) : List va_W) 4 [(0, .ref x), (1, .int x1), (2, .int x2)] [] := by
    intro t x1 x2 GT hq
    obtain ⟨w9, hi⟩ := hq
    exact (l_L_areKept g x rs rl A d G T P p GP hst arr xs R C HR hK o4 o46 w9).1 t x1 x2 GT hi
  have hX46 : ∀ (t : RV) (x1 : Int32) (x2 : Int32) (GT : Nat → Nat → Int32), (fun (t9 : RV) (x19 : Int32) (x29 : Int32) => ∃ w9, I46 w9 t9 x19 x29) t x1 x2 → yJ Z ({ frames := 6, cells := 0, slots := 0, locals := 136 } : Room) 0 0 ([mnC x (A 0) (T 0) rs (P 0) hst rl, dayC A d, tabC T t, padC P p] ++ (dayR g A d G ++ (tabR g T t GT ++ (padR g P p GP ++ [histW g hst arr xs R]))) : List va_W) 46 [(0, .ref x), (1, .int x1), (2, .int x2)] [] := by
    intro t x1 x2 GT hq
    obtain ⟨w9, hi⟩ := hq
    exact (l_L_areKept g x rs rl A d G T P p GP hst arr xs R C HR hK o4 o46 w9).2 t x1 x2 GT hi
  unfold wp_L_areKept_0 at h
  show yJ Z _ 0 0 _ 0 [(0, .ref x)] []
  refine y_iconst (v := 1) C dL_areKept_0 (by decide) ?_
  refine y_istore_n (lv' := [(1, .int (1 : Int32)), (0, .ref x)]) C dL_areKept_1 rfl (Nat.le_of_ble_eq_true rfl) rfl ?_
  refine y_iconst (v := 0) C dL_areKept_2 (by decide) ?_
  refine y_istore_n (lv' := [(2, .int (0 : Int32)), (1, .int (1 : Int32)), (0, .ref x)]) C dL_areKept_3 rfl (Nat.le_of_ble_eq_true rfl) rfl ?_
  refine y_sub (lv' := [(0, .ref x), (1, .int (1 : Int32)), (2, .int (0 : Int32))]) [2, 1, 0] rfl ?_
  exact hX4 _ _ _ _ h
theorem dL_holds_0 : decode cL_holds 0 = .ok (.iconst 0, 1) := by decide +kernel
theorem dL_holds_1 : decode cL_holds 1 = .ok (.istore_n 1, 1) := by decide +kernel
theorem dL_holds_2 : decode cL_holds 2 = .ok (.aload_n 0, 1) := by decide +kernel
theorem dL_holds_3 : decode cL_holds 3 = .ok (.iconst 5, 1) := by decide +kernel
theorem dL_holds_4 : decode cL_holds 4 = .ok (.invokevirtual 12, 3) := by decide +kernel
theorem dL_holds_7 : decode cL_holds 7 = .ok (.istore_n 2, 1) := by decide +kernel
theorem dL_holds_8 : decode cL_holds 8 = .ok (.aload_n 0, 1) := by decide +kernel
theorem dL_holds_9 : decode cL_holds 9 = .ok (.iconst 2, 1) := by decide +kernel
theorem dL_holds_10 : decode cL_holds 10 = .ok (.invokevirtual 12, 3) := by decide +kernel
theorem dL_holds_13 : decode cL_holds 13 = .ok (.istore_n 3, 1) := by decide +kernel
theorem dL_holds_14 : decode cL_holds 14 = .ok (.iconst 0, 1) := by decide +kernel
theorem dL_holds_15 : decode cL_holds 15 = .ok (.istore 4, 2) := by decide +kernel
theorem dL_holds_17 : decode cL_holds 17 = .ok (.iconst 0, 1) := by decide +kernel
theorem dL_holds_18 : decode cL_holds 18 = .ok (.istore 5, 2) := by decide +kernel
theorem dL_holds_20 : decode cL_holds 20 = .ok (.iconst 0, 1) := by decide +kernel
theorem dL_holds_21 : decode cL_holds 21 = .ok (.istore 6, 2) := by decide +kernel
theorem dL_holds_23 : decode cL_holds 23 = .ok (.iconst 0, 1) := by decide +kernel
theorem dL_holds_24 : decode cL_holds 24 = .ok (.istore 7, 2) := by decide +kernel
theorem dL_holds_26 : decode cL_holds 26 = .ok (.iload 7, 2) := by decide +kernel
theorem dL_holds_28 : decode cL_holds 28 = .ok (.aload_n 0, 1) := by decide +kernel
theorem dL_holds_29 : decode cL_holds 29 = .ok (.iconst 1, 1) := by decide +kernel
theorem dL_holds_30 : decode cL_holds 30 = .ok (.invokevirtual 12, 3) := by decide +kernel
theorem dL_holds_33 : decode cL_holds 33 = .ok (.if_icmp .ge 201, 3) := by decide +kernel
theorem dL_holds_36 : decode cL_holds 36 = .ok (.aload_n 0, 1) := by decide +kernel
theorem dL_holds_37 : decode cL_holds 37 = .ok (.iload 7, 2) := by decide +kernel
theorem dL_holds_39 : decode cL_holds 39 = .ok (.iconst 4, 1) := by decide +kernel
theorem dL_holds_40 : decode cL_holds 40 = .ok (.invokevirtual 18, 3) := by decide +kernel
theorem dL_holds_43 : decode cL_holds 43 = .ok (.istore 8, 2) := by decide +kernel
theorem dL_holds_45 : decode cL_holds 45 = .ok (.aload_n 0, 1) := by decide +kernel
theorem dL_holds_46 : decode cL_holds 46 = .ok (.iload 7, 2) := by decide +kernel
theorem dL_holds_48 : decode cL_holds 48 = .ok (.iconst 5, 1) := by decide +kernel
theorem dL_holds_49 : decode cL_holds 49 = .ok (.invokevirtual 18, 3) := by decide +kernel
theorem dL_holds_52 : decode cL_holds 52 = .ok (.istore 9, 2) := by decide +kernel
theorem dL_holds_54 : decode cL_holds 54 = .ok (.aload_n 0, 1) := by decide +kernel
theorem dL_holds_55 : decode cL_holds 55 = .ok (.iload 7, 2) := by decide +kernel
theorem dL_holds_57 : decode cL_holds 57 = .ok (.bipush 6, 2) := by decide +kernel
theorem dL_holds_59 : decode cL_holds 59 = .ok (.invokevirtual 18, 3) := by decide +kernel
theorem dL_holds_62 : decode cL_holds 62 = .ok (.istore 10, 2) := by decide +kernel
theorem dL_holds_64 : decode cL_holds 64 = .ok (.iload 4, 2) := by decide +kernel
theorem dL_holds_66 : decode cL_holds 66 = .ok (.iload 8, 2) := by decide +kernel
theorem dL_holds_68 : decode cL_holds 68 = .ok (.ifCond .ne 7, 3) := by decide +kernel
theorem dL_holds_71 : decode cL_holds 71 = .ok (.iconst 1, 1) := by decide +kernel
theorem dL_holds_72 : decode cL_holds 72 = .ok (.goto 4, 3) := by decide +kernel
theorem dL_holds_75 : decode cL_holds 75 = .ok (.iconst 0, 1) := by decide +kernel
theorem dL_holds_76 : decode cL_holds 76 = .ok (.iadd, 1) := by decide +kernel
theorem dL_holds_77 : decode cL_holds 77 = .ok (.istore 4, 2) := by decide +kernel
theorem dL_holds_79 : decode cL_holds 79 = .ok (.iload 5, 2) := by decide +kernel
theorem dL_holds_81 : decode cL_holds 81 = .ok (.iload 8, 2) := by decide +kernel
theorem dL_holds_83 : decode cL_holds 83 = .ok (.iconst 1, 1) := by decide +kernel
theorem dL_holds_84 : decode cL_holds 84 = .ok (.if_icmp .ne 7, 3) := by decide +kernel
theorem dL_holds_87 : decode cL_holds 87 = .ok (.iconst 1, 1) := by decide +kernel
theorem dL_holds_88 : decode cL_holds 88 = .ok (.goto 4, 3) := by decide +kernel
theorem dL_holds_91 : decode cL_holds 91 = .ok (.iconst 0, 1) := by decide +kernel
theorem dL_holds_92 : decode cL_holds 92 = .ok (.iadd, 1) := by decide +kernel
theorem dL_holds_93 : decode cL_holds 93 = .ok (.istore 5, 2) := by decide +kernel
theorem dL_holds_95 : decode cL_holds 95 = .ok (.iload 6, 2) := by decide +kernel
theorem dL_holds_97 : decode cL_holds 97 = .ok (.iload 8, 2) := by decide +kernel
theorem dL_holds_99 : decode cL_holds 99 = .ok (.iconst 2, 1) := by decide +kernel
theorem dL_holds_100 : decode cL_holds 100 = .ok (.if_icmp .ne 7, 3) := by decide +kernel
theorem dL_holds_103 : decode cL_holds 103 = .ok (.iconst 1, 1) := by decide +kernel
theorem dL_holds_104 : decode cL_holds 104 = .ok (.goto 4, 3) := by decide +kernel
theorem dL_holds_107 : decode cL_holds 107 = .ok (.iconst 0, 1) := by decide +kernel
theorem dL_holds_108 : decode cL_holds 108 = .ok (.iadd, 1) := by decide +kernel
theorem dL_holds_109 : decode cL_holds 109 = .ok (.istore 6, 2) := by decide +kernel
theorem dL_holds_111 : decode cL_holds 111 = .ok (.iload 8, 2) := by decide +kernel
theorem dL_holds_113 : decode cL_holds 113 = .ok (.iconst 3, 1) := by decide +kernel
theorem dL_holds_114 : decode cL_holds 114 = .ok (.if_icmp .ge 39, 3) := by decide +kernel
theorem dL_holds_117 : decode cL_holds 117 = .ok (.iload 9, 2) := by decide +kernel
theorem dL_holds_119 : decode cL_holds 119 = .ok (.aload_n 0, 1) := by decide +kernel
theorem dL_holds_120 : decode cL_holds 120 = .ok (.iload 7, 2) := by decide +kernel
theorem dL_holds_122 : decode cL_holds 122 = .ok (.iconst 2, 1) := by decide +kernel
theorem dL_holds_123 : decode cL_holds 123 = .ok (.invokevirtual 18, 3) := by decide +kernel
theorem dL_holds_126 : decode cL_holds 126 = .ok (.if_icmp .lt 23, 3) := by decide +kernel
theorem dL_holds_129 : decode cL_holds 129 = .ok (.iload 10, 2) := by decide +kernel
theorem dL_holds_131 : decode cL_holds 131 = .ok (.iload 9, 2) := by decide +kernel
theorem dL_holds_133 : decode cL_holds 133 = .ok (.aload_n 0, 1) := by decide +kernel
theorem dL_holds_134 : decode cL_holds 134 = .ok (.iload 7, 2) := by decide +kernel
theorem dL_holds_136 : decode cL_holds 136 = .ok (.bipush 7, 2) := by decide +kernel
theorem dL_holds_138 : decode cL_holds 138 = .ok (.invokevirtual 18, 3) := by decide +kernel
theorem dL_holds_141 : decode cL_holds 141 = .ok (.iadd, 1) := by decide +kernel
theorem dL_holds_142 : decode cL_holds 142 = .ok (.if_icmp .lt 7, 3) := by decide +kernel
theorem dL_holds_145 : decode cL_holds 145 = .ok (.iconst 1, 1) := by decide +kernel
theorem dL_holds_146 : decode cL_holds 146 = .ok (.goto 43, 3) := by decide +kernel
theorem dL_holds_149 : decode cL_holds 149 = .ok (.iconst 0, 1) := by decide +kernel
theorem dL_holds_150 : decode cL_holds 150 = .ok (.goto 39, 3) := by decide +kernel
theorem dL_holds_153 : decode cL_holds 153 = .ok (.iload 10, 2) := by decide +kernel
theorem dL_holds_155 : decode cL_holds 155 = .ok (.bipush (-6), 2) := by decide +kernel
theorem dL_holds_157 : decode cL_holds 157 = .ok (.if_icmp .ne 31, 3) := by decide +kernel
theorem dL_holds_160 : decode cL_holds 160 = .ok (.iload 8, 2) := by decide +kernel
theorem dL_holds_162 : decode cL_holds 162 = .ok (.iconst 4, 1) := by decide +kernel
theorem dL_holds_163 : decode cL_holds 163 = .ok (.if_icmp .ne 7, 3) := by decide +kernel
theorem dL_holds_166 : decode cL_holds 166 = .ok (.iconst 1, 1) := by decide +kernel
theorem dL_holds_167 : decode cL_holds 167 = .ok (.goto 4, 3) := by decide +kernel
theorem dL_holds_170 : decode cL_holds 170 = .ok (.iconst 0, 1) := by decide +kernel
theorem dL_holds_171 : decode cL_holds 171 = .ok (.iload 9, 2) := by decide +kernel
theorem dL_holds_173 : decode cL_holds 173 = .ok (.ifCond .lt 7, 3) := by decide +kernel
theorem dL_holds_176 : decode cL_holds 176 = .ok (.iconst 1, 1) := by decide +kernel
theorem dL_holds_177 : decode cL_holds 177 = .ok (.goto 4, 3) := by decide +kernel
theorem dL_holds_180 : decode cL_holds 180 = .ok (.iconst 0, 1) := by decide +kernel
theorem dL_holds_181 : decode cL_holds 181 = .ok (.if_icmp .ne 7, 3) := by decide +kernel
theorem dL_holds_184 : decode cL_holds 184 = .ok (.iconst 1, 1) := by decide +kernel
theorem dL_holds_185 : decode cL_holds 185 = .ok (.goto 4, 3) := by decide +kernel
theorem dL_holds_188 : decode cL_holds 188 = .ok (.iconst 0, 1) := by decide +kernel
theorem dL_holds_189 : decode cL_holds 189 = .ok (.istore 11, 2) := by decide +kernel
theorem dL_holds_191 : decode cL_holds 191 = .ok (.iload 11, 2) := by decide +kernel
theorem dL_holds_193 : decode cL_holds 193 = .ok (.ifCond .eq 33, 3) := by decide +kernel
theorem dL_holds_196 : decode cL_holds 196 = .ok (.aload_n 0, 1) := by decide +kernel
theorem dL_holds_197 : decode cL_holds 197 = .ok (.iload 7, 2) := by decide +kernel
theorem dL_holds_199 : decode cL_holds 199 = .ok (.invokevirtual 55, 3) := by decide +kernel
theorem dL_holds_202 : decode cL_holds 202 = .ok (.bipush (-5), 2) := by decide +kernel
theorem dL_holds_204 : decode cL_holds 204 = .ok (.if_icmp .ne 7, 3) := by decide +kernel
theorem dL_holds_207 : decode cL_holds 207 = .ok (.iconst 1, 1) := by decide +kernel
theorem dL_holds_208 : decode cL_holds 208 = .ok (.goto 4, 3) := by decide +kernel
theorem dL_holds_211 : decode cL_holds 211 = .ok (.iconst 0, 1) := by decide +kernel
theorem dL_holds_212 : decode cL_holds 212 = .ok (.iload 8, 2) := by decide +kernel
theorem dL_holds_214 : decode cL_holds 214 = .ok (.iconst 1, 1) := by decide +kernel
theorem dL_holds_215 : decode cL_holds 215 = .ok (.if_icmp .le 7, 3) := by decide +kernel
theorem dL_holds_218 : decode cL_holds 218 = .ok (.iconst 1, 1) := by decide +kernel
theorem dL_holds_219 : decode cL_holds 219 = .ok (.goto 4, 3) := by decide +kernel
theorem dL_holds_222 : decode cL_holds 222 = .ok (.iconst 0, 1) := by decide +kernel
theorem dL_holds_223 : decode cL_holds 223 = .ok (.if_icmp .eq 5, 3) := by decide +kernel
theorem dL_holds_226 : decode cL_holds 226 = .ok (.iconst 0, 1) := by decide +kernel
theorem dL_holds_227 : decode cL_holds 227 = .ok (.ireturn, 1) := by decide +kernel
theorem dL_holds_228 : decode cL_holds 228 = .ok (.iinc 7 1, 3) := by decide +kernel
theorem dL_holds_231 : decode cL_holds 231 = .ok (.goto (-205), 3) := by decide +kernel
theorem dL_holds_234 : decode cL_holds 234 = .ok (.iconst 0, 1) := by decide +kernel
theorem dL_holds_235 : decode cL_holds 235 = .ok (.istore 7, 2) := by decide +kernel
theorem dL_holds_237 : decode cL_holds 237 = .ok (.iload 7, 2) := by decide +kernel
theorem dL_holds_239 : decode cL_holds 239 = .ok (.iload_n 3, 1) := by decide +kernel
theorem dL_holds_240 : decode cL_holds 240 = .ok (.if_icmp .ge 155, 3) := by decide +kernel
theorem dL_holds_243 : decode cL_holds 243 = .ok (.aload_n 0, 1) := by decide +kernel
theorem dL_holds_244 : decode cL_holds 244 = .ok (.iload 7, 2) := by decide +kernel
theorem dL_holds_246 : decode cL_holds 246 = .ok (.iconst 0, 1) := by decide +kernel
theorem dL_holds_247 : decode cL_holds 247 = .ok (.invokevirtual 22, 3) := by decide +kernel
theorem dL_holds_250 : decode cL_holds 250 = .ok (.istore 8, 2) := by decide +kernel
theorem dL_holds_252 : decode cL_holds 252 = .ok (.aload_n 0, 1) := by decide +kernel
theorem dL_holds_253 : decode cL_holds 253 = .ok (.iload 7, 2) := by decide +kernel
theorem dL_holds_255 : decode cL_holds 255 = .ok (.iconst 1, 1) := by decide +kernel
theorem dL_holds_256 : decode cL_holds 256 = .ok (.invokevirtual 22, 3) := by decide +kernel
theorem dL_holds_259 : decode cL_holds 259 = .ok (.iconst 1, 1) := by decide +kernel
theorem dL_holds_260 : decode cL_holds 260 = .ok (.if_icmp .ne 7, 3) := by decide +kernel
theorem dL_holds_263 : decode cL_holds 263 = .ok (.iconst 1, 1) := by decide +kernel
theorem dL_holds_264 : decode cL_holds 264 = .ok (.goto 4, 3) := by decide +kernel
theorem dL_holds_267 : decode cL_holds 267 = .ok (.iconst 0, 1) := by decide +kernel
theorem dL_holds_268 : decode cL_holds 268 = .ok (.istore 9, 2) := by decide +kernel
theorem dL_holds_270 : decode cL_holds 270 = .ok (.aload_n 0, 1) := by decide +kernel
theorem dL_holds_271 : decode cL_holds 271 = .ok (.iload 7, 2) := by decide +kernel
theorem dL_holds_273 : decode cL_holds 273 = .ok (.iconst 3, 1) := by decide +kernel
theorem dL_holds_274 : decode cL_holds 274 = .ok (.invokevirtual 22, 3) := by decide +kernel
theorem dL_holds_277 : decode cL_holds 277 = .ok (.istore 10, 2) := by decide +kernel
theorem dL_holds_279 : decode cL_holds 279 = .ok (.iload_n 2, 1) := by decide +kernel
theorem dL_holds_280 : decode cL_holds 280 = .ok (.iload 9, 2) := by decide +kernel
theorem dL_holds_282 : decode cL_holds 282 = .ok (.ifCond .eq 7, 3) := by decide +kernel
theorem dL_holds_285 : decode cL_holds 285 = .ok (.iconst (-1), 1) := by decide +kernel
theorem dL_holds_286 : decode cL_holds 286 = .ok (.goto 4, 3) := by decide +kernel
theorem dL_holds_289 : decode cL_holds 289 = .ok (.iconst 1, 1) := by decide +kernel
theorem dL_holds_290 : decode cL_holds 290 = .ok (.iadd, 1) := by decide +kernel
theorem dL_holds_291 : decode cL_holds 291 = .ok (.istore_n 2, 1) := by decide +kernel
theorem dL_holds_292 : decode cL_holds 292 = .ok (.iload 10, 2) := by decide +kernel
theorem dL_holds_294 : decode cL_holds 294 = .ok (.iload_n 1, 1) := by decide +kernel
theorem dL_holds_295 : decode cL_holds 295 = .ok (.if_icmp .lt 82, 3) := by decide +kernel
theorem dL_holds_298 : decode cL_holds 298 = .ok (.iload 10, 2) := by decide +kernel
theorem dL_holds_300 : decode cL_holds 300 = .ok (.aload_n 0, 1) := by decide +kernel
theorem dL_holds_301 : decode cL_holds 301 = .ok (.iconst 3, 1) := by decide +kernel
theorem dL_holds_302 : decode cL_holds 302 = .ok (.invokevirtual 12, 3) := by decide +kernel
theorem dL_holds_305 : decode cL_holds 305 = .ok (.if_icmp .lt 72, 3) := by decide +kernel
theorem dL_holds_308 : decode cL_holds 308 = .ok (.aload_n 0, 1) := by decide +kernel
theorem dL_holds_309 : decode cL_holds 309 = .ok (.iload 7, 2) := by decide +kernel
theorem dL_holds_311 : decode cL_holds 311 = .ok (.iconst 4, 1) := by decide +kernel
theorem dL_holds_312 : decode cL_holds 312 = .ok (.invokevirtual 22, 3) := by decide +kernel
theorem dL_holds_315 : decode cL_holds 315 = .ok (.iload_n 2, 1) := by decide +kernel
theorem dL_holds_316 : decode cL_holds 316 = .ok (.if_icmp .ne 61, 3) := by decide +kernel
theorem dL_holds_319 : decode cL_holds 319 = .ok (.iload 10, 2) := by decide +kernel
theorem dL_holds_321 : decode cL_holds 321 = .ok (.aload_n 0, 1) := by decide +kernel
theorem dL_holds_322 : decode cL_holds 322 = .ok (.iload 8, 2) := by decide +kernel
theorem dL_holds_324 : decode cL_holds 324 = .ok (.iload 9, 2) := by decide +kernel
theorem dL_holds_326 : decode cL_holds 326 = .ok (.ifCond .eq 8, 3) := by decide +kernel
theorem dL_holds_329 : decode cL_holds 329 = .ok (.bipush 6, 2) := by decide +kernel
theorem dL_holds_331 : decode cL_holds 331 = .ok (.goto 4, 3) := by decide +kernel
theorem dL_holds_334 : decode cL_holds 334 = .ok (.iconst 5, 1) := by decide +kernel
theorem dL_holds_335 : decode cL_holds 335 = .ok (.invokevirtual 18, 3) := by decide +kernel
theorem dL_holds_338 : decode cL_holds 338 = .ok (.if_icmp .ne 39, 3) := by decide +kernel
theorem dL_holds_341 : decode cL_holds 341 = .ok (.aload_n 0, 1) := by decide +kernel
theorem dL_holds_342 : decode cL_holds 342 = .ok (.iload 7, 2) := by decide +kernel
theorem dL_holds_344 : decode cL_holds 344 = .ok (.iconst 2, 1) := by decide +kernel
theorem dL_holds_345 : decode cL_holds 345 = .ok (.invokevirtual 22, 3) := by decide +kernel
theorem dL_holds_348 : decode cL_holds 348 = .ok (.aload_n 0, 1) := by decide +kernel
theorem dL_holds_349 : decode cL_holds 349 = .ok (.iload 8, 2) := by decide +kernel
theorem dL_holds_351 : decode cL_holds 351 = .ok (.iload 9, 2) := by decide +kernel
theorem dL_holds_353 : decode cL_holds 353 = .ok (.ifCond .eq 7, 3) := by decide +kernel
theorem dL_holds_356 : decode cL_holds 356 = .ok (.iconst 1, 1) := by decide +kernel
theorem dL_holds_357 : decode cL_holds 357 = .ok (.goto 4, 3) := by decide +kernel
theorem dL_holds_360 : decode cL_holds 360 = .ok (.iconst 0, 1) := by decide +kernel
theorem dL_holds_361 : decode cL_holds 361 = .ok (.invokevirtual 18, 3) := by decide +kernel
theorem dL_holds_364 : decode cL_holds 364 = .ok (.if_icmp .ne 13, 3) := by decide +kernel
theorem dL_holds_367 : decode cL_holds 367 = .ok (.aload_n 0, 1) := by decide +kernel
theorem dL_holds_368 : decode cL_holds 368 = .ok (.iload 7, 2) := by decide +kernel
theorem dL_holds_370 : decode cL_holds 370 = .ok (.iconst 5, 1) := by decide +kernel
theorem dL_holds_371 : decode cL_holds 371 = .ok (.invokevirtual 22, 3) := by decide +kernel
theorem dL_holds_374 : decode cL_holds 374 = .ok (.ifCond .ge 5, 3) := by decide +kernel
theorem dL_holds_377 : decode cL_holds 377 = .ok (.iconst 0, 1) := by decide +kernel
theorem dL_holds_378 : decode cL_holds 378 = .ok (.ireturn, 1) := by decide +kernel
theorem dL_holds_379 : decode cL_holds 379 = .ok (.iload 10, 2) := by decide +kernel
theorem dL_holds_381 : decode cL_holds 381 = .ok (.aload_n 0, 1) := by decide +kernel
theorem dL_holds_382 : decode cL_holds 382 = .ok (.bipush 11, 2) := by decide +kernel
theorem dL_holds_384 : decode cL_holds 384 = .ok (.invokevirtual 12, 3) := by decide +kernel
theorem dL_holds_387 : decode cL_holds 387 = .ok (.iadd, 1) := by decide +kernel
theorem dL_holds_388 : decode cL_holds 388 = .ok (.istore_n 1, 1) := by decide +kernel
theorem dL_holds_389 : decode cL_holds 389 = .ok (.iinc 7 1, 3) := by decide +kernel
theorem dL_holds_392 : decode cL_holds 392 = .ok (.goto (-155), 3) := by decide +kernel
theorem dL_holds_395 : decode cL_holds 395 = .ok (.iload_n 2, 1) := by decide +kernel
theorem dL_holds_396 : decode cL_holds 396 = .ok (.ifCond .ne 62, 3) := by decide +kernel
theorem dL_holds_399 : decode cL_holds 399 = .ok (.iload_n 3, 1) := by decide +kernel
theorem dL_holds_400 : decode cL_holds 400 = .ok (.iconst 2, 1) := by decide +kernel
theorem dL_holds_401 : decode cL_holds 401 = .ok (.iload 4, 2) := by decide +kernel
theorem dL_holds_403 : decode cL_holds 403 = .ok (.imul, 1) := by decide +kernel
theorem dL_holds_404 : decode cL_holds 404 = .ok (.iload 5, 2) := by decide +kernel
theorem dL_holds_406 : decode cL_holds 406 = .ok (.iadd, 1) := by decide +kernel
theorem dL_holds_407 : decode cL_holds 407 = .ok (.if_icmp .ne 51, 3) := by decide +kernel
theorem dL_holds_410 : decode cL_holds 410 = .ok (.iload 5, 2) := by decide +kernel
theorem dL_holds_412 : decode cL_holds 412 = .ok (.aload_n 0, 1) := by decide +kernel
theorem dL_holds_413 : decode cL_holds 413 = .ok (.iconst 5, 1) := by decide +kernel
theorem dL_holds_414 : decode cL_holds 414 = .ok (.invokevirtual 12, 3) := by decide +kernel
theorem dL_holds_417 : decode cL_holds 417 = .ok (.if_icmp .ne 41, 3) := by decide +kernel
theorem dL_holds_420 : decode cL_holds 420 = .ok (.iload 6, 2) := by decide +kernel
theorem dL_holds_422 : decode cL_holds 422 = .ok (.aload_n 0, 1) := by decide +kernel
theorem dL_holds_423 : decode cL_holds 423 = .ok (.bipush 6, 2) := by decide +kernel
theorem dL_holds_425 : decode cL_holds 425 = .ok (.invokevirtual 12, 3) := by decide +kernel
theorem dL_holds_428 : decode cL_holds 428 = .ok (.if_icmp .ne 30, 3) := by decide +kernel
theorem dL_holds_431 : decode cL_holds 431 = .ok (.iload_n 3, 1) := by decide +kernel
theorem dL_holds_432 : decode cL_holds 432 = .ok (.ifCond .eq 12, 3) := by decide +kernel
theorem dL_holds_435 : decode cL_holds 435 = .ok (.aload_n 0, 1) := by decide +kernel
theorem dL_holds_436 : decode cL_holds 436 = .ok (.iconst 4, 1) := by decide +kernel
theorem dL_holds_437 : decode cL_holds 437 = .ok (.invokevirtual 12, 3) := by decide +kernel
theorem dL_holds_440 : decode cL_holds 440 = .ok (.iload_n 1, 1) := by decide +kernel
theorem dL_holds_441 : decode cL_holds 441 = .ok (.if_icmp .ne 17, 3) := by decide +kernel
theorem dL_holds_444 : decode cL_holds 444 = .ok (.aload_n 0, 1) := by decide +kernel
theorem dL_holds_445 : decode cL_holds 445 = .ok (.iload_n 3, 1) := by decide +kernel
theorem dL_holds_446 : decode cL_holds 446 = .ok (.iconst 0, 1) := by decide +kernel
theorem dL_holds_447 : decode cL_holds 447 = .ok (.invokevirtual 22, 3) := by decide +kernel
theorem dL_holds_450 : decode cL_holds 450 = .ok (.iconst (-1), 1) := by decide +kernel
theorem dL_holds_451 : decode cL_holds 451 = .ok (.if_icmp .ne 7, 3) := by decide +kernel
theorem dL_holds_454 : decode cL_holds 454 = .ok (.iconst 1, 1) := by decide +kernel
theorem dL_holds_455 : decode cL_holds 455 = .ok (.goto 4, 3) := by decide +kernel
theorem dL_holds_458 : decode cL_holds 458 = .ok (.iconst 0, 1) := by decide +kernel
theorem dL_holds_459 : decode cL_holds 459 = .ok (.ireturn, 1) := by decide +kernel
