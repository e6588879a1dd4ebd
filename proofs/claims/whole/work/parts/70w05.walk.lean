theorem dX7_drives_0 : decode cX7_drives 0 = .ok (.aload_n 0, 1) := by decide +kernel
theorem dX7_drives_1 : decode cX7_drives 1 = .ok (.getfield 7, 3) := by decide +kernel
theorem dX7_drives_4 : decode cX7_drives 4 = .ok (.bipush 7, 2) := by decide +kernel
theorem dX7_drives_6 : decode cX7_drives 6 = .ok (.iaload, 1) := by decide +kernel
theorem dX7_drives_7 : decode cX7_drives 7 = .ok (.istore_n 2, 1) := by decide +kernel
theorem dX7_drives_8 : decode cX7_drives 8 = .ok (.iload_n 1, 1) := by decide +kernel
theorem dX7_drives_9 : decode cX7_drives 9 = .ok (.istore_n 3, 1) := by decide +kernel
theorem dX7_drives_10 : decode cX7_drives 10 = .ok (.aload_n 0, 1) := by decide +kernel
theorem dX7_drives_11 : decode cX7_drives 11 = .ok (.invokevirtual 68, 3) := by decide +kernel
theorem dX7_drives_14 : decode cX7_drives 14 = .ok (.istore 4, 2) := by decide +kernel
theorem dX7_drives_16 : decode cX7_drives 16 = .ok (.aload_n 0, 1) := by decide +kernel
theorem dX7_drives_17 : decode cX7_drives 17 = .ok (.iconst 0, 1) := by decide +kernel
theorem dX7_drives_18 : decode cX7_drives 18 = .ok (.putfield 72, 3) := by decide +kernel
theorem dX7_drives_21 : decode cX7_drives 21 = .ok (.aload_n 0, 1) := by decide +kernel
theorem dX7_drives_22 : decode cX7_drives 22 = .ok (.iload 4, 2) := by decide +kernel
theorem dX7_drives_24 : decode cX7_drives 24 = .ok (.aload_n 0, 1) := by decide +kernel
theorem dX7_drives_25 : decode cX7_drives 25 = .ok (.getfield 7, 3) := by decide +kernel
theorem dX7_drives_28 : decode cX7_drives 28 = .ok (.iconst 0, 1) := by decide +kernel
theorem dX7_drives_29 : decode cX7_drives 29 = .ok (.iaload, 1) := by decide +kernel
theorem dX7_drives_30 : decode cX7_drives 30 = .ok (.if_icmp .gt 7, 3) := by decide +kernel
theorem dX7_drives_33 : decode cX7_drives 33 = .ok (.iconst 1, 1) := by decide +kernel
theorem dX7_drives_34 : decode cX7_drives 34 = .ok (.goto 4, 3) := by decide +kernel
theorem dX7_drives_37 : decode cX7_drives 37 = .ok (.iconst 0, 1) := by decide +kernel
theorem dX7_drives_38 : decode cX7_drives 38 = .ok (.putfield 75, 3) := by decide +kernel
theorem dX7_drives_41 : decode cX7_drives 41 = .ok (.iconst 0, 1) := by decide +kernel
theorem dX7_drives_42 : decode cX7_drives 42 = .ok (.istore 5, 2) := by decide +kernel
theorem dX7_drives_44 : decode cX7_drives 44 = .ok (.iload 5, 2) := by decide +kernel
theorem dX7_drives_46 : decode cX7_drives 46 = .ok (.aload_n 0, 1) := by decide +kernel
theorem dX7_drives_47 : decode cX7_drives 47 = .ok (.getfield 65, 3) := by decide +kernel
theorem dX7_drives_50 : decode cX7_drives 50 = .ok (.if_icmp .ge 222, 3) := by decide +kernel
theorem dX7_drives_53 : decode cX7_drives 53 = .ok (.aload_n 0, 1) := by decide +kernel
theorem dX7_drives_54 : decode cX7_drives 54 = .ok (.getfield 29, 3) := by decide +kernel
theorem dX7_drives_57 : decode cX7_drives 57 = .ok (.iload 5, 2) := by decide +kernel
theorem dX7_drives_59 : decode cX7_drives 59 = .ok (.iaload, 1) := by decide +kernel
theorem dX7_drives_60 : decode cX7_drives 60 = .ok (.iconst 2, 1) := by decide +kernel
theorem dX7_drives_61 : decode cX7_drives 61 = .ok (.idiv, 1) := by decide +kernel
theorem dX7_drives_62 : decode cX7_drives 62 = .ok (.istore 6, 2) := by decide +kernel
theorem dX7_drives_64 : decode cX7_drives 64 = .ok (.aload_n 0, 1) := by decide +kernel
theorem dX7_drives_65 : decode cX7_drives 65 = .ok (.aload_n 0, 1) := by decide +kernel
theorem dX7_drives_66 : decode cX7_drives 66 = .ok (.getfield 29, 3) := by decide +kernel
theorem dX7_drives_69 : decode cX7_drives 69 = .ok (.iload 5, 2) := by decide +kernel
theorem dX7_drives_71 : decode cX7_drives 71 = .ok (.iaload, 1) := by decide +kernel
theorem dX7_drives_72 : decode cX7_drives 72 = .ok (.invokevirtual 79, 3) := by decide +kernel
theorem dX7_drives_75 : decode cX7_drives 75 = .ok (.istore 7, 2) := by decide +kernel
theorem dX7_drives_77 : decode cX7_drives 77 = .ok (.aload_n 0, 1) := by decide +kernel
theorem dX7_drives_78 : decode cX7_drives 78 = .ok (.dup, 1) := by decide +kernel
theorem dX7_drives_79 : decode cX7_drives 79 = .ok (.getfield 72, 3) := by decide +kernel
theorem dX7_drives_82 : decode cX7_drives 82 = .ok (.aload_n 0, 1) := by decide +kernel
theorem dX7_drives_83 : decode cX7_drives 83 = .ok (.iload_n 2, 1) := by decide +kernel
theorem dX7_drives_84 : decode cX7_drives 84 = .ok (.iload 7, 2) := by decide +kernel
theorem dX7_drives_86 : decode cX7_drives 86 = .ok (.invokevirtual 62, 3) := by decide +kernel
theorem dX7_drives_89 : decode cX7_drives 89 = .ok (.iadd, 1) := by decide +kernel
theorem dX7_drives_90 : decode cX7_drives 90 = .ok (.putfield 72, 3) := by decide +kernel
theorem dX7_drives_93 : decode cX7_drives 93 = .ok (.iload_n 3, 1) := by decide +kernel
theorem dX7_drives_94 : decode cX7_drives 94 = .ok (.aload_n 0, 1) := by decide +kernel
theorem dX7_drives_95 : decode cX7_drives 95 = .ok (.iload_n 2, 1) := by decide +kernel
theorem dX7_drives_96 : decode cX7_drives 96 = .ok (.iload 7, 2) := by decide +kernel
theorem dX7_drives_98 : decode cX7_drives 98 = .ok (.invokevirtual 62, 3) := by decide +kernel
theorem dX7_drives_101 : decode cX7_drives 101 = .ok (.iadd, 1) := by decide +kernel
theorem dX7_drives_102 : decode cX7_drives 102 = .ok (.istore_n 3, 1) := by decide +kernel
theorem dX7_drives_103 : decode cX7_drives 103 = .ok (.aload_n 0, 1) := by decide +kernel
theorem dX7_drives_104 : decode cX7_drives 104 = .ok (.getfield 35, 3) := by decide +kernel
theorem dX7_drives_107 : decode cX7_drives 107 = .ok (.iload 5, 2) := by decide +kernel
theorem dX7_drives_109 : decode cX7_drives 109 = .ok (.aload_n 0, 1) := by decide +kernel
theorem dX7_drives_110 : decode cX7_drives 110 = .ok (.getfield 29, 3) := by decide +kernel
theorem dX7_drives_113 : decode cX7_drives 113 = .ok (.iload 5, 2) := by decide +kernel
theorem dX7_drives_115 : decode cX7_drives 115 = .ok (.iaload, 1) := by decide +kernel
theorem dX7_drives_116 : decode cX7_drives 116 = .ok (.iconst 2, 1) := by decide +kernel
theorem dX7_drives_117 : decode cX7_drives 117 = .ok (.irem, 1) := by decide +kernel
theorem dX7_drives_118 : decode cX7_drives 118 = .ok (.ifCond .ne 26, 3) := by decide +kernel
theorem dX7_drives_121 : decode cX7_drives 121 = .ok (.aload_n 0, 1) := by decide +kernel
theorem dX7_drives_122 : decode cX7_drives 122 = .ok (.iload 6, 2) := by decide +kernel
theorem dX7_drives_124 : decode cX7_drives 124 = .ok (.iconst 2, 1) := by decide +kernel
theorem dX7_drives_125 : decode cX7_drives 125 = .ok (.invokevirtual 59, 3) := by decide +kernel
theorem dX7_drives_128 : decode cX7_drives 128 = .ok (.iload_n 3, 1) := by decide +kernel
theorem dX7_drives_129 : decode cX7_drives 129 = .ok (.if_icmp .le 15, 3) := by decide +kernel
theorem dX7_drives_132 : decode cX7_drives 132 = .ok (.aload_n 0, 1) := by decide +kernel
theorem dX7_drives_133 : decode cX7_drives 133 = .ok (.iload 6, 2) := by decide +kernel
theorem dX7_drives_135 : decode cX7_drives 135 = .ok (.iconst 2, 1) := by decide +kernel
theorem dX7_drives_136 : decode cX7_drives 136 = .ok (.invokevirtual 59, 3) := by decide +kernel
theorem dX7_drives_139 : decode cX7_drives 139 = .ok (.iload_n 3, 1) := by decide +kernel
theorem dX7_drives_140 : decode cX7_drives 140 = .ok (.isub, 1) := by decide +kernel
theorem dX7_drives_141 : decode cX7_drives 141 = .ok (.goto 4, 3) := by decide +kernel
theorem dX7_drives_144 : decode cX7_drives 144 = .ok (.iconst 0, 1) := by decide +kernel
theorem dX7_drives_145 : decode cX7_drives 145 = .ok (.iastore, 1) := by decide +kernel
theorem dX7_drives_146 : decode cX7_drives 146 = .ok (.aload_n 0, 1) := by decide +kernel
theorem dX7_drives_147 : decode cX7_drives 147 = .ok (.getfield 32, 3) := by decide +kernel
theorem dX7_drives_150 : decode cX7_drives 150 = .ok (.iload 5, 2) := by decide +kernel
theorem dX7_drives_152 : decode cX7_drives 152 = .ok (.iload_n 3, 1) := by decide +kernel
theorem dX7_drives_153 : decode cX7_drives 153 = .ok (.aload_n 0, 1) := by decide +kernel
theorem dX7_drives_154 : decode cX7_drives 154 = .ok (.getfield 35, 3) := by decide +kernel
theorem dX7_drives_157 : decode cX7_drives 157 = .ok (.iload 5, 2) := by decide +kernel
theorem dX7_drives_159 : decode cX7_drives 159 = .ok (.iaload, 1) := by decide +kernel
theorem dX7_drives_160 : decode cX7_drives 160 = .ok (.iadd, 1) := by decide +kernel
theorem dX7_drives_161 : decode cX7_drives 161 = .ok (.iastore, 1) := by decide +kernel
theorem dX7_drives_162 : decode cX7_drives 162 = .ok (.iload 4, 2) := by decide +kernel
theorem dX7_drives_164 : decode cX7_drives 164 = .ok (.aload_n 0, 1) := by decide +kernel
theorem dX7_drives_165 : decode cX7_drives 165 = .ok (.getfield 29, 3) := by decide +kernel
theorem dX7_drives_168 : decode cX7_drives 168 = .ok (.iload 5, 2) := by decide +kernel
theorem dX7_drives_170 : decode cX7_drives 170 = .ok (.iaload, 1) := by decide +kernel
theorem dX7_drives_171 : decode cX7_drives 171 = .ok (.iconst 2, 1) := by decide +kernel
theorem dX7_drives_172 : decode cX7_drives 172 = .ok (.irem, 1) := by decide +kernel
theorem dX7_drives_173 : decode cX7_drives 173 = .ok (.ifCond .ne 7, 3) := by decide +kernel
theorem dX7_drives_176 : decode cX7_drives 176 = .ok (.iconst 1, 1) := by decide +kernel
theorem dX7_drives_177 : decode cX7_drives 177 = .ok (.goto 4, 3) := by decide +kernel
theorem dX7_drives_180 : decode cX7_drives 180 = .ok (.iconst (-1), 1) := by decide +kernel
theorem dX7_drives_181 : decode cX7_drives 181 = .ok (.iadd, 1) := by decide +kernel
theorem dX7_drives_182 : decode cX7_drives 182 = .ok (.istore 4, 2) := by decide +kernel
theorem dX7_drives_184 : decode cX7_drives 184 = .ok (.aload_n 0, 1) := by decide +kernel
theorem dX7_drives_185 : decode cX7_drives 185 = .ok (.getfield 38, 3) := by decide +kernel
theorem dX7_drives_188 : decode cX7_drives 188 = .ok (.iload 5, 2) := by decide +kernel
theorem dX7_drives_190 : decode cX7_drives 190 = .ok (.iload 4, 2) := by decide +kernel
theorem dX7_drives_192 : decode cX7_drives 192 = .ok (.iastore, 1) := by decide +kernel
theorem dX7_drives_193 : decode cX7_drives 193 = .ok (.aload_n 0, 1) := by decide +kernel
theorem dX7_drives_194 : decode cX7_drives 194 = .ok (.aload_n 0, 1) := by decide +kernel
theorem dX7_drives_195 : decode cX7_drives 195 = .ok (.getfield 75, 3) := by decide +kernel
theorem dX7_drives_198 : decode cX7_drives 198 = .ok (.ifCond .eq 46, 3) := by decide +kernel
theorem dX7_drives_201 : decode cX7_drives 201 = .ok (.iload 4, 2) := by decide +kernel
theorem dX7_drives_203 : decode cX7_drives 203 = .ok (.aload_n 0, 1) := by decide +kernel
theorem dX7_drives_204 : decode cX7_drives 204 = .ok (.getfield 7, 3) := by decide +kernel
theorem dX7_drives_207 : decode cX7_drives 207 = .ok (.iconst 0, 1) := by decide +kernel
theorem dX7_drives_208 : decode cX7_drives 208 = .ok (.iaload, 1) := by decide +kernel
theorem dX7_drives_209 : decode cX7_drives 209 = .ok (.if_icmp .gt 35, 3) := by decide +kernel
theorem dX7_drives_212 : decode cX7_drives 212 = .ok (.aload_n 0, 1) := by decide +kernel
theorem dX7_drives_213 : decode cX7_drives 213 = .ok (.getfield 29, 3) := by decide +kernel
theorem dX7_drives_216 : decode cX7_drives 216 = .ok (.iload 5, 2) := by decide +kernel
theorem dX7_drives_218 : decode cX7_drives 218 = .ok (.iaload, 1) := by decide +kernel
theorem dX7_drives_219 : decode cX7_drives 219 = .ok (.iconst 2, 1) := by decide +kernel
theorem dX7_drives_220 : decode cX7_drives 220 = .ok (.irem, 1) := by decide +kernel
theorem dX7_drives_221 : decode cX7_drives 221 = .ok (.ifCond .eq 19, 3) := by decide +kernel
theorem dX7_drives_224 : decode cX7_drives 224 = .ok (.aload_n 0, 1) := by decide +kernel
theorem dX7_drives_225 : decode cX7_drives 225 = .ok (.iload 6, 2) := by decide +kernel
theorem dX7_drives_227 : decode cX7_drives 227 = .ok (.aload_n 0, 1) := by decide +kernel
theorem dX7_drives_228 : decode cX7_drives 228 = .ok (.getfield 32, 3) := by decide +kernel
theorem dX7_drives_231 : decode cX7_drives 231 = .ok (.iload 5, 2) := by decide +kernel
theorem dX7_drives_233 : decode cX7_drives 233 = .ok (.iaload, 1) := by decide +kernel
theorem dX7_drives_234 : decode cX7_drives 234 = .ok (.invokevirtual 83, 3) := by decide +kernel
theorem dX7_drives_237 : decode cX7_drives 237 = .ok (.ifCond .eq 7, 3) := by decide +kernel
theorem dX7_drives_240 : decode cX7_drives 240 = .ok (.iconst 1, 1) := by decide +kernel
theorem dX7_drives_241 : decode cX7_drives 241 = .ok (.goto 4, 3) := by decide +kernel
theorem dX7_drives_244 : decode cX7_drives 244 = .ok (.iconst 0, 1) := by decide +kernel
theorem dX7_drives_245 : decode cX7_drives 245 = .ok (.putfield 75, 3) := by decide +kernel
theorem dX7_drives_248 : decode cX7_drives 248 = .ok (.aload_n 0, 1) := by decide +kernel
theorem dX7_drives_249 : decode cX7_drives 249 = .ok (.getfield 32, 3) := by decide +kernel
theorem dX7_drives_252 : decode cX7_drives 252 = .ok (.iload 5, 2) := by decide +kernel
theorem dX7_drives_254 : decode cX7_drives 254 = .ok (.iaload, 1) := by decide +kernel
theorem dX7_drives_255 : decode cX7_drives 255 = .ok (.aload_n 0, 1) := by decide +kernel
theorem dX7_drives_256 : decode cX7_drives 256 = .ok (.getfield 7, 3) := by decide +kernel
theorem dX7_drives_259 : decode cX7_drives 259 = .ok (.iconst 2, 1) := by decide +kernel
theorem dX7_drives_260 : decode cX7_drives 260 = .ok (.iaload, 1) := by decide +kernel
theorem dX7_drives_261 : decode cX7_drives 261 = .ok (.iadd, 1) := by decide +kernel
theorem dX7_drives_262 : decode cX7_drives 262 = .ok (.istore_n 3, 1) := by decide +kernel
theorem dX7_drives_263 : decode cX7_drives 263 = .ok (.iload 7, 2) := by decide +kernel
theorem dX7_drives_265 : decode cX7_drives 265 = .ok (.istore_n 2, 1) := by decide +kernel
theorem dX7_drives_266 : decode cX7_drives 266 = .ok (.iinc 5 1, 3) := by decide +kernel
theorem dX7_drives_269 : decode cX7_drives 269 = .ok (.goto (-225), 3) := by decide +kernel
theorem dX7_drives_272 : decode cX7_drives 272 = .ok (.aload_n 0, 1) := by decide +kernel
theorem dX7_drives_273 : decode cX7_drives 273 = .ok (.iload_n 3, 1) := by decide +kernel
theorem dX7_drives_274 : decode cX7_drives 274 = .ok (.putfield 87, 3) := by decide +kernel
theorem dX7_drives_277 : decode cX7_drives 277 = .ok (.return_, 1) := by decide +kernel
set_option maxRecDepth 20000 in
theorem ggX7_drives_X7_isInTime : GoodIn wsX7_drives wsX7_isInTime := goodIn_r _ [33, 7, 1, 34, 35, 36, 13, 37, 4, 5, 15, 16, 17, 18, 38, 39, 40, 41, 23, 24, 25, 26, 27, 28, 29, 42, 43, 44, 45, 46, 47, 48, 49, 50, 51, 52, 53, 54, 55, 56, 57, 58, 59, 60, 61, 62, 63, 64, 65, 66, 67] (by decide +kernel) (by decide +kernel)
set_option maxRecDepth 20000 in
theorem gX7_drives_X7_isInTime : GoodIn wsX7_drives (wsV RX7 83 RX7 yX7_isInTime wsX7_isInTime) := goodIn_app (goodIn_of _ (by decide +kernel)) ggX7_drives_X7_isInTime
set_option maxRecDepth 20000 in
theorem ggX7_drives_X7_stopOf : GoodIn wsX7_drives wsX7_stopOf := goodIn_r _ [22, 15, 16, 17, 13, 18, 1, 42, 43, 44, 45, 46, 47, 48, 49, 50, 51, 52, 53, 54, 55, 56, 57, 58, 59, 60, 61, 62, 63, 64, 65, 66, 67] (by decide +kernel) (by decide +kernel)
set_option maxRecDepth 20000 in
theorem gX7_drives_X7_stopOf : GoodIn wsX7_drives (wsV RX7 79 RX7 yX7_stopOf wsX7_stopOf) := goodIn_app (goodIn_of _ (by decide +kernel)) ggX7_drives_X7_stopOf
set_option maxRecDepth 20000 in
theorem ggX7_drives_X7_drive : GoodIn wsX7_drives wsX7_drive := goodIn_r _ [26, 1, 27, 28, 13, 29, 42, 43, 44, 45, 46, 47, 48, 49, 50, 51, 52, 53, 54, 55, 56, 57, 58, 59, 60, 61, 62, 63, 64, 65, 66, 67] (by decide +kernel) (by decide +kernel)
set_option maxRecDepth 20000 in
theorem gX7_drives_X7_drive : GoodIn wsX7_drives (wsV RX7 62 RX7 yX7_drive wsX7_drive) := goodIn_app (goodIn_of _ (by decide +kernel)) ggX7_drives_X7_drive
set_option maxRecDepth 20000 in
theorem ggX7_drives_X7_of : GoodIn wsX7_drives wsX7_of := goodIn_r _ [18, 1, 42, 43, 44, 45, 46, 47, 48, 49, 50, 51, 52, 53, 54, 55, 56, 57, 58, 59, 60, 61, 62, 63, 64, 65, 66, 67] (by decide +kernel) (by decide +kernel)
set_option maxRecDepth 20000 in
theorem gX7_drives_X7_of : GoodIn wsX7_drives (wsV RX7 59 RX7 yX7_of wsX7_of) := goodIn_app (goodIn_of _ (by decide +kernel)) ggX7_drives_X7_of
set_option maxRecDepth 20000 in
theorem ggX7_drives_X7_aboardNow : GoodIn wsX7_drives wsX7_aboardNow := goodIn_r _ [14, 1, 15, 16, 17, 13, 18, 42, 43, 44, 45, 46, 47, 48, 49, 50, 51, 52, 53, 54, 55, 56, 57, 58, 59, 60, 61, 62, 63, 64, 65, 66, 67] (by decide +kernel) (by decide +kernel)
set_option maxRecDepth 20000 in
theorem gX7_drives_X7_aboardNow : GoodIn wsX7_drives (wsV RX7 68 RX7 yX7_aboardNow wsX7_aboardNow) := goodIn_app (goodIn_of _ (by decide +kernel)) ggX7_drives_X7_aboardNow
theorem kX7_drives_7 : Cond.fieldLink RX7 32 "BookedDetoursModel" "times" "[I" ∈ wsX7_drives := List.mem_of_getElem? (i := 7) (by decide +kernel)
theorem kX7_drives_1 : Cond.fieldLink RX7 7 "BookedDetoursModel" "s" "[I" ∈ wsX7_drives := List.mem_of_getElem? (i := 1) (by decide +kernel)
theorem kX7_drives_8 : Cond.fieldLink RX7 38 "BookedDetoursModel" "aboards" "[I" ∈ wsX7_drives := List.mem_of_getElem? (i := 8) (by decide +kernel)
theorem kX7_drives_3 : Cond.fieldLink RX7 75 "BookedDetoursModel" "isKept" "Z" ∈ wsX7_drives := List.mem_of_getElem? (i := 3) (by decide +kernel)
theorem kX7_drives_5 : Cond.fieldLink RX7 29 "BookedDetoursModel" "way" "[I" ∈ wsX7_drives := List.mem_of_getElem? (i := 5) (by decide +kernel)
theorem kX7_drives_6 : Cond.fieldLink RX7 35 "BookedDetoursModel" "waits" "[I" ∈ wsX7_drives := List.mem_of_getElem? (i := 6) (by decide +kernel)
theorem kX7_drives_4 : Cond.fieldLink RX7 65 "BookedDetoursModel" "wayMany" "I" ∈ wsX7_drives := List.mem_of_getElem? (i := 4) (by decide +kernel)
theorem kX7_drives_9 : Cond.fieldLink RX7 87 "BookedDetoursModel" "over" "I" ∈ wsX7_drives := List.mem_of_getElem? (i := 9) (by decide +kernel)
theorem kX7_drives_2 : Cond.fieldLink RX7 72 "BookedDetoursModel" "driven" "I" ∈ wsX7_drives := List.mem_of_getElem? (i := 2) (by decide +kernel)
theorem hX7_drives_X7 : ∀ w ∈ u_ws RX7 TX7 26, w ∈ wsX7_drives := fun _ h => List.mem_cons_of_mem _ (List.mem_append_right _ h)
set_option maxHeartbeats 4000000 in
set_option maxRecDepth 100000 in
theorem w_X7_drives_248 {Z : yZ} (g : yG) (M : Nat → Nat) (fre : Int32) (C : yC Z g cX7_drives 8 wsX7_drives RX7) {post : List va_W → Prop} (HR : yRv Z ({ frames := 4, cells := 0, slots := 0, locals := 88 } : Room) cX7_drives post 0 0) {X44 : MV → Int32 → Int32 → Int32 → Int32 → Prop} (hX44 : ∀ (m : MV) (x2 : Int32) (x3 : Int32) (x4 : Int32) (x5 : Int32), X44 m x2 x3 x4 x5 → yJ Z ({ frames := 4, cells := 0, slots := 0, locals := 88 } : Room) 0 0 ([modW g M m] : List va_W) 44 [(0, .ref (M 0)), (2, .int x2), (3, .int x3), (4, .int x4), (5, .int x5)] []) {K : MV → Prop} (hK : ∀ (m : MV), K m → post ([modW g M m] : List va_W)) (m : MV) (x4 : Int32) (x5 : Int32) (x7 : Int32) (h : wp_X7_drives_248 fre X44 K m x4 x5 x7) : yJ Z ({ frames := 4, cells := 0, slots := 0, locals := 88 } : Room) 0 0 ([modW g M m] : List va_W) 248 [(0, .ref (M 0)), (4, .int x4), (5, .int x5), (7, .int x7)] [] := by
  unfold wp_X7_drives_248 at h
  refine y_aload_n C dX7_drives_248 0 rfl rfl ?_
  refine y_get (Cn := RX7) (T := TX7) (N := 26) (v := .ref (M 8)) C dX7_drives_249 hX7_drives_X7 0 (sh_5000 g M m) rfl 11 (Nat.le_of_ble_eq_true rfl) kX7_drives_7 rfl ?_
  refine y_iload C dX7_drives_252 2 rfl ?_
  obtain ⟨hb1, h⟩ := h
  refine y_iald (N := 36) (f := (m.2 11)) C dX7_drives_254 8 (sh_5012 g M m) hb1 ?_
  refine y_aload_n C dX7_drives_255 0 rfl rfl ?_
  refine y_get (Cn := RX7) (T := TX7) (N := 26) (v := .ref (M 1)) C dX7_drives_256 hX7_drives_X7 0 (sh_5000 g M m) rfl 1 (Nat.le_of_ble_eq_true rfl) kX7_drives_1 rfl ?_
  refine y_iconst (v := 2) C dX7_drives_259 (by decide) ?_
  obtain ⟨hb2, h⟩ := h
  refine y_iald (N := 186) (f := (m.2 1)) C dX7_drives_260 1 (sh_5001 g M m) hb2 ?_
  refine y_iadd C dX7_drives_261 ?_
  refine y_istore_n (lv' := [(3, .int (((m.2 11) x5.toNatClampNeg) + ((m.2 1) (2 : Int32).toNatClampNeg))), (0, .ref (M 0)), (4, .int x4), (5, .int x5), (7, .int x7)]) C dX7_drives_262 rfl (Nat.le_of_ble_eq_true rfl) rfl ?_
  refine y_iload C dX7_drives_263 4 rfl ?_
  refine y_istore_n (lv' := [(2, .int x7), (3, .int (((m.2 11) x5.toNatClampNeg) + ((m.2 1) (2 : Int32).toNatClampNeg))), (0, .ref (M 0)), (4, .int x4), (5, .int x5), (7, .int x7)]) C dX7_drives_265 rfl (Nat.le_of_ble_eq_true rfl) rfl ?_
  refine y_iinc (v := (x5 + (1 : Int32))) (lv' := [(5, .int (x5 + (1 : Int32))), (2, .int x7), (3, .int (((m.2 11) x5.toNatClampNeg) + ((m.2 1) (2 : Int32).toNatClampNeg))), (0, .ref (M 0)), (4, .int x4), (7, .int x7)]) C dX7_drives_266 4 rfl rfl (Nat.le_of_ble_eq_true rfl) rfl ?_
  refine y_goto (tgt := 44) C dX7_drives_269 rfl ?_
  refine y_sub (lv' := [(0, .ref (M 0)), (2, .int x7), (3, .int (((m.2 11) x5.toNatClampNeg) + ((m.2 1) (2 : Int32).toNatClampNeg))), (4, .int x4), (5, .int (x5 + (1 : Int32)))]) [3, 1, 2, 4, 0] rfl ?_
  exact hX44 _ _ _ _ _ h
set_option maxHeartbeats 4000000 in
set_option maxRecDepth 100000 in
theorem w_X7_drives_184 {Z : yZ} (g : yG) (M : Nat → Nat) (fre : Int32) (C : yC Z g cX7_drives 8 wsX7_drives RX7) {post : List va_W → Prop} (HR : yRv Z ({ frames := 4, cells := 0, slots := 0, locals := 88 } : Room) cX7_drives post 0 0) {X44 : MV → Int32 → Int32 → Int32 → Int32 → Prop} (hX44 : ∀ (m : MV) (x2 : Int32) (x3 : Int32) (x4 : Int32) (x5 : Int32), X44 m x2 x3 x4 x5 → yJ Z ({ frames := 4, cells := 0, slots := 0, locals := 88 } : Room) 0 0 ([modW g M m] : List va_W) 44 [(0, .ref (M 0)), (2, .int x2), (3, .int x3), (4, .int x4), (5, .int x5)] []) {K : MV → Prop} (hK : ∀ (m : MV), K m → post ([modW g M m] : List va_W)) (m : MV) (x4 : Int32) (x5 : Int32) (x6 : Int32) (x7 : Int32) (h : wp_X7_drives_184 fre X44 K m x4 x5 x6 x7) : yJ Z ({ frames := 4, cells := 0, slots := 0, locals := 88 } : Room) 0 0 ([modW g M m] : List va_W) 184 [(0, .ref (M 0)), (4, .int x4), (5, .int x5), (6, .int x6), (7, .int x7)] [] := by
  unfold wp_X7_drives_184 at h
  refine y_aload_n C dX7_drives_184 0 rfl rfl ?_
  refine y_get (Cn := RX7) (T := TX7) (N := 26) (v := .ref (M 10)) C dX7_drives_185 hX7_drives_X7 0 (sh_5000 g M m) rfl 13 (Nat.le_of_ble_eq_true rfl) kX7_drives_8 rfl ?_
  refine y_iload C dX7_drives_188 2 rfl ?_
  refine y_iload C dX7_drives_190 1 rfl ?_
  obtain ⟨hb1, h⟩ := h
  obtain ⟨m2, em2⟩ : ∃ z : MV, z = mA m 13 x5.toNatClampNeg x4 := ⟨_, rfl⟩
  have h := y_letP h em2
  refine y_iast (N := 36) (f := (m.2 13)) (L1 := ([modW g M m2] : List va_W)) C dX7_drives_192 10 (sh_5018 g M m) hb1 (sh_5019 g M m x5.toNatClampNeg x4 m2 em2) ?_
  refine y_aload_n C dX7_drives_193 0 rfl rfl ?_
  refine y_aload_n C dX7_drives_194 0 rfl rfl ?_
  refine y_get (Cn := RX7) (T := TX7) (N := 26) (v := .int (m2.1 16)) C dX7_drives_195 hX7_drives_X7 0 (sh_5000 g M m2) rfl 16 (Nat.le_of_ble_eq_true rfl) kX7_drives_3 rfl ?_
  refine y_if_eq (tgt := 244) C dX7_drives_198 rfl h (fun c198 h => ?_) (fun c198 h => ?_)
  · refine y_iconst (v := 0) C dX7_drives_244 (by decide) ?_
    obtain ⟨m3, em3⟩ : ∃ z : MV, z = mI m2 16 (0 : Int32) := ⟨_, rfl⟩
    have h := y_letP h em3
    refine y_put (Cn := RX7) (T := TX7) (N := 26) (v := .int (0 : Int32)) (ty0 := tyX7) (L1 := ([modW g M m3] : List va_W)) C dX7_drives_245 hX7_drives_X7 0 (sh_5000 g M m2) rfl 16 (Nat.le_of_ble_eq_true rfl) kX7_drives_3 tyX7_ok nmX7 rfl rfl rfl (Nat.le_of_ble_eq_true rfl) (sh_5020 g M m2 (0 : Int32) m3 em3) ?_
    refine y_sub (lv' := [(0, .ref (M 0)), (4, .int x4), (5, .int x5), (7, .int x7)]) [0, 1, 2, 4] rfl ?_
    exact w_X7_drives_248 g M fre C HR hX44 hK _ _ _ _ h
  · refine y_iload C dX7_drives_201 1 rfl ?_
    refine y_aload_n C dX7_drives_203 0 rfl rfl ?_
    refine y_get (Cn := RX7) (T := TX7) (N := 26) (v := .ref (M 1)) C dX7_drives_204 hX7_drives_X7 0 (sh_5000 g M m2) rfl 1 (Nat.le_of_ble_eq_true rfl) kX7_drives_1 rfl ?_
    refine y_iconst (v := 0) C dX7_drives_207 (by decide) ?_
    obtain ⟨hb4, h⟩ := h
    refine y_iald (N := 186) (f := (m2.2 1)) C dX7_drives_208 1 (sh_5001 g M m2) hb4 ?_
    refine y_icmp_gt (tgt := 244) C dX7_drives_209 rfl h (fun c209 h => ?_) (fun c209 h => ?_)
    · refine y_iconst (v := 0) C dX7_drives_244 (by decide) ?_
      obtain ⟨m5, em5⟩ : ∃ z : MV, z = mI m2 16 (0 : Int32) := ⟨_, rfl⟩
      have h := y_letP h em5
      refine y_put (Cn := RX7) (T := TX7) (N := 26) (v := .int (0 : Int32)) (ty0 := tyX7) (L1 := ([modW g M m5] : List va_W)) C dX7_drives_245 hX7_drives_X7 0 (sh_5000 g M m2) rfl 16 (Nat.le_of_ble_eq_true rfl) kX7_drives_3 tyX7_ok nmX7 rfl rfl rfl (Nat.le_of_ble_eq_true rfl) (sh_5020 g M m2 (0 : Int32) m5 em5) ?_
      refine y_sub (lv' := [(0, .ref (M 0)), (4, .int x4), (5, .int x5), (7, .int x7)]) [0, 1, 2, 4] rfl ?_
      exact w_X7_drives_248 g M fre C HR hX44 hK _ _ _ _ h
    · refine y_aload_n C dX7_drives_212 0 rfl rfl ?_
      refine y_get (Cn := RX7) (T := TX7) (N := 26) (v := .ref (M 7)) C dX7_drives_213 hX7_drives_X7 0 (sh_5000 g M m2) rfl 9 (Nat.le_of_ble_eq_true rfl) kX7_drives_5 rfl ?_
      refine y_iload C dX7_drives_216 2 rfl ?_
      obtain ⟨hb6, h⟩ := h
      refine y_iald (N := 36) (f := (m2.2 9)) C dX7_drives_218 7 (sh_5011 g M m2) hb6 ?_
      refine y_iconst (v := 2) C dX7_drives_219 (by decide) ?_
      refine y_irem C dX7_drives_220 (by decide) ?_
      refine y_if_eq (tgt := 240) C dX7_drives_221 rfl h (fun c221 h => ?_) (fun c221 h => ?_)
      · refine y_iconst (v := 1) C dX7_drives_240 (by decide) ?_
        refine y_goto (tgt := 245) C dX7_drives_241 rfl ?_
        obtain ⟨m7, em7⟩ : ∃ z : MV, z = mI m2 16 (1 : Int32) := ⟨_, rfl⟩
        have h := y_letP h em7
        refine y_put (Cn := RX7) (T := TX7) (N := 26) (v := .int (1 : Int32)) (ty0 := tyX7) (L1 := ([modW g M m7] : List va_W)) C dX7_drives_245 hX7_drives_X7 0 (sh_5000 g M m2) rfl 16 (Nat.le_of_ble_eq_true rfl) kX7_drives_3 tyX7_ok nmX7 rfl rfl rfl (Nat.le_of_ble_eq_true rfl) (sh_5020 g M m2 (1 : Int32) m7 em7) ?_
        refine y_sub (lv' := [(0, .ref (M 0)), (4, .int x4), (5, .int x5), (7, .int x7)]) [0, 1, 2, 4] rfl ?_
        exact w_X7_drives_248 g M fre C HR hX44 hK _ _ _ _ h
      · refine y_aload_n C dX7_drives_224 0 rfl rfl ?_
        refine y_iload C dX7_drives_225 3 rfl ?_
        refine y_aload_n C dX7_drives_227 0 rfl rfl ?_
        refine y_get (Cn := RX7) (T := TX7) (N := 26) (v := .ref (M 8)) C dX7_drives_228 hX7_drives_X7 0 (sh_5000 g M m2) rfl 11 (Nat.le_of_ble_eq_true rfl) kX7_drives_7 rfl ?_
        refine y_iload C dX7_drives_231 2 rfl ?_
        obtain ⟨hb8, h⟩ := h
        refine y_iald (N := 36) (f := (m2.2 11)) C dX7_drives_233 8 (sh_5012 g M m2) hb8 ?_
        refine y_callV (As := [.int x6, .int ((m2.2 11) x5.toNatClampNeg)]) (rest := [.ref (M 0)]) C dX7_drives_234 (u_X7_isInTime g M m2 x6 ((m2.2 11) x5.toNatClampNeg) h) rfl rfl rfl rfl ⟨Nat.le_of_ble_eq_true rfl, Nat.le_of_ble_eq_true rfl⟩ gX7_drives_X7_isInTime (nA := 2) (by decide +kernel) rfl (sh_5010 g M m2) (Nat.le_of_ble_eq_true rfl) ⟨Nat.le_of_ble_eq_true rfl, Nat.le_of_ble_eq_true rfl⟩ [0] [] (nB := 1) rfl (by decide +kernel) (sh_5009 g M m2) (fun r9 w9 hw => ?_)
        obtain ⟨h, rfl⟩ := hw
        refine ⟨([modW g M m2] : List va_W), ⟨(sh_5009 g M m2), rfl, rfl⟩, ?_⟩
        refine y_if_eq (tgt := 244) C dX7_drives_237 rfl h (fun c237 h => ?_) (fun c237 h => ?_)
        · refine y_iconst (v := 0) C dX7_drives_244 (by decide) ?_
          obtain ⟨m10, em10⟩ : ∃ z : MV, z = mI m2 16 (0 : Int32) := ⟨_, rfl⟩
          have h := y_letP h em10
          refine y_put (Cn := RX7) (T := TX7) (N := 26) (v := .int (0 : Int32)) (ty0 := tyX7) (L1 := ([modW g M m10] : List va_W)) C dX7_drives_245 hX7_drives_X7 0 (sh_5000 g M m2) rfl 16 (Nat.le_of_ble_eq_true rfl) kX7_drives_3 tyX7_ok nmX7 rfl rfl rfl (Nat.le_of_ble_eq_true rfl) (sh_5020 g M m2 (0 : Int32) m10 em10) ?_
          refine y_sub (lv' := [(0, .ref (M 0)), (4, .int x4), (5, .int x5), (7, .int x7)]) [0, 1, 2, 4] rfl ?_
          exact w_X7_drives_248 g M fre C HR hX44 hK _ _ _ _ h
        · refine y_iconst (v := 1) C dX7_drives_240 (by decide) ?_
          refine y_goto (tgt := 245) C dX7_drives_241 rfl ?_
          obtain ⟨m11, em11⟩ : ∃ z : MV, z = mI m2 16 (1 : Int32) := ⟨_, rfl⟩
          have h := y_letP h em11
          refine y_put (Cn := RX7) (T := TX7) (N := 26) (v := .int (1 : Int32)) (ty0 := tyX7) (L1 := ([modW g M m11] : List va_W)) C dX7_drives_245 hX7_drives_X7 0 (sh_5000 g M m2) rfl 16 (Nat.le_of_ble_eq_true rfl) kX7_drives_3 tyX7_ok nmX7 rfl rfl rfl (Nat.le_of_ble_eq_true rfl) (sh_5020 g M m2 (1 : Int32) m11 em11) ?_
          refine y_sub (lv' := [(0, .ref (M 0)), (4, .int x4), (5, .int x5), (7, .int x7)]) [0, 1, 2, 4] rfl ?_
          exact w_X7_drives_248 g M fre C HR hX44 hK _ _ _ _ h
set_option maxHeartbeats 4000000 in
set_option maxRecDepth 100000 in
theorem w_X7_drives_146 {Z : yZ} (g : yG) (M : Nat → Nat) (fre : Int32) (C : yC Z g cX7_drives 8 wsX7_drives RX7) {post : List va_W → Prop} (HR : yRv Z ({ frames := 4, cells := 0, slots := 0, locals := 88 } : Room) cX7_drives post 0 0) {X44 : MV → Int32 → Int32 → Int32 → Int32 → Prop} (hX44 : ∀ (m : MV) (x2 : Int32) (x3 : Int32) (x4 : Int32) (x5 : Int32), X44 m x2 x3 x4 x5 → yJ Z ({ frames := 4, cells := 0, slots := 0, locals := 88 } : Room) 0 0 ([modW g M m] : List va_W) 44 [(0, .ref (M 0)), (2, .int x2), (3, .int x3), (4, .int x4), (5, .int x5)] []) {K : MV → Prop} (hK : ∀ (m : MV), K m → post ([modW g M m] : List va_W)) (m : MV) (x3 : Int32) (x4 : Int32) (x5 : Int32) (x6 : Int32) (x7 : Int32) (h : wp_X7_drives_146 fre X44 K m x3 x4 x5 x6 x7) : yJ Z ({ frames := 4, cells := 0, slots := 0, locals := 88 } : Room) 0 0 ([modW g M m] : List va_W) 146 [(0, .ref (M 0)), (3, .int x3), (4, .int x4), (5, .int x5), (6, .int x6), (7, .int x7)] [] := by
  unfold wp_X7_drives_146 at h
  refine y_aload_n C dX7_drives_146 0 rfl rfl ?_
  refine y_get (Cn := RX7) (T := TX7) (N := 26) (v := .ref (M 8)) C dX7_drives_147 hX7_drives_X7 0 (sh_5000 g M m) rfl 11 (Nat.le_of_ble_eq_true rfl) kX7_drives_7 rfl ?_
  refine y_iload C dX7_drives_150 3 rfl ?_
  refine y_iload_n C dX7_drives_152 1 rfl rfl ?_
  refine y_aload_n C dX7_drives_153 0 rfl rfl ?_
  refine y_get (Cn := RX7) (T := TX7) (N := 26) (v := .ref (M 9)) C dX7_drives_154 hX7_drives_X7 0 (sh_5000 g M m) rfl 12 (Nat.le_of_ble_eq_true rfl) kX7_drives_6 rfl ?_
  refine y_iload C dX7_drives_157 3 rfl ?_
  obtain ⟨hb1, h⟩ := h
  refine y_iald (N := 36) (f := (m.2 12)) C dX7_drives_159 9 (sh_5015 g M m) hb1 ?_
  refine y_iadd C dX7_drives_160 ?_
  obtain ⟨hb2, h⟩ := h
  obtain ⟨m3, em3⟩ : ∃ z : MV, z = mA m 11 x5.toNatClampNeg (x3 + ((m.2 12) x5.toNatClampNeg)) := ⟨_, rfl⟩
  have h := y_letP h em3
  refine y_iast (N := 36) (f := (m.2 11)) (L1 := ([modW g M m3] : List va_W)) C dX7_drives_161 8 (sh_5012 g M m) hb2 (sh_5017 g M m x5.toNatClampNeg (x3 + ((m.2 12) x5.toNatClampNeg)) m3 em3) ?_
  refine y_iload C dX7_drives_162 2 rfl ?_
  refine y_aload_n C dX7_drives_164 0 rfl rfl ?_
  refine y_get (Cn := RX7) (T := TX7) (N := 26) (v := .ref (M 7)) C dX7_drives_165 hX7_drives_X7 0 (sh_5000 g M m3) rfl 9 (Nat.le_of_ble_eq_true rfl) kX7_drives_5 rfl ?_
  refine y_iload C dX7_drives_168 3 rfl ?_
  obtain ⟨hb4, h⟩ := h
  refine y_iald (N := 36) (f := (m3.2 9)) C dX7_drives_170 7 (sh_5011 g M m3) hb4 ?_
  refine y_iconst (v := 2) C dX7_drives_171 (by decide) ?_
  refine y_irem C dX7_drives_172 (by decide) ?_
  refine y_if_ne (tgt := 180) C dX7_drives_173 rfl h (fun c173 h => ?_) (fun c173 h => ?_)
  · refine y_iconst (v := -1) C dX7_drives_180 (by decide) ?_
    refine y_iadd C dX7_drives_181 ?_
    refine y_istore (lv' := [(4, .int (x4 + (-1 : Int32))), (0, .ref (M 0)), (3, .int x3), (5, .int x5), (6, .int x6), (7, .int x7)]) C dX7_drives_182 (Nat.le_of_ble_eq_true rfl) rfl ?_
    refine y_sub (lv' := [(0, .ref (M 0)), (4, .int (x4 + (-1 : Int32))), (5, .int x5), (6, .int x6), (7, .int x7)]) [1, 0, 3, 4, 5] rfl ?_
    exact w_X7_drives_184 g M fre C HR hX44 hK _ _ _ _ _ h
  · refine y_iconst (v := 1) C dX7_drives_176 (by decide) ?_
    refine y_goto (tgt := 181) C dX7_drives_177 rfl ?_
    refine y_iadd C dX7_drives_181 ?_
    refine y_istore (lv' := [(4, .int (x4 + (1 : Int32))), (0, .ref (M 0)), (3, .int x3), (5, .int x5), (6, .int x6), (7, .int x7)]) C dX7_drives_182 (Nat.le_of_ble_eq_true rfl) rfl ?_
    refine y_sub (lv' := [(0, .ref (M 0)), (4, .int (x4 + (1 : Int32))), (5, .int x5), (6, .int x6), (7, .int x7)]) [1, 0, 3, 4, 5] rfl ?_
    exact w_X7_drives_184 g M fre C HR hX44 hK _ _ _ _ _ h
set_option maxHeartbeats 4000000 in
set_option maxRecDepth 100000 in
theorem w_X7_drives_41 {Z : yZ} (g : yG) (M : Nat → Nat) (fre : Int32) (C : yC Z g cX7_drives 8 wsX7_drives RX7) {post : List va_W → Prop} (HR : yRv Z ({ frames := 4, cells := 0, slots := 0, locals := 88 } : Room) cX7_drives post 0 0) {X44 : MV → Int32 → Int32 → Int32 → Int32 → Prop} (hX44 : ∀ (m : MV) (x2 : Int32) (x3 : Int32) (x4 : Int32) (x5 : Int32), X44 m x2 x3 x4 x5 → yJ Z ({ frames := 4, cells := 0, slots := 0, locals := 88 } : Room) 0 0 ([modW g M m] : List va_W) 44 [(0, .ref (M 0)), (2, .int x2), (3, .int x3), (4, .int x4), (5, .int x5)] []) {K : MV → Prop} (hK : ∀ (m : MV), K m → post ([modW g M m] : List va_W)) (m : MV) (x2 : Int32) (x3 : Int32) (x4 : Int32) (h : wp_X7_drives_41 fre X44 K m x2 x3 x4) : yJ Z ({ frames := 4, cells := 0, slots := 0, locals := 88 } : Room) 0 0 ([modW g M m] : List va_W) 41 [(0, .ref (M 0)), (2, .int x2), (3, .int x3), (4, .int x4)] [] := by
  unfold wp_X7_drives_41 at h
  refine y_iconst (v := 0) C dX7_drives_41 (by decide) ?_
  refine y_istore (lv' := [(5, .int (0 : Int32)), (0, .ref (M 0)), (2, .int x2), (3, .int x3), (4, .int x4)]) C dX7_drives_42 (Nat.le_of_ble_eq_true rfl) rfl ?_
  refine y_sub (lv' := [(0, .ref (M 0)), (2, .int x2), (3, .int x3), (4, .int x4), (5, .int (0 : Int32))]) [1, 2, 3, 4, 0] rfl ?_
  exact hX44 _ _ _ _ _ h
set_option maxHeartbeats 4000000 in
set_option maxRecDepth 100000 in
theorem w_X7_drives_44 {Z : yZ} (g : yG) (M : Nat → Nat) (fre : Int32) (C : yC Z g cX7_drives 8 wsX7_drives RX7) {post : List va_W → Prop} (HR : yRv Z ({ frames := 4, cells := 0, slots := 0, locals := 88 } : Room) cX7_drives post 0 0) {X44 : MV → Int32 → Int32 → Int32 → Int32 → Prop} (hX44 : ∀ (m : MV) (x2 : Int32) (x3 : Int32) (x4 : Int32) (x5 : Int32), X44 m x2 x3 x4 x5 → yJ Z ({ frames := 4, cells := 0, slots := 0, locals := 88 } : Room) 0 0 ([modW g M m] : List va_W) 44 [(0, .ref (M 0)), (2, .int x2), (3, .int x3), (4, .int x4), (5, .int x5)] []) {K : MV → Prop} (hK : ∀ (m : MV), K m → post ([modW g M m] : List va_W)) (m : MV) (x2 : Int32) (x3 : Int32) (x4 : Int32) (x5 : Int32) (h : wp_X7_drives_44 fre X44 K m x2 x3 x4 x5) : yJ Z ({ frames := 4, cells := 0, slots := 0, locals := 88 } : Room) 0 0 ([modW g M m] : List va_W) 44 [(0, .ref (M 0)), (2, .int x2), (3, .int x3), (4, .int x4), (5, .int x5)] [] := by
  unfold wp_X7_drives_44 at h
  refine y_iload C dX7_drives_44 4 rfl ?_
  refine y_aload_n C dX7_drives_46 0 rfl rfl ?_
  refine y_get (Cn := RX7) (T := TX7) (N := 26) (v := .int (m.1 10)) C dX7_drives_47 hX7_drives_X7 0 (sh_5000 g M m) rfl 10 (Nat.le_of_ble_eq_true rfl) kX7_drives_4 rfl ?_
  refine y_icmp_ge (tgt := 272) C dX7_drives_50 rfl h (fun c50 h => ?_) (fun c50 h => ?_)
  · refine y_aload_n C dX7_drives_272 0 rfl rfl ?_
    refine y_iload_n C dX7_drives_273 2 rfl rfl ?_
    obtain ⟨m1, em1⟩ : ∃ z : MV, z = mI m 15 x3 := ⟨_, rfl⟩
    have h := y_letP h em1
    refine y_put (Cn := RX7) (T := TX7) (N := 26) (v := .int x3) (ty0 := tyX7) (L1 := ([modW g M m1] : List va_W)) C dX7_drives_274 hX7_drives_X7 0 (sh_5000 g M m) rfl 15 (Nat.le_of_ble_eq_true rfl) kX7_drives_9 tyX7_ok nmX7 rfl rfl rfl (Nat.le_of_ble_eq_true rfl) (sh_5013 g M m x3 m1 em1) ?_
    exact HR 277 dX7_drives_277 _ _ _ _ (Nat.le_of_ble_eq_true rfl) (Nat.le_of_ble_eq_true rfl) (hK _  h)
  · refine y_aload_n C dX7_drives_53 0 rfl rfl ?_
    refine y_get (Cn := RX7) (T := TX7) (N := 26) (v := .ref (M 7)) C dX7_drives_54 hX7_drives_X7 0 (sh_5000 g M m) rfl 9 (Nat.le_of_ble_eq_true rfl) kX7_drives_5 rfl ?_
    refine y_iload C dX7_drives_57 4 rfl ?_
    obtain ⟨hb2, h⟩ := h
    refine y_iald (N := 36) (f := (m.2 9)) C dX7_drives_59 7 (sh_5011 g M m) hb2 ?_
    refine y_iconst (v := 2) C dX7_drives_60 (by decide) ?_
    refine y_idiv C dX7_drives_61 (by decide) ?_
    refine y_istore (lv' := [(6, .int (((m.2 9) x5.toNatClampNeg) / (2 : Int32))), (0, .ref (M 0)), (2, .int x2), (3, .int x3), (4, .int x4), (5, .int x5)]) C dX7_drives_62 (Nat.le_of_ble_eq_true rfl) rfl ?_
    refine y_aload_n C dX7_drives_64 1 rfl rfl ?_
    refine y_aload_n C dX7_drives_65 1 rfl rfl ?_
    refine y_get (Cn := RX7) (T := TX7) (N := 26) (v := .ref (M 7)) C dX7_drives_66 hX7_drives_X7 0 (sh_5000 g M m) rfl 9 (Nat.le_of_ble_eq_true rfl) kX7_drives_5 rfl ?_
    refine y_iload C dX7_drives_69 5 rfl ?_
    obtain ⟨hb3, h⟩ := h
    refine y_iald (N := 36) (f := (m.2 9)) C dX7_drives_71 7 (sh_5011 g M m) hb3 ?_
    refine y_callV (As := [.int ((m.2 9) x5.toNatClampNeg)]) (rest := []) C dX7_drives_72 (u_X7_stopOf g M m ((m.2 9) x5.toNatClampNeg) h) rfl rfl rfl rfl ⟨Nat.le_of_ble_eq_true rfl, Nat.le_of_ble_eq_true rfl⟩ gX7_drives_X7_stopOf (nA := 1) (by decide +kernel) rfl (sh_5010 g M m) (Nat.le_of_ble_eq_true rfl) ⟨Nat.le_of_ble_eq_true rfl, Nat.le_of_ble_eq_true rfl⟩ [0] [] (nB := 1) rfl (by decide +kernel) (sh_5009 g M m) (fun r4 w9 hw => ?_)
    obtain ⟨h, rfl⟩ := hw
    refine ⟨([modW g M m] : List va_W), ⟨(sh_5009 g M m), rfl, rfl⟩, ?_⟩
    refine y_istore (lv' := [(7, .int r4), (6, .int (((m.2 9) x5.toNatClampNeg) / (2 : Int32))), (0, .ref (M 0)), (2, .int x2), (3, .int x3), (4, .int x4), (5, .int x5)]) C dX7_drives_75 (Nat.le_of_ble_eq_true rfl) rfl ?_
    refine y_aload_n C dX7_drives_77 2 rfl rfl ?_
    refine y_dup C dX7_drives_78 rfl ?_
    refine y_get (Cn := RX7) (T := TX7) (N := 26) (v := .int (m.1 14)) C dX7_drives_79 hX7_drives_X7 0 (sh_5000 g M m) rfl 14 (Nat.le_of_ble_eq_true rfl) kX7_drives_2 rfl ?_
    refine y_aload_n C dX7_drives_82 2 rfl rfl ?_
    refine y_iload_n C dX7_drives_83 3 rfl rfl ?_
    refine y_iload C dX7_drives_84 0 rfl ?_
    refine y_callV (As := [.int x2, .int r4]) (rest := [.int (m.1 14), .ref (M 0)]) C dX7_drives_86 (u_X7_drive g M m x2 r4 h) rfl rfl rfl rfl ⟨Nat.le_of_ble_eq_true rfl, Nat.le_of_ble_eq_true rfl⟩ gX7_drives_X7_drive (nA := 2) (by decide +kernel) rfl (sh_5010 g M m) (Nat.le_of_ble_eq_true rfl) ⟨Nat.le_of_ble_eq_true rfl, Nat.le_of_ble_eq_true rfl⟩ [0] [] (nB := 1) rfl (by decide +kernel) (sh_5009 g M m) (fun r5 w9 hw => ?_)
    obtain ⟨h, rfl⟩ := hw
    refine ⟨([modW g M m] : List va_W), ⟨(sh_5009 g M m), rfl, rfl⟩, ?_⟩
    refine y_iadd C dX7_drives_89 ?_
    obtain ⟨m6, em6⟩ : ∃ z : MV, z = mI m 14 ((m.1 14) + r5) := ⟨_, rfl⟩
    have h := y_letP h em6
    refine y_put (Cn := RX7) (T := TX7) (N := 26) (v := .int ((m.1 14) + r5)) (ty0 := tyX7) (L1 := ([modW g M m6] : List va_W)) C dX7_drives_90 hX7_drives_X7 0 (sh_5000 g M m) rfl 14 (Nat.le_of_ble_eq_true rfl) kX7_drives_2 tyX7_ok nmX7 rfl rfl rfl (Nat.le_of_ble_eq_true rfl) (sh_5014 g M m ((m.1 14) + r5) m6 em6) ?_
    refine y_iload_n C dX7_drives_93 4 rfl rfl ?_
    refine y_aload_n C dX7_drives_94 2 rfl rfl ?_
    refine y_iload_n C dX7_drives_95 3 rfl rfl ?_
    refine y_iload C dX7_drives_96 0 rfl ?_
    refine y_callV (As := [.int x2, .int r4]) (rest := [.int x3]) C dX7_drives_98 (u_X7_drive g M m6 x2 r4 h) rfl rfl rfl rfl ⟨Nat.le_of_ble_eq_true rfl, Nat.le_of_ble_eq_true rfl⟩ gX7_drives_X7_drive (nA := 2) (by decide +kernel) rfl (sh_5010 g M m6) (Nat.le_of_ble_eq_true rfl) ⟨Nat.le_of_ble_eq_true rfl, Nat.le_of_ble_eq_true rfl⟩ [0] [] (nB := 1) rfl (by decide +kernel) (sh_5009 g M m6) (fun r7 w9 hw => ?_)
    obtain ⟨h, rfl⟩ := hw
    refine ⟨([modW g M m6] : List va_W), ⟨(sh_5009 g M m6), rfl, rfl⟩, ?_⟩
    refine y_iadd C dX7_drives_101 ?_
    refine y_istore_n (lv' := [(3, .int (x3 + r7)), (7, .int r4), (6, .int (((m.2 9) x5.toNatClampNeg) / (2 : Int32))), (0, .ref (M 0)), (2, .int x2), (4, .int x4), (5, .int x5)]) C dX7_drives_102 rfl (Nat.le_of_ble_eq_true rfl) rfl ?_
    refine y_aload_n C dX7_drives_103 3 rfl rfl ?_
    refine y_get (Cn := RX7) (T := TX7) (N := 26) (v := .ref (M 9)) C dX7_drives_104 hX7_drives_X7 0 (sh_5000 g M m6) rfl 12 (Nat.le_of_ble_eq_true rfl) kX7_drives_6 rfl ?_
    refine y_iload C dX7_drives_107 6 rfl ?_
    refine y_aload_n C dX7_drives_109 3 rfl rfl ?_
    refine y_get (Cn := RX7) (T := TX7) (N := 26) (v := .ref (M 7)) C dX7_drives_110 hX7_drives_X7 0 (sh_5000 g M m6) rfl 9 (Nat.le_of_ble_eq_true rfl) kX7_drives_5 rfl ?_
    refine y_iload C dX7_drives_113 6 rfl ?_
    obtain ⟨hb8, h⟩ := h
    refine y_iald (N := 36) (f := (m6.2 9)) C dX7_drives_115 7 (sh_5011 g M m6) hb8 ?_
    refine y_iconst (v := 2) C dX7_drives_116 (by decide) ?_
    refine y_irem C dX7_drives_117 (by decide) ?_
    refine y_if_ne (tgt := 144) C dX7_drives_118 rfl h (fun c118 h => ?_) (fun c118 h => ?_)
    · refine y_iconst (v := 0) C dX7_drives_144 (by decide) ?_
      obtain ⟨hb9, h⟩ := h
      obtain ⟨m10, em10⟩ : ∃ z : MV, z = mA m6 12 x5.toNatClampNeg (0 : Int32) := ⟨_, rfl⟩
      have h := y_letP h em10
      refine y_iast (N := 36) (f := (m6.2 12)) (L1 := ([modW g M m10] : List va_W)) C dX7_drives_145 9 (sh_5015 g M m6) hb9 (sh_5016 g M m6 x5.toNatClampNeg (0 : Int32) m10 em10) ?_
      refine y_sub (lv' := [(0, .ref (M 0)), (3, .int (x3 + r7)), (4, .int x4), (5, .int x5), (6, .int (((m.2 9) x5.toNatClampNeg) / (2 : Int32))), (7, .int r4)]) [3, 0, 5, 6, 2, 1] rfl ?_
      exact w_X7_drives_146 g M fre C HR hX44 hK _ _ _ _ _ _ h
    · refine y_aload_n C dX7_drives_121 3 rfl rfl ?_
      refine y_iload C dX7_drives_122 2 rfl ?_
      refine y_iconst (v := 2) C dX7_drives_124 (by decide) ?_
      refine y_callV (As := [.int (((m.2 9) x5.toNatClampNeg) / (2 : Int32)), .int (2 : Int32)]) (rest := [.int x5, .ref (M 9)]) C dX7_drives_125 (u_X7_of g M m6 (((m.2 9) x5.toNatClampNeg) / (2 : Int32)) (2 : Int32) h) rfl rfl rfl rfl ⟨Nat.le_of_ble_eq_true rfl, Nat.le_of_ble_eq_true rfl⟩ gX7_drives_X7_of (nA := 2) (by decide +kernel) rfl (sh_5010 g M m6) (Nat.le_of_ble_eq_true rfl) ⟨Nat.le_of_ble_eq_true rfl, Nat.le_of_ble_eq_true rfl⟩ [0] [] (nB := 1) rfl (by decide +kernel) (sh_5009 g M m6) (fun r11 w9 hw => ?_)
      obtain ⟨h, rfl⟩ := hw
      refine ⟨([modW g M m6] : List va_W), ⟨(sh_5009 g M m6), rfl, rfl⟩, ?_⟩
      refine y_iload_n C dX7_drives_128 0 rfl rfl ?_
      refine y_icmp_le (tgt := 144) C dX7_drives_129 rfl h (fun c129 h => ?_) (fun c129 h => ?_)
      · refine y_iconst (v := 0) C dX7_drives_144 (by decide) ?_
        obtain ⟨hb12, h⟩ := h
        obtain ⟨m13, em13⟩ : ∃ z : MV, z = mA m6 12 x5.toNatClampNeg (0 : Int32) := ⟨_, rfl⟩
        have h := y_letP h em13
        refine y_iast (N := 36) (f := (m6.2 12)) (L1 := ([modW g M m13] : List va_W)) C dX7_drives_145 9 (sh_5015 g M m6) hb12 (sh_5016 g M m6 x5.toNatClampNeg (0 : Int32) m13 em13) ?_
        refine y_sub (lv' := [(0, .ref (M 0)), (3, .int (x3 + r7)), (4, .int x4), (5, .int x5), (6, .int (((m.2 9) x5.toNatClampNeg) / (2 : Int32))), (7, .int r4)]) [3, 0, 5, 6, 2, 1] rfl ?_
        exact w_X7_drives_146 g M fre C HR hX44 hK _ _ _ _ _ _ h
      · refine y_aload_n C dX7_drives_132 3 rfl rfl ?_
        refine y_iload C dX7_drives_133 2 rfl ?_
        refine y_iconst (v := 2) C dX7_drives_135 (by decide) ?_
        refine y_callV (As := [.int (((m.2 9) x5.toNatClampNeg) / (2 : Int32)), .int (2 : Int32)]) (rest := [.int x5, .ref (M 9)]) C dX7_drives_136 (u_X7_of g M m6 (((m.2 9) x5.toNatClampNeg) / (2 : Int32)) (2 : Int32) h) rfl rfl rfl rfl ⟨Nat.le_of_ble_eq_true rfl, Nat.le_of_ble_eq_true rfl⟩ gX7_drives_X7_of (nA := 2) (by decide +kernel) rfl (sh_5010 g M m6) (Nat.le_of_ble_eq_true rfl) ⟨Nat.le_of_ble_eq_true rfl, Nat.le_of_ble_eq_true rfl⟩ [0] [] (nB := 1) rfl (by decide +kernel) (sh_5009 g M m6) (fun r14 w9 hw => ?_)
        obtain ⟨h, rfl⟩ := hw
        refine ⟨([modW g M m6] : List va_W), ⟨(sh_5009 g M m6), rfl, rfl⟩, ?_⟩
        refine y_iload_n C dX7_drives_139 0 rfl rfl ?_
        refine y_isub C dX7_drives_140 ?_
        refine y_goto (tgt := 145) C dX7_drives_141 rfl ?_
        obtain ⟨hb15, h⟩ := h
        obtain ⟨m16, em16⟩ : ∃ z : MV, z = mA m6 12 x5.toNatClampNeg (r14 - (x3 + r7)) := ⟨_, rfl⟩
        have h := y_letP h em16
        refine y_iast (N := 36) (f := (m6.2 12)) (L1 := ([modW g M m16] : List va_W)) C dX7_drives_145 9 (sh_5015 g M m6) hb15 (sh_5016 g M m6 x5.toNatClampNeg (r14 - (x3 + r7)) m16 em16) ?_
        refine y_sub (lv' := [(0, .ref (M 0)), (3, .int (x3 + r7)), (4, .int x4), (5, .int x5), (6, .int (((m.2 9) x5.toNatClampNeg) / (2 : Int32))), (7, .int r4)]) [3, 0, 5, 6, 2, 1] rfl ?_
        exact w_X7_drives_146 g M fre C HR hX44 hK _ _ _ _ _ _ h
set_option maxHeartbeats 4000000 in
set_option maxRecDepth 100000 in
theorem l_X7_drives {Z : yZ} (g : yG) (M : Nat → Nat) (fre : Int32) (C : yC Z g cX7_drives 8 wsX7_drives RX7) {post : List va_W → Prop} (HR : yRv Z ({ frames := 4, cells := 0, slots := 0, locals := 88 } : Room) cX7_drives post 0 0) {K : MV → Prop} (hK : ∀ (m : MV), K m → post ([modW g M m] : List va_W)) {I44 : Nat → MV → Int32 → Int32 → Int32 → Int32 → Prop} (o44 : ∀ (w0 : Nat) (m : MV) (x2 : Int32) (x3 : Int32) (x4 : Int32) (x5 : Int32), I44 w0 m x2 x3 x4 x5 → wp_X7_drives_44 fre (fun (m9 : MV) (x29 : Int32) (x39 : Int32) (x49 : Int32) (x59 : Int32) => ∃ w9, w9 < w0 ∧ I44 w9 m9 x29 x39 x49 x59) K m x2 x3 x4 x5) : ∀ w0 : Nat, (∀ (m : MV) (x2 : Int32) (x3 : Int32) (x4 : Int32) (x5 : Int32), I44 w0 m x2 x3 x4 x5 → yJ Z ({ frames := 4, cells := 0, slots := 0, locals := 88 } : Room) 0 0 ([modW g M m] : List va_W) 44 [(0, .ref (M 0)), (2, .int x2), (3, .int x3), (4, .int x4), (5, .int x5)] []) := by
  intro w0
  induction w0 using Nat.strongRecOn with
  | _ w0 ih =>
    exact fun m x2 x3 x4 x5 hi => w_X7_drives_44 g M fre C HR (fun m x2 x3 x4 x5 hq => by obtain ⟨w9, hlt, hi⟩ := hq; exact (ih w9 hlt) m x2 x3 x4 x5 hi) hK m x2 x3 x4 x5 (o44 w0 m x2 x3 x4 x5 hi)
set_option maxHeartbeats 4000000 in
set_option maxRecDepth 100000 in
theorem t_X7_drives (g : yG) (M : Nat → Nat) (m : MV) (fre : Int32) {post : List va_W → Prop} {K : MV → Prop} (hK : ∀ (m : MV), K m → post ([modW g M m] : List va_W)) (hPO : PO_X7_drives fre K m ) : yMv g yX7_drives wsX7_drives ({ frames := 4, cells := 0, slots := 0, locals := 88 } : Room) [.ref (M 0), .int fre] ([modW g M m] : List va_W) post 0 0 := by
  refine y_entryV (cc := cX7_drives) (maxL := 8) (by decide +kernel) rfl (Nat.le_of_ble_eq_true rfl) (fun Z C _ HR => ?_)
  have C : yC Z g cX7_drives 8 wsX7_drives RX7 := C
  obtain ⟨I44, o44, h⟩ := hPO
  have hX44 : ∀ (m : MV) (x2 : Int32) (x3 : Int32) (x4 : Int32) (x5 : Int32), (fun (m9 : MV) (x29 : Int32) (x39 : Int32) (x49 : Int32) (x59 : Int32) => ∃ w9, I44 w9 m9 x29 x39 x49 x59) m x2 x3 x4 x5 → yJ Z ({ frames := 4, cells := 0, slots := 0, locals := 88 } : Room) 0 0 ([modW g M m] : List va_W) 44 [(0, .ref (M 0)), (2, .int x2), (3, .int x3), (4, .int x4), (5, .int x5)] [] := by
    intro m x2 x3 x4 x5 hq
    obtain ⟨w9, hi⟩ := hq
    exact (l_X7_drives g M fre C HR hK o44 w9) m x2 x3 x4 x5 hi
  unfold wp_X7_drives_0 at h
  show yJ Z _ 0 0 _ 0 [(0, .ref (M 0)), (1, .int fre)] []
  refine y_aload_n C dX7_drives_0 0 rfl rfl ?_
  refine y_get (Cn := RX7) (T := TX7) (N := 26) (v := .ref (M 1)) C dX7_drives_1 hX7_drives_X7 0 (sh_5000 g M m) rfl 1 (Nat.le_of_ble_eq_true rfl) kX7_drives_1 rfl ?_
  refine y_bipush (v := 7) C dX7_drives_4 (by decide) ?_
  obtain ⟨hb1, h⟩ := h
  refine y_iald (N := 186) (f := (m.2 1)) C dX7_drives_6 1 (sh_5001 g M m) hb1 ?_
  refine y_istore_n (lv' := [(2, .int ((m.2 1) (7 : Int32).toNatClampNeg)), (0, .ref (M 0)), (1, .int fre)]) C dX7_drives_7 rfl (Nat.le_of_ble_eq_true rfl) rfl ?_
  refine y_iload_n C dX7_drives_8 2 rfl rfl ?_
  refine y_istore_n (lv' := [(3, .int fre), (2, .int ((m.2 1) (7 : Int32).toNatClampNeg)), (0, .ref (M 0)), (1, .int fre)]) C dX7_drives_9 rfl (Nat.le_of_ble_eq_true rfl) rfl ?_
  refine y_aload_n C dX7_drives_10 2 rfl rfl ?_
  refine y_callV (As := []) (rest := []) C dX7_drives_11 (u_X7_aboardNow g M m h) rfl rfl rfl rfl ⟨Nat.le_of_ble_eq_true rfl, Nat.le_of_ble_eq_true rfl⟩ gX7_drives_X7_aboardNow (nA := 0) (by decide +kernel) rfl (sh_5010 g M m) (Nat.le_of_ble_eq_true rfl) ⟨Nat.le_of_ble_eq_true rfl, Nat.le_of_ble_eq_true rfl⟩ [0] [] (nB := 1) rfl (by decide +kernel) (sh_5009 g M m) (fun r2 w9 hw => ?_)
  obtain ⟨h, rfl⟩ := hw
  refine ⟨([modW g M m] : List va_W), ⟨(sh_5009 g M m), rfl, rfl⟩, ?_⟩
  refine y_istore (lv' := [(4, .int r2), (3, .int fre), (2, .int ((m.2 1) (7 : Int32).toNatClampNeg)), (0, .ref (M 0)), (1, .int fre)]) C dX7_drives_14 (Nat.le_of_ble_eq_true rfl) rfl ?_
  refine y_aload_n C dX7_drives_16 3 rfl rfl ?_
  refine y_iconst (v := 0) C dX7_drives_17 (by decide) ?_
  obtain ⟨m3, em3⟩ : ∃ z : MV, z = mI m 14 (0 : Int32) := ⟨_, rfl⟩
  have h := y_letP h em3
  refine y_put (Cn := RX7) (T := TX7) (N := 26) (v := .int (0 : Int32)) (ty0 := tyX7) (L1 := ([modW g M m3] : List va_W)) C dX7_drives_18 hX7_drives_X7 0 (sh_5000 g M m) rfl 14 (Nat.le_of_ble_eq_true rfl) kX7_drives_2 tyX7_ok nmX7 rfl rfl rfl (Nat.le_of_ble_eq_true rfl) (sh_5014 g M m (0 : Int32) m3 em3) ?_
  refine y_aload_n C dX7_drives_21 3 rfl rfl ?_
  refine y_iload C dX7_drives_22 0 rfl ?_
  refine y_aload_n C dX7_drives_24 3 rfl rfl ?_
  refine y_get (Cn := RX7) (T := TX7) (N := 26) (v := .ref (M 1)) C dX7_drives_25 hX7_drives_X7 0 (sh_5000 g M m3) rfl 1 (Nat.le_of_ble_eq_true rfl) kX7_drives_1 rfl ?_
  refine y_iconst (v := 0) C dX7_drives_28 (by decide) ?_
  obtain ⟨hb4, h⟩ := h
  refine y_iald (N := 186) (f := (m3.2 1)) C dX7_drives_29 1 (sh_5001 g M m3) hb4 ?_
  refine y_icmp_gt (tgt := 37) C dX7_drives_30 rfl h (fun c30 h => ?_) (fun c30 h => ?_)
  · refine y_iconst (v := 0) C dX7_drives_37 (by decide) ?_
    obtain ⟨m5, em5⟩ : ∃ z : MV, z = mI m3 16 (0 : Int32) := ⟨_, rfl⟩
    have h := y_letP h em5
    refine y_put (Cn := RX7) (T := TX7) (N := 26) (v := .int (0 : Int32)) (ty0 := tyX7) (L1 := ([modW g M m5] : List va_W)) C dX7_drives_38 hX7_drives_X7 0 (sh_5000 g M m3) rfl 16 (Nat.le_of_ble_eq_true rfl) kX7_drives_3 tyX7_ok nmX7 rfl rfl rfl (Nat.le_of_ble_eq_true rfl) (sh_5020 g M m3 (0 : Int32) m5 em5) ?_
    refine y_sub (lv' := [(0, .ref (M 0)), (2, .int ((m.2 1) (7 : Int32).toNatClampNeg)), (3, .int fre), (4, .int r2)]) [3, 2, 1, 0] rfl ?_
    exact w_X7_drives_41 g M fre C HR hX44 hK _ _ _ _ h
  · refine y_iconst (v := 1) C dX7_drives_33 (by decide) ?_
    refine y_goto (tgt := 38) C dX7_drives_34 rfl ?_
    obtain ⟨m6, em6⟩ : ∃ z : MV, z = mI m3 16 (1 : Int32) := ⟨_, rfl⟩
    have h := y_letP h em6
    refine y_put (Cn := RX7) (T := TX7) (N := 26) (v := .int (1 : Int32)) (ty0 := tyX7) (L1 := ([modW g M m6] : List va_W)) C dX7_drives_38 hX7_drives_X7 0 (sh_5000 g M m3) rfl 16 (Nat.le_of_ble_eq_true rfl) kX7_drives_3 tyX7_ok nmX7 rfl rfl rfl (Nat.le_of_ble_eq_true rfl) (sh_5020 g M m3 (1 : Int32) m6 em6) ?_
    refine y_sub (lv' := [(0, .ref (M 0)), (2, .int ((m.2 1) (7 : Int32).toNatClampNeg)), (3, .int fre), (4, .int r2)]) [3, 2, 1, 0] rfl ?_
    exact w_X7_drives_41 g M fre C HR hX44 hK _ _ _ _ h
theorem u_X7_drives (g : yG) (M : Nat → Nat) (m : MV) (fre : Int32) {K : MV → Prop} (hPO : PO_X7_drives fre K m ) : yMv g yX7_drives wsX7_drives ({ frames := 4, cells := 0, slots := 0, locals := 88 } : Room) [.ref (M 0), .int fre] ([modW g M m] : List va_W) (fun w => ∃ m' : MV, K m' ∧ w = ([modW g M m'] : List va_W)) 0 0 :=
  t_X7_drives g M m fre (fun m hk => ⟨m, hk, rfl⟩) hPO
