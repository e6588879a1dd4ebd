theorem dX6_ifBooked_0 : decode cX6_ifBooked 0 = .ok (.aload_n 0, 1) := by decide +kernel
theorem dX6_ifBooked_1 : decode cX6_ifBooked 1 = .ok (.iload_n 1, 1) := by decide +kernel
theorem dX6_ifBooked_2 : decode cX6_ifBooked 2 = .ok (.iload_n 2, 1) := by decide +kernel
theorem dX6_ifBooked_3 : decode cX6_ifBooked 3 = .ok (.iload_n 3, 1) := by decide +kernel
theorem dX6_ifBooked_4 : decode cX6_ifBooked 4 = .ok (.iload 4, 2) := by decide +kernel
theorem dX6_ifBooked_6 : decode cX6_ifBooked 6 = .ok (.invokevirtual 186, 3) := by decide +kernel
theorem dX6_ifBooked_9 : decode cX6_ifBooked 9 = .ok (.istore 6, 2) := by decide +kernel
theorem dX6_ifBooked_11 : decode cX6_ifBooked 11 = .ok (.iload 6, 2) := by decide +kernel
theorem dX6_ifBooked_13 : decode cX6_ifBooked 13 = .ok (.ifCond .eq 6, 3) := by decide +kernel
theorem dX6_ifBooked_16 : decode cX6_ifBooked 16 = .ok (.iload 6, 2) := by decide +kernel
theorem dX6_ifBooked_18 : decode cX6_ifBooked 18 = .ok (.ireturn, 1) := by decide +kernel
theorem dX6_ifBooked_19 : decode cX6_ifBooked 19 = .ok (.iload 5, 2) := by decide +kernel
theorem dX6_ifBooked_21 : decode cX6_ifBooked 21 = .ok (.ifCond .lt 9, 3) := by decide +kernel
theorem dX6_ifBooked_24 : decode cX6_ifBooked 24 = .ok (.iload 5, 2) := by decide +kernel
theorem dX6_ifBooked_26 : decode cX6_ifBooked 26 = .ok (.iconst 3, 1) := by decide +kernel
theorem dX6_ifBooked_27 : decode cX6_ifBooked 27 = .ok (.if_icmp .le 6, 3) := by decide +kernel
theorem dX6_ifBooked_30 : decode cX6_ifBooked 30 = .ok (.bipush (-2), 2) := by decide +kernel
theorem dX6_ifBooked_32 : decode cX6_ifBooked 32 = .ok (.ireturn, 1) := by decide +kernel
theorem dX6_ifBooked_33 : decode cX6_ifBooked 33 = .ok (.aload_n 0, 1) := by decide +kernel
theorem dX6_ifBooked_34 : decode cX6_ifBooked 34 = .ok (.getfield 26, 3) := by decide +kernel
theorem dX6_ifBooked_37 : decode cX6_ifBooked 37 = .ok (.aload_n 0, 1) := by decide +kernel
theorem dX6_ifBooked_38 : decode cX6_ifBooked 38 = .ok (.getfield 12, 3) := by decide +kernel
theorem dX6_ifBooked_41 : decode cX6_ifBooked 41 = .ok (.iload_n 1, 1) := by decide +kernel
theorem dX6_ifBooked_42 : decode cX6_ifBooked 42 = .ok (.iload_n 2, 1) := by decide +kernel
theorem dX6_ifBooked_43 : decode cX6_ifBooked 43 = .ok (.iload_n 3, 1) := by decide +kernel
theorem dX6_ifBooked_44 : decode cX6_ifBooked 44 = .ok (.iload 4, 2) := by decide +kernel
theorem dX6_ifBooked_46 : decode cX6_ifBooked 46 = .ok (.invokevirtual 189, 3) := by decide +kernel
theorem dX6_ifBooked_49 : decode cX6_ifBooked 49 = .ok (.istore 7, 2) := by decide +kernel
theorem dX6_ifBooked_51 : decode cX6_ifBooked 51 = .ok (.iload 5, 2) := by decide +kernel
theorem dX6_ifBooked_53 : decode cX6_ifBooked 53 = .ok (.iconst 3, 1) := by decide +kernel
theorem dX6_ifBooked_54 : decode cX6_ifBooked 54 = .ok (.if_icmp .ne 11, 3) := by decide +kernel
theorem dX6_ifBooked_57 : decode cX6_ifBooked 57 = .ok (.aload_n 0, 1) := by decide +kernel
theorem dX6_ifBooked_58 : decode cX6_ifBooked 58 = .ok (.getfield 26, 3) := by decide +kernel
theorem dX6_ifBooked_61 : decode cX6_ifBooked 61 = .ok (.getfield 193, 3) := by decide +kernel
theorem dX6_ifBooked_64 : decode cX6_ifBooked 64 = .ok (.ireturn, 1) := by decide +kernel
theorem dX6_ifBooked_65 : decode cX6_ifBooked 65 = .ok (.iload 7, 2) := by decide +kernel
theorem dX6_ifBooked_67 : decode cX6_ifBooked 67 = .ok (.ifCond .ne 6, 3) := by decide +kernel
theorem dX6_ifBooked_70 : decode cX6_ifBooked 70 = .ok (.bipush (-6), 2) := by decide +kernel
theorem dX6_ifBooked_72 : decode cX6_ifBooked 72 = .ok (.ireturn, 1) := by decide +kernel
theorem dX6_ifBooked_73 : decode cX6_ifBooked 73 = .ok (.iload 5, 2) := by decide +kernel
theorem dX6_ifBooked_75 : decode cX6_ifBooked 75 = .ok (.ifCond .ne 20, 3) := by decide +kernel
theorem dX6_ifBooked_78 : decode cX6_ifBooked 78 = .ok (.aload_n 0, 1) := by decide +kernel
theorem dX6_ifBooked_79 : decode cX6_ifBooked 79 = .ok (.getfield 26, 3) := by decide +kernel
theorem dX6_ifBooked_82 : decode cX6_ifBooked 82 = .ok (.getfield 196, 3) := by decide +kernel
theorem dX6_ifBooked_85 : decode cX6_ifBooked 85 = .ok (.aload_n 0, 1) := by decide +kernel
theorem dX6_ifBooked_86 : decode cX6_ifBooked 86 = .ok (.aload_n 0, 1) := by decide +kernel
theorem dX6_ifBooked_87 : decode cX6_ifBooked 87 = .ok (.getfield 12, 3) := by decide +kernel
theorem dX6_ifBooked_90 : decode cX6_ifBooked 90 = .ok (.invokevirtual 171, 3) := by decide +kernel
theorem dX6_ifBooked_93 : decode cX6_ifBooked 93 = .ok (.isub, 1) := by decide +kernel
theorem dX6_ifBooked_94 : decode cX6_ifBooked 94 = .ok (.ireturn, 1) := by decide +kernel
theorem dX6_ifBooked_95 : decode cX6_ifBooked 95 = .ok (.iload 5, 2) := by decide +kernel
theorem dX6_ifBooked_97 : decode cX6_ifBooked 97 = .ok (.iconst 1, 1) := by decide +kernel
theorem dX6_ifBooked_98 : decode cX6_ifBooked 98 = .ok (.if_icmp .ne 13, 3) := by decide +kernel
theorem dX6_ifBooked_101 : decode cX6_ifBooked 101 = .ok (.aload_n 0, 1) := by decide +kernel
theorem dX6_ifBooked_102 : decode cX6_ifBooked 102 = .ok (.getfield 26, 3) := by decide +kernel
theorem dX6_ifBooked_105 : decode cX6_ifBooked 105 = .ok (.getfield 199, 3) := by decide +kernel
theorem dX6_ifBooked_108 : decode cX6_ifBooked 108 = .ok (.goto 10, 3) := by decide +kernel
theorem dX6_ifBooked_111 : decode cX6_ifBooked 111 = .ok (.aload_n 0, 1) := by decide +kernel
theorem dX6_ifBooked_112 : decode cX6_ifBooked 112 = .ok (.getfield 26, 3) := by decide +kernel
theorem dX6_ifBooked_115 : decode cX6_ifBooked 115 = .ok (.getfield 202, 3) := by decide +kernel
theorem dX6_ifBooked_118 : decode cX6_ifBooked 118 = .ok (.ireturn, 1) := by decide +kernel
set_option maxRecDepth 20000 in
theorem ggX6_ifBooked_X6_errorOf : GoodIn wsX6_ifBooked wsX6_errorOf := goodIn_r _ [11, 2, 12, 13, 14, 15, 16, 17, 18, 19, 20, 21, 22, 23, 192, 193, 194, 195, 196, 197, 207, 208, 209, 210, 211, 212, 213, 214, 215, 216, 217, 218, 219, 220, 221, 222, 223] (by decide +kernel) (by decide +kernel)
set_option maxRecDepth 20000 in
theorem gX6_ifBooked_X6_errorOf : GoodIn wsX6_ifBooked (wsV RX6 186 RX6 yX6_errorOf wsX6_errorOf) := goodIn_app (goodIn_of _ (by decide +kernel)) ggX6_ifBooked_X6_errorOf
set_option maxRecDepth 20000 in
theorem ggX6_ifBooked_X4_find : GoodIn wsX6_ifBooked wsX4_find := goodIn_r _ [28, 29, 30, 31, 32, 33, 34, 35, 36, 37, 15, 38, 39, 17, 40, 41, 42, 43, 44, 45, 46, 47, 48, 49, 50, 51, 52, 53, 54, 55, 21, 56, 23, 57, 58, 59, 60, 61, 62, 63, 64, 65, 66, 67, 68, 18, 19, 20, 22, 69, 70, 71, 72, 73, 74, 75, 76, 77, 78, 79, 80, 81, 82, 83, 84, 85, 86, 87, 88, 89, 90, 91, 92, 93, 94, 95, 96, 97, 98, 99, 27, 100, 101, 102, 10, 103, 104, 105, 106, 107, 108, 109, 110, 111, 112, 113, 114, 115, 116, 117, 118, 119, 120, 121, 122, 123, 124, 125, 126, 127, 128, 129, 130, 131, 132, 133, 134, 135, 136, 137, 138, 139, 140, 141, 142, 143, 144, 145, 146, 147, 148, 149, 150, 151, 152, 153, 154, 155, 156, 157, 158, 159, 160, 161, 162, 163, 164, 165, 166, 167, 168, 169, 170, 171, 172, 173, 174, 175, 176, 177, 178, 179, 180, 181, 198, 199, 200, 201, 202, 203, 204, 205, 206, 207, 208, 209, 210, 211, 212, 213, 214, 215, 216, 217, 218, 219, 220, 221, 222, 223, 224, 225, 226, 227, 228, 229, 230, 231, 232, 233] (by decide +kernel) (by decide +kernel)
set_option maxRecDepth 20000 in
theorem gX6_ifBooked_X4_find : GoodIn wsX6_ifBooked (wsV RX6 189 RX4 yX4_find wsX4_find) := goodIn_app (goodIn_of _ (by decide +kernel)) ggX6_ifBooked_X4_find
set_option maxRecDepth 20000 in
theorem ggX6_ifBooked_X6_overOf : GoodIn wsX6_ifBooked wsX6_overOf := goodIn_r _ [185, 186, 187, 188, 189, 190, 110, 191, 112, 113, 114, 115, 116, 117, 118, 119, 120, 121, 122, 123, 124, 125, 126, 127, 128, 129, 130, 131, 132, 133, 21, 134, 23, 135, 54, 55, 56, 57, 58, 59, 60, 61, 136, 137, 138, 15, 139, 46, 18, 19, 20, 22, 88, 89, 90, 91, 140, 141, 142, 143, 144, 145, 146, 147, 67, 68, 148, 149, 150, 10, 151, 152, 153, 154, 155, 156, 157, 42, 41, 158, 82, 83, 84, 17, 85, 86, 87, 40, 159, 74, 75, 76, 77, 78, 79, 80, 160, 161, 162, 163, 164, 165, 166, 167, 168, 192, 193, 194, 195, 196, 197, 224, 225, 226, 227, 228, 229, 230, 231, 232, 233, 207, 208, 209, 210, 211, 212, 213, 214, 215, 216, 217, 218, 219, 220, 221, 222, 223] (by decide +kernel) (by decide +kernel)
set_option maxRecDepth 20000 in
theorem gX6_ifBooked_X6_overOf : GoodIn wsX6_ifBooked (wsV RX6 171 RX6 yX6_overOf wsX6_overOf) := goodIn_app (goodIn_of _ (by decide +kernel)) ggX6_ifBooked_X6_overOf
theorem kX6_ifBooked_1 : Cond.fieldLink RX6 26 "BookedDetours" "search" "LBookedDetours$Search;" ∈ wsX6_ifBooked := List.mem_of_getElem? (i := 1) (by decide +kernel)
theorem kX6_ifBooked_2 : Cond.fieldLink RX6 12 "BookedDetours" "day" "LBookedDetours$Day;" ∈ wsX6_ifBooked := List.mem_of_getElem? (i := 2) (by decide +kernel)
theorem kX6_ifBooked_6 : Cond.fieldLink RX6 202 "BookedDetours$Search" "downTime" "I" ∈ wsX6_ifBooked := List.mem_of_getElem? (i := 6) (by decide +kernel)
theorem kX6_ifBooked_5 : Cond.fieldLink RX6 199 "BookedDetours$Search" "pickTime" "I" ∈ wsX6_ifBooked := List.mem_of_getElem? (i := 5) (by decide +kernel)
theorem kX6_ifBooked_4 : Cond.fieldLink RX6 196 "BookedDetours$Search" "over" "I" ∈ wsX6_ifBooked := List.mem_of_getElem? (i := 4) (by decide +kernel)
theorem kX6_ifBooked_3 : Cond.fieldLink RX6 193 "BookedDetours$Search" "ways" "I" ∈ wsX6_ifBooked := List.mem_of_getElem? (i := 3) (by decide +kernel)
theorem hX6_ifBooked_X6 : ∀ w ∈ u_ws RX6 TX6 6, w ∈ wsX6_ifBooked := fun _ h => List.mem_cons_of_mem _ (List.mem_append_left _ (List.mem_append_left _ (List.mem_append_left _ (List.mem_append_left _ (List.mem_append_right _ h)))))
theorem hX6_ifBooked_X4 : ∀ w ∈ u_ws RX4 TX4 9, w ∈ wsX6_ifBooked := fun _ h => List.mem_cons_of_mem _ (List.mem_append_left _ (List.mem_append_left _ (List.mem_append_left _ (List.mem_append_right _ h))))
set_option maxHeartbeats 4000000 in
set_option maxRecDepth 100000 in
theorem c_X6_ifBooked (g : yG) (x rp rh rl : Nat) (A : Nat → Nat) (d : RV) (G : Nat → Nat → Int32) (T : Nat → Nat) (t : RV) (GT : Nat → Nat → Int32) (S : Nat) (sv : RV) (SA : Nat → Nat) (sd : RV) (SG : Nat → Nat → Int32) (ST : Nat → Nat) (st : RV) (SGT : Nat → Nat → Int32) (fr : Int32) (to : Int32) (wa : Int32) (bt : Int32) (wh : Int32) : yM g yX6_ifBooked wsX6_ifBooked ({ frames := 5, cells := 0, slots := 0, locals := 123 } : Room) [.ref x, .int fr, .int to, .int wa, .int bt, .int wh] ([mnC x (A 0) (T 0) S rp rh rl, dayC A d, tabC T t, seaC S (SA 0) (ST 0) sv, dayC SA sd, tabC ST st] ++ (dayR g A d G ++ (tabR g T t GT ++ (dayR g SA sd SG ++ tabR g ST st SGT))) : List va_W) (fun r w => r = (f_X6_ifBooked d t sv sd st fr to wa bt wh).1 ∧ ∃ t' : RV, ∃ sv' : RV, ∃ sd' : RV, ∃ st' : RV, ∃ GT' : Nat → Nat → Int32, ∃ SG' : Nat → Nat → Int32, ∃ SGT' : Nat → Nat → Int32, t' = (f_X6_ifBooked d t sv sd st fr to wa bt wh).2.1 ∧ sv' = (f_X6_ifBooked d t sv sd st fr to wa bt wh).2.2.1 ∧ sd' = (f_X6_ifBooked d t sv sd st fr to wa bt wh).2.2.2.1 ∧ st' = (f_X6_ifBooked d t sv sd st fr to wa bt wh).2.2.2.2 ∧ w = ([mnC x (A 0) (T 0) S rp rh rl, dayC A d, tabC T t', seaC S (SA 0) (ST 0) sv', dayC SA sd', tabC ST st'] ++ (dayR g A d G ++ (tabR g T t' GT' ++ (dayR g SA sd' SG' ++ tabR g ST st' SGT'))) : List va_W)) 0 0 := by
  refine y_entryI (cc := cX6_ifBooked) (maxL := 8) (by decide +kernel) rfl (Nat.le_of_ble_eq_true rfl) (fun Z C HR => ?_)
  have C : yC Z g cX6_ifBooked 8 wsX6_ifBooked RX6 := C
  have h := f_X6_ifBooked.eq_1 d t sv sd st fr to wa bt wh
  show yJ Z _ 0 0 _ 0 [(0, .ref x), (1, .int fr), (2, .int to), (3, .int wa), (4, .int bt), (5, .int wh)] []
  refine y_aload_n C dX6_ifBooked_0 0 rfl rfl ?_
  refine y_iload_n C dX6_ifBooked_1 1 rfl rfl ?_
  refine y_iload_n C dX6_ifBooked_2 2 rfl rfl ?_
  refine y_iload_n C dX6_ifBooked_3 3 rfl rfl ?_
  refine y_iload C dX6_ifBooked_4 4 rfl ?_
  refine y_callV (As := [.int fr, .int to, .int wa, .int bt]) (rest := []) C dX6_ifBooked_6 (c_X6_errorOf g x (T 0) S rp rh rl A d G fr to wa bt) rfl rfl rfl rfl ⟨Nat.le_of_ble_eq_true rfl, Nat.le_of_ble_eq_true rfl⟩ gX6_ifBooked_X6_errorOf (nA := 4) (by decide +kernel) rfl (sh_147 g x (A 0) (T 0) S rp rh rl A d G) (Nat.le_of_ble_eq_true rfl) ⟨Nat.le_of_ble_eq_true rfl, Nat.le_of_ble_eq_true rfl⟩ [0, 1, 6, 7, 8, 9, 10, 11, 12, 13, 14, 15, 16, 17] [2, 3, 4, 5, 18, 19, 20, 21, 22, 23, 24, 25, 26, 27, 28, 29, 30, 31, 32, 33, 34, 35, 36, 37, 38, 39] (nB := 40) rfl (by decide +kernel) (sh_226 g x (A 0) (T 0) S rp rh rl A d G T t GT S (SA 0) (ST 0) sv SA sd SG ST st SGT) (fun r1 w9 hw => ?_)
  obtain ⟨er1, rfl⟩ := hw
  have h := y_letF h er1
  refine ⟨([mnC x (A 0) (T 0) S rp rh rl, dayC A d, tabC T t, seaC S (SA 0) (ST 0) sv, dayC SA sd, tabC ST st] ++ (dayR g A d G ++ (tabR g T t GT ++ (dayR g SA sd SG ++ tabR g ST st SGT))) : List va_W), ⟨(sh_226 g x (A 0) (T 0) S rp rh rl A d G T t GT S (SA 0) (ST 0) sv SA sd SG ST st SGT), rfl, rfl⟩, ?_⟩
  refine y_istore (lv' := [(6, .int r1), (0, .ref x), (1, .int fr), (2, .int to), (3, .int wa), (4, .int bt), (5, .int wh)]) C dX6_ifBooked_9 (Nat.le_of_ble_eq_true rfl) rfl ?_
  refine y_iload C dX6_ifBooked_11 0 rfl ?_
  refine y_if_eq (tgt := 19) C dX6_ifBooked_13 rfl (y_e h) (fun c13 h => ?_) (fun c13 h => ?_)
  · refine y_iload C dX6_ifBooked_19 6 rfl ?_
    refine y_if_lt (tgt := 30) C dX6_ifBooked_21 rfl (y_e h) (fun c21 h => ?_) (fun c21 h => ?_)
    · refine y_bipush (v := -2) C dX6_ifBooked_30 (by decide) ?_
      exact HR 32 dX6_ifBooked_32 (-2 : Int32) _ _ _ _ (rfl) (Nat.le_of_ble_eq_true rfl) (Nat.le_of_ble_eq_true rfl) ⟨by rw [h], t, sv, sd, st, GT, SG, SGT, by rw [h], by rw [h], by rw [h], by rw [h], rfl⟩
    · refine y_iload C dX6_ifBooked_24 6 rfl ?_
      refine y_iconst (v := 3) C dX6_ifBooked_26 (by decide) ?_
      refine y_icmp_le (tgt := 33) C dX6_ifBooked_27 rfl (y_e h) (fun c27 h => ?_) (fun c27 h => ?_)
      · refine y_aload_n C dX6_ifBooked_33 1 rfl rfl ?_
        refine y_get (Cn := RX6) (T := TX6) (N := 6) (v := .ref S) C dX6_ifBooked_34 hX6_ifBooked_X6 0 (sh_227 g x (A 0) (T 0) S rp rh rl A d G T t GT S (SA 0) (ST 0) sv SA sd SG ST st SGT) rfl 2 (Nat.le_of_ble_eq_true rfl) kX6_ifBooked_1 rfl ?_
        refine y_aload_n C dX6_ifBooked_37 1 rfl rfl ?_
        refine y_get (Cn := RX6) (T := TX6) (N := 6) (v := .ref (A 0)) C dX6_ifBooked_38 hX6_ifBooked_X6 0 (sh_227 g x (A 0) (T 0) S rp rh rl A d G T t GT S (SA 0) (ST 0) sv SA sd SG ST st SGT) rfl 0 (Nat.le_of_ble_eq_true rfl) kX6_ifBooked_2 rfl ?_
        refine y_iload_n C dX6_ifBooked_41 2 rfl rfl ?_
        refine y_iload_n C dX6_ifBooked_42 3 rfl rfl ?_
        refine y_iload_n C dX6_ifBooked_43 4 rfl rfl ?_
        refine y_iload C dX6_ifBooked_44 5 rfl ?_
        refine y_callV (As := [.ref (A 0), .int fr, .int to, .int wa, .int bt]) (rest := []) C dX6_ifBooked_46 (c_X4_find g S sv SA sd SG ST st SGT A d G fr to wa bt) rfl rfl rfl rfl ⟨Nat.le_of_ble_eq_true rfl, Nat.le_of_ble_eq_true rfl⟩ gX6_ifBooked_X4_find (nA := 5) (by decide +kernel) rfl (sh_152 g S (SA 0) (ST 0) sv SA sd SG ST st SGT A d G) (Nat.le_of_ble_eq_true rfl) ⟨Nat.le_of_ble_eq_true rfl, Nat.le_of_ble_eq_true rfl⟩ [3, 4, 5, 1, 23, 24, 25, 26, 27, 28, 29, 30, 31, 32, 33, 34, 35, 36, 37, 38, 39, 6, 7, 8, 9, 10, 11, 12, 13, 14, 15, 16, 17] [0, 2, 18, 19, 20, 21, 22] (nB := 40) rfl (by decide +kernel) (sh_228 g x (A 0) (T 0) S rp rh rl A d G T t GT S (SA 0) (ST 0) sv SA sd SG ST st SGT) (fun r10 w9 hw => ?_)
        obtain ⟨er10, sv2, sd4, st7, G5, G8, e3, e6, e9, rfl⟩ := hw
        have h := y_letF h er10
        have h := y_letF h e3
        have h := y_letF h e6
        have h := y_letF h e9
        refine ⟨([mnC x (A 0) (T 0) S rp rh rl, dayC A d, tabC T t, seaC S (SA 0) (ST 0) sv2, dayC SA sd4, tabC ST st7] ++ (dayR g A d G ++ (tabR g T t GT ++ (dayR g SA sd4 G5 ++ tabR g ST st7 G8))) : List va_W), (sh_229 g x (A 0) (T 0) S rp rh rl A d G T t GT S (SA 0) (ST 0) sv SA sd SG ST st SGT sv2 sd4 G5 st7 G8), ?_⟩
        refine y_istore (lv' := [(7, .int r10), (6, .int r1), (0, .ref x), (1, .int fr), (2, .int to), (3, .int wa), (4, .int bt), (5, .int wh)]) C dX6_ifBooked_49 (Nat.le_of_ble_eq_true rfl) rfl ?_
        refine y_iload C dX6_ifBooked_51 7 rfl ?_
        refine y_iconst (v := 3) C dX6_ifBooked_53 (by decide) ?_
        refine y_icmp_ne (tgt := 65) C dX6_ifBooked_54 rfl (y_e h) (fun c54 h => ?_) (fun c54 h => ?_)
        · refine y_iload C dX6_ifBooked_65 0 rfl ?_
          refine y_if_ne (tgt := 73) C dX6_ifBooked_67 rfl (y_e h) (fun c67 h => ?_) (fun c67 h => ?_)
          · refine y_iload C dX6_ifBooked_73 7 rfl ?_
            refine y_if_ne (tgt := 95) C dX6_ifBooked_75 rfl (y_e h) (fun c75 h => ?_) (fun c75 h => ?_)
            · refine y_iload C dX6_ifBooked_95 7 rfl ?_
              refine y_iconst (v := 1) C dX6_ifBooked_97 (by decide) ?_
              refine y_icmp_ne (tgt := 111) C dX6_ifBooked_98 rfl (y_e h) (fun c98 h => ?_) (fun c98 h => ?_)
              · refine y_aload_n C dX6_ifBooked_111 2 rfl rfl ?_
                refine y_get (Cn := RX6) (T := TX6) (N := 6) (v := .ref S) C dX6_ifBooked_112 hX6_ifBooked_X6 0 (sh_227 g x (A 0) (T 0) S rp rh rl A d G T t GT S (SA 0) (ST 0) sv2 SA sd4 G5 ST st7 G8) rfl 2 (Nat.le_of_ble_eq_true rfl) kX6_ifBooked_1 rfl ?_
                refine y_get (Cn := RX4) (T := TX4) (N := 9) (v := .int (sv2.2 3)) C dX6_ifBooked_115 hX6_ifBooked_X4 3 (sh_230 g x (A 0) (T 0) S rp rh rl A d G T t GT S (SA 0) (ST 0) sv2 SA sd4 G5 ST st7 G8) rfl 5 (Nat.le_of_ble_eq_true rfl) kX6_ifBooked_6 rfl ?_
                exact HR 118 dX6_ifBooked_118 (sv2.2 3) _ _ _ _ (rfl) (Nat.le_of_ble_eq_true rfl) (Nat.le_of_ble_eq_true rfl) ⟨by rw [h], t, sv2, sd4, st7, GT, G5, G8, by rw [h], by rw [h], by rw [h], by rw [h], rfl⟩
              · refine y_aload_n C dX6_ifBooked_101 2 rfl rfl ?_
                refine y_get (Cn := RX6) (T := TX6) (N := 6) (v := .ref S) C dX6_ifBooked_102 hX6_ifBooked_X6 0 (sh_227 g x (A 0) (T 0) S rp rh rl A d G T t GT S (SA 0) (ST 0) sv2 SA sd4 G5 ST st7 G8) rfl 2 (Nat.le_of_ble_eq_true rfl) kX6_ifBooked_1 rfl ?_
                refine y_get (Cn := RX4) (T := TX4) (N := 9) (v := .int (sv2.2 2)) C dX6_ifBooked_105 hX6_ifBooked_X4 3 (sh_230 g x (A 0) (T 0) S rp rh rl A d G T t GT S (SA 0) (ST 0) sv2 SA sd4 G5 ST st7 G8) rfl 4 (Nat.le_of_ble_eq_true rfl) kX6_ifBooked_5 rfl ?_
                refine y_goto (tgt := 118) C dX6_ifBooked_108 rfl ?_
                exact HR 118 dX6_ifBooked_118 (sv2.2 2) _ _ _ _ (rfl) (Nat.le_of_ble_eq_true rfl) (Nat.le_of_ble_eq_true rfl) ⟨by rw [h], t, sv2, sd4, st7, GT, G5, G8, by rw [h], by rw [h], by rw [h], by rw [h], rfl⟩
            · refine y_aload_n C dX6_ifBooked_78 2 rfl rfl ?_
              refine y_get (Cn := RX6) (T := TX6) (N := 6) (v := .ref S) C dX6_ifBooked_79 hX6_ifBooked_X6 0 (sh_227 g x (A 0) (T 0) S rp rh rl A d G T t GT S (SA 0) (ST 0) sv2 SA sd4 G5 ST st7 G8) rfl 2 (Nat.le_of_ble_eq_true rfl) kX6_ifBooked_1 rfl ?_
              refine y_get (Cn := RX4) (T := TX4) (N := 9) (v := .int (sv2.2 1)) C dX6_ifBooked_82 hX6_ifBooked_X4 3 (sh_230 g x (A 0) (T 0) S rp rh rl A d G T t GT S (SA 0) (ST 0) sv2 SA sd4 G5 ST st7 G8) rfl 3 (Nat.le_of_ble_eq_true rfl) kX6_ifBooked_4 rfl ?_
              refine y_aload_n C dX6_ifBooked_85 2 rfl rfl ?_
              refine y_aload_n C dX6_ifBooked_86 2 rfl rfl ?_
              refine y_get (Cn := RX6) (T := TX6) (N := 6) (v := .ref (A 0)) C dX6_ifBooked_87 hX6_ifBooked_X6 0 (sh_227 g x (A 0) (T 0) S rp rh rl A d G T t GT S (SA 0) (ST 0) sv2 SA sd4 G5 ST st7 G8) rfl 0 (Nat.le_of_ble_eq_true rfl) kX6_ifBooked_2 rfl ?_
              refine y_callV (As := [.ref (A 0)]) (rest := [.int (sv2.2 1)]) C dX6_ifBooked_90 (c_X6_overOf g x (A 0) S rp rh rl T t GT A d G) rfl rfl rfl rfl ⟨Nat.le_of_ble_eq_true rfl, Nat.le_of_ble_eq_true rfl⟩ gX6_ifBooked_X6_overOf (nA := 1) (by decide +kernel) rfl (sh_216 g x (A 0) (T 0) S rp rh rl T t GT A d G) (Nat.le_of_ble_eq_true rfl) ⟨Nat.le_of_ble_eq_true rfl, Nat.le_of_ble_eq_true rfl⟩ [0, 2, 1, 18, 19, 20, 21, 22, 6, 7, 8, 9, 10, 11, 12, 13, 14, 15, 16, 17] [3, 4, 5, 23, 24, 25, 26, 27, 28, 29, 30, 31, 32, 33, 34, 35, 36, 37, 38, 39] (nB := 40) rfl (by decide +kernel) (sh_231 g x (A 0) (T 0) S rp rh rl A d G T t GT S (SA 0) (ST 0) sv2 SA sd4 G5 ST st7 G8) (fun r14 w9 hw => ?_)
              obtain ⟨er14, t11, G12, e13, rfl⟩ := hw
              have h := y_letF h er14
              have h := y_letF h e13
              refine ⟨([mnC x (A 0) (T 0) S rp rh rl, dayC A d, tabC T t11, seaC S (SA 0) (ST 0) sv2, dayC SA sd4, tabC ST st7] ++ (dayR g A d G ++ (tabR g T t11 G12 ++ (dayR g SA sd4 G5 ++ tabR g ST st7 G8))) : List va_W), (sh_232 g x (A 0) (T 0) S rp rh rl A d G T t GT S (SA 0) (ST 0) sv2 SA sd4 G5 ST st7 G8 t11 G12), ?_⟩
              refine y_isub C dX6_ifBooked_93 ?_
              exact HR 94 dX6_ifBooked_94 ((sv2.2 1) - r14) _ _ _ _ (rfl) (Nat.le_of_ble_eq_true rfl) (Nat.le_of_ble_eq_true rfl) ⟨by rw [h], t11, sv2, sd4, st7, G12, G5, G8, by rw [h], by rw [h], by rw [h], by rw [h], rfl⟩
          · refine y_bipush (v := -6) C dX6_ifBooked_70 (by decide) ?_
            exact HR 72 dX6_ifBooked_72 (-6 : Int32) _ _ _ _ (rfl) (Nat.le_of_ble_eq_true rfl) (Nat.le_of_ble_eq_true rfl) ⟨by rw [h], t, sv2, sd4, st7, GT, G5, G8, by rw [h], by rw [h], by rw [h], by rw [h], rfl⟩
        · refine y_aload_n C dX6_ifBooked_57 2 rfl rfl ?_
          refine y_get (Cn := RX6) (T := TX6) (N := 6) (v := .ref S) C dX6_ifBooked_58 hX6_ifBooked_X6 0 (sh_227 g x (A 0) (T 0) S rp rh rl A d G T t GT S (SA 0) (ST 0) sv2 SA sd4 G5 ST st7 G8) rfl 2 (Nat.le_of_ble_eq_true rfl) kX6_ifBooked_1 rfl ?_
          refine y_get (Cn := RX4) (T := TX4) (N := 9) (v := .int (sv2.2 0)) C dX6_ifBooked_61 hX6_ifBooked_X4 3 (sh_230 g x (A 0) (T 0) S rp rh rl A d G T t GT S (SA 0) (ST 0) sv2 SA sd4 G5 ST st7 G8) rfl 2 (Nat.le_of_ble_eq_true rfl) kX6_ifBooked_3 rfl ?_
          exact HR 64 dX6_ifBooked_64 (sv2.2 0) _ _ _ _ (rfl) (Nat.le_of_ble_eq_true rfl) (Nat.le_of_ble_eq_true rfl) ⟨by rw [h], t, sv2, sd4, st7, GT, G5, G8, by rw [h], by rw [h], by rw [h], by rw [h], rfl⟩
      · refine y_bipush (v := -2) C dX6_ifBooked_30 (by decide) ?_
        exact HR 32 dX6_ifBooked_32 (-2 : Int32) _ _ _ _ (rfl) (Nat.le_of_ble_eq_true rfl) (Nat.le_of_ble_eq_true rfl) ⟨by rw [h], t, sv, sd, st, GT, SG, SGT, by rw [h], by rw [h], by rw [h], by rw [h], rfl⟩
  · refine y_iload C dX6_ifBooked_16 0 rfl ?_
    exact HR 18 dX6_ifBooked_18 r1 _ _ _ _ (rfl) (Nat.le_of_ble_eq_true rfl) (Nat.le_of_ble_eq_true rfl) ⟨by rw [h], t, sv, sd, st, GT, SG, SGT, by rw [h], by rw [h], by rw [h], by rw [h], rfl⟩
theorem dX6_earliestBy_0 : decode cX6_earliestBy 0 = .ok (.aload_n 0, 1) := by decide +kernel
theorem dX6_earliestBy_1 : decode cX6_earliestBy 1 = .ok (.iload_n 1, 1) := by decide +kernel
theorem dX6_earliestBy_2 : decode cX6_earliestBy 2 = .ok (.iload_n 2, 1) := by decide +kernel
theorem dX6_earliestBy_3 : decode cX6_earliestBy 3 = .ok (.iload_n 3, 1) := by decide +kernel
theorem dX6_earliestBy_4 : decode cX6_earliestBy 4 = .ok (.sipush 900, 3) := by decide +kernel
theorem dX6_earliestBy_7 : decode cX6_earliestBy 7 = .ok (.invokevirtual 186, 3) := by decide +kernel
theorem dX6_earliestBy_10 : decode cX6_earliestBy 10 = .ok (.istore 4, 2) := by decide +kernel
theorem dX6_earliestBy_12 : decode cX6_earliestBy 12 = .ok (.iload 4, 2) := by decide +kernel
theorem dX6_earliestBy_14 : decode cX6_earliestBy 14 = .ok (.ifCond .eq 6, 3) := by decide +kernel
theorem dX6_earliestBy_17 : decode cX6_earliestBy 17 = .ok (.iload 4, 2) := by decide +kernel
theorem dX6_earliestBy_19 : decode cX6_earliestBy 19 = .ok (.ireturn, 1) := by decide +kernel
theorem dX6_earliestBy_20 : decode cX6_earliestBy 20 = .ok (.aload_n 0, 1) := by decide +kernel
theorem dX6_earliestBy_21 : decode cX6_earliestBy 21 = .ok (.getfield 26, 3) := by decide +kernel
theorem dX6_earliestBy_24 : decode cX6_earliestBy 24 = .ok (.aload_n 0, 1) := by decide +kernel
theorem dX6_earliestBy_25 : decode cX6_earliestBy 25 = .ok (.getfield 12, 3) := by decide +kernel
theorem dX6_earliestBy_28 : decode cX6_earliestBy 28 = .ok (.iload_n 1, 1) := by decide +kernel
theorem dX6_earliestBy_29 : decode cX6_earliestBy 29 = .ok (.iload_n 2, 1) := by decide +kernel
theorem dX6_earliestBy_30 : decode cX6_earliestBy 30 = .ok (.iload_n 3, 1) := by decide +kernel
theorem dX6_earliestBy_31 : decode cX6_earliestBy 31 = .ok (.sipush 900, 3) := by decide +kernel
theorem dX6_earliestBy_34 : decode cX6_earliestBy 34 = .ok (.invokevirtual 189, 3) := by decide +kernel
theorem dX6_earliestBy_37 : decode cX6_earliestBy 37 = .ok (.ifCond .eq 13, 3) := by decide +kernel
theorem dX6_earliestBy_40 : decode cX6_earliestBy 40 = .ok (.aload_n 0, 1) := by decide +kernel
theorem dX6_earliestBy_41 : decode cX6_earliestBy 41 = .ok (.getfield 26, 3) := by decide +kernel
theorem dX6_earliestBy_44 : decode cX6_earliestBy 44 = .ok (.getfield 205, 3) := by decide +kernel
theorem dX6_earliestBy_47 : decode cX6_earliestBy 47 = .ok (.goto 5, 3) := by decide +kernel
theorem dX6_earliestBy_50 : decode cX6_earliestBy 50 = .ok (.bipush (-6), 2) := by decide +kernel
theorem dX6_earliestBy_52 : decode cX6_earliestBy 52 = .ok (.ireturn, 1) := by decide +kernel
set_option maxRecDepth 20000 in
theorem ggX6_earliestBy_X6_errorOf : GoodIn wsX6_earliestBy wsX6_errorOf := goodIn_r _ [8, 2, 9, 10, 11, 12, 13, 14, 15, 16, 17, 18, 19, 20, 179, 180, 181, 182, 183, 184, 194, 195, 196, 197, 198, 199, 200, 201, 202, 203, 204, 205, 206, 207, 208, 209, 210] (by decide +kernel) (by decide +kernel)
set_option maxRecDepth 20000 in
theorem gX6_earliestBy_X6_errorOf : GoodIn wsX6_earliestBy (wsV RX6 186 RX6 yX6_errorOf wsX6_errorOf) := goodIn_app (goodIn_of _ (by decide +kernel)) ggX6_earliestBy_X6_errorOf
set_option maxRecDepth 20000 in
theorem ggX6_earliestBy_X4_find : GoodIn wsX6_earliestBy wsX4_find := goodIn_r _ [25, 26, 27, 28, 29, 30, 31, 32, 33, 34, 12, 35, 36, 14, 37, 38, 39, 40, 41, 42, 43, 44, 45, 46, 47, 48, 49, 50, 51, 52, 18, 53, 20, 54, 55, 56, 57, 58, 59, 60, 61, 62, 63, 64, 65, 15, 16, 17, 19, 66, 67, 68, 69, 70, 71, 72, 73, 74, 75, 76, 77, 78, 79, 80, 81, 82, 83, 84, 85, 86, 87, 88, 89, 90, 91, 92, 93, 94, 95, 96, 24, 97, 98, 99, 7, 100, 101, 102, 103, 104, 105, 106, 107, 108, 109, 110, 111, 112, 113, 114, 115, 116, 117, 118, 119, 120, 121, 122, 123, 124, 125, 126, 127, 128, 129, 130, 131, 132, 133, 134, 135, 136, 137, 138, 139, 140, 141, 142, 143, 144, 145, 146, 147, 148, 149, 150, 151, 152, 153, 154, 155, 156, 157, 158, 159, 160, 161, 162, 163, 164, 165, 166, 167, 168, 169, 170, 171, 172, 173, 174, 175, 176, 177, 178, 185, 186, 187, 188, 189, 190, 191, 192, 193, 194, 195, 196, 197, 198, 199, 200, 201, 202, 203, 204, 205, 206, 207, 208, 209, 210, 211, 212, 213, 214, 215, 216, 217, 218, 219, 220] (by decide +kernel) (by decide +kernel)
set_option maxRecDepth 20000 in
theorem gX6_earliestBy_X4_find : GoodIn wsX6_earliestBy (wsV RX6 189 RX4 yX4_find wsX4_find) := goodIn_app (goodIn_of _ (by decide +kernel)) ggX6_earliestBy_X4_find
theorem kX6_earliestBy_1 : Cond.fieldLink RX6 26 "BookedDetours" "search" "LBookedDetours$Search;" ∈ wsX6_earliestBy := List.mem_of_getElem? (i := 1) (by decide +kernel)
theorem kX6_earliestBy_2 : Cond.fieldLink RX6 12 "BookedDetours" "day" "LBookedDetours$Day;" ∈ wsX6_earliestBy := List.mem_of_getElem? (i := 2) (by decide +kernel)
theorem kX6_earliestBy_3 : Cond.fieldLink RX6 205 "BookedDetours$Search" "earliestDown" "I" ∈ wsX6_earliestBy := List.mem_of_getElem? (i := 3) (by decide +kernel)
theorem hX6_earliestBy_X6 : ∀ w ∈ u_ws RX6 TX6 6, w ∈ wsX6_earliestBy := fun _ h => List.mem_cons_of_mem _ (List.mem_append_left _ (List.mem_append_left _ (List.mem_append_left _ (List.mem_append_left _ (List.mem_append_right _ h)))))
theorem hX6_earliestBy_X4 : ∀ w ∈ u_ws RX4 TX4 9, w ∈ wsX6_earliestBy := fun _ h => List.mem_cons_of_mem _ (List.mem_append_left _ (List.mem_append_left _ (List.mem_append_left _ (List.mem_append_right _ h))))
set_option maxHeartbeats 4000000 in
set_option maxRecDepth 100000 in
theorem c_X6_earliestBy (g : yG) (x rt rp rh rl : Nat) (A : Nat → Nat) (d : RV) (G : Nat → Nat → Int32) (S : Nat) (sv : RV) (SA : Nat → Nat) (sd : RV) (SG : Nat → Nat → Int32) (ST : Nat → Nat) (st : RV) (SGT : Nat → Nat → Int32) (fr : Int32) (to : Int32) (wa : Int32) : yM g yX6_earliestBy wsX6_earliestBy ({ frames := 5, cells := 0, slots := 0, locals := 123 } : Room) [.ref x, .int fr, .int to, .int wa] ([mnC x (A 0) rt S rp rh rl, dayC A d, seaC S (SA 0) (ST 0) sv, dayC SA sd, tabC ST st] ++ (dayR g A d G ++ (dayR g SA sd SG ++ tabR g ST st SGT)) : List va_W) (fun r w => r = (f_X6_earliestBy d sv sd st fr to wa).1 ∧ ∃ sv' : RV, ∃ sd' : RV, ∃ st' : RV, ∃ SG' : Nat → Nat → Int32, ∃ SGT' : Nat → Nat → Int32, sv' = (f_X6_earliestBy d sv sd st fr to wa).2.1 ∧ sd' = (f_X6_earliestBy d sv sd st fr to wa).2.2.1 ∧ st' = (f_X6_earliestBy d sv sd st fr to wa).2.2.2 ∧ w = ([mnC x (A 0) rt S rp rh rl, dayC A d, seaC S (SA 0) (ST 0) sv', dayC SA sd', tabC ST st'] ++ (dayR g A d G ++ (dayR g SA sd' SG' ++ tabR g ST st' SGT')) : List va_W)) 0 0 := by
  refine y_entryI (cc := cX6_earliestBy) (maxL := 5) (by decide +kernel) rfl (Nat.le_of_ble_eq_true rfl) (fun Z C HR => ?_)
  have C : yC Z g cX6_earliestBy 5 wsX6_earliestBy RX6 := C
  have h := f_X6_earliestBy.eq_1 d sv sd st fr to wa
  show yJ Z _ 0 0 _ 0 [(0, .ref x), (1, .int fr), (2, .int to), (3, .int wa)] []
  refine y_aload_n C dX6_earliestBy_0 0 rfl rfl ?_
  refine y_iload_n C dX6_earliestBy_1 1 rfl rfl ?_
  refine y_iload_n C dX6_earliestBy_2 2 rfl rfl ?_
  refine y_iload_n C dX6_earliestBy_3 3 rfl rfl ?_
  refine y_sipush (v := 900) C dX6_earliestBy_4 (by decide) ?_
  refine y_callV (As := [.int fr, .int to, .int wa, .int (900 : Int32)]) (rest := []) C dX6_earliestBy_7 (c_X6_errorOf g x rt S rp rh rl A d G fr to wa (900 : Int32)) rfl rfl rfl rfl ⟨Nat.le_of_ble_eq_true rfl, Nat.le_of_ble_eq_true rfl⟩ gX6_earliestBy_X6_errorOf (nA := 4) (by decide +kernel) rfl (sh_147 g x (A 0) rt S rp rh rl A d G) (Nat.le_of_ble_eq_true rfl) ⟨Nat.le_of_ble_eq_true rfl, Nat.le_of_ble_eq_true rfl⟩ [0, 1, 5, 6, 7, 8, 9, 10, 11, 12, 13, 14, 15, 16] [2, 3, 4, 17, 18, 19, 20, 21, 22, 23, 24, 25, 26, 27, 28, 29, 30, 31, 32, 33] (nB := 34) rfl (by decide +kernel) (sh_146 g x (A 0) rt S rp rh rl A d G S (SA 0) (ST 0) sv SA sd SG ST st SGT) (fun r1 w9 hw => ?_)
  obtain ⟨er1, rfl⟩ := hw
  have h := y_letF h er1
  refine ⟨([mnC x (A 0) rt S rp rh rl, dayC A d, seaC S (SA 0) (ST 0) sv, dayC SA sd, tabC ST st] ++ (dayR g A d G ++ (dayR g SA sd SG ++ tabR g ST st SGT)) : List va_W), ⟨(sh_146 g x (A 0) rt S rp rh rl A d G S (SA 0) (ST 0) sv SA sd SG ST st SGT), rfl, rfl⟩, ?_⟩
  refine y_istore (lv' := [(4, .int r1), (0, .ref x), (1, .int fr), (2, .int to), (3, .int wa)]) C dX6_earliestBy_10 (Nat.le_of_ble_eq_true rfl) rfl ?_
  refine y_iload C dX6_earliestBy_12 0 rfl ?_
  refine y_if_eq (tgt := 20) C dX6_earliestBy_14 rfl (y_e h) (fun c14 h => ?_) (fun c14 h => ?_)
  · refine y_aload_n C dX6_earliestBy_20 1 rfl rfl ?_
    refine y_get (Cn := RX6) (T := TX6) (N := 6) (v := .ref S) C dX6_earliestBy_21 hX6_earliestBy_X6 0 (sh_148 g x (A 0) rt S rp rh rl A d G S (SA 0) (ST 0) sv SA sd SG ST st SGT) rfl 2 (Nat.le_of_ble_eq_true rfl) kX6_earliestBy_1 rfl ?_
    refine y_aload_n C dX6_earliestBy_24 1 rfl rfl ?_
    refine y_get (Cn := RX6) (T := TX6) (N := 6) (v := .ref (A 0)) C dX6_earliestBy_25 hX6_earliestBy_X6 0 (sh_148 g x (A 0) rt S rp rh rl A d G S (SA 0) (ST 0) sv SA sd SG ST st SGT) rfl 0 (Nat.le_of_ble_eq_true rfl) kX6_earliestBy_2 rfl ?_
    refine y_iload_n C dX6_earliestBy_28 2 rfl rfl ?_
    refine y_iload_n C dX6_earliestBy_29 3 rfl rfl ?_
    refine y_iload_n C dX6_earliestBy_30 4 rfl rfl ?_
    refine y_sipush (v := 900) C dX6_earliestBy_31 (by decide) ?_
    refine y_callV (As := [.ref (A 0), .int fr, .int to, .int wa, .int (900 : Int32)]) (rest := []) C dX6_earliestBy_34 (c_X4_find g S sv SA sd SG ST st SGT A d G fr to wa (900 : Int32)) rfl rfl rfl rfl ⟨Nat.le_of_ble_eq_true rfl, Nat.le_of_ble_eq_true rfl⟩ gX6_earliestBy_X4_find (nA := 5) (by decide +kernel) rfl (sh_152 g S (SA 0) (ST 0) sv SA sd SG ST st SGT A d G) (Nat.le_of_ble_eq_true rfl) ⟨Nat.le_of_ble_eq_true rfl, Nat.le_of_ble_eq_true rfl⟩ [2, 3, 4, 1, 17, 18, 19, 20, 21, 22, 23, 24, 25, 26, 27, 28, 29, 30, 31, 32, 33, 5, 6, 7, 8, 9, 10, 11, 12, 13, 14, 15, 16] [0] (nB := 34) rfl (by decide +kernel) (sh_151 g x (A 0) rt S rp rh rl A d G S (SA 0) (ST 0) sv SA sd SG ST st SGT) (fun r10 w9 hw => ?_)
    obtain ⟨er10, sv2, sd4, st7, G5, G8, e3, e6, e9, rfl⟩ := hw
    have h := y_letF h er10
    have h := y_letF h e3
    have h := y_letF h e6
    have h := y_letF h e9
    refine ⟨([mnC x (A 0) rt S rp rh rl, dayC A d, seaC S (SA 0) (ST 0) sv2, dayC SA sd4, tabC ST st7] ++ (dayR g A d G ++ (dayR g SA sd4 G5 ++ tabR g ST st7 G8)) : List va_W), (sh_153 g x (A 0) rt S rp rh rl A d G S (SA 0) (ST 0) sv SA sd SG ST st SGT sv2 sd4 G5 st7 G8), ?_⟩
    refine y_if_eq (tgt := 50) C dX6_earliestBy_37 rfl (y_e h) (fun c37 h => ?_) (fun c37 h => ?_)
    · refine y_bipush (v := -6) C dX6_earliestBy_50 (by decide) ?_
      exact HR 52 dX6_earliestBy_52 (-6 : Int32) _ _ _ _ (rfl) (Nat.le_of_ble_eq_true rfl) (Nat.le_of_ble_eq_true rfl) ⟨by rw [h], sv2, sd4, st7, G5, G8, by rw [h], by rw [h], by rw [h], rfl⟩
    · refine y_aload_n C dX6_earliestBy_40 1 rfl rfl ?_
      refine y_get (Cn := RX6) (T := TX6) (N := 6) (v := .ref S) C dX6_earliestBy_41 hX6_earliestBy_X6 0 (sh_148 g x (A 0) rt S rp rh rl A d G S (SA 0) (ST 0) sv2 SA sd4 G5 ST st7 G8) rfl 2 (Nat.le_of_ble_eq_true rfl) kX6_earliestBy_1 rfl ?_
      refine y_get (Cn := RX4) (T := TX4) (N := 9) (v := .int (sv2.2 4)) C dX6_earliestBy_44 hX6_earliestBy_X4 2 (sh_233 g x (A 0) rt S rp rh rl A d G S (SA 0) (ST 0) sv2 SA sd4 G5 ST st7 G8) rfl 6 (Nat.le_of_ble_eq_true rfl) kX6_earliestBy_3 rfl ?_
      refine y_goto (tgt := 52) C dX6_earliestBy_47 rfl ?_
      exact HR 52 dX6_earliestBy_52 (sv2.2 4) _ _ _ _ (rfl) (Nat.le_of_ble_eq_true rfl) (Nat.le_of_ble_eq_true rfl) ⟨by rw [h], sv2, sd4, st7, G5, G8, by rw [h], by rw [h], by rw [h], rfl⟩
  · refine y_iload C dX6_earliestBy_17 0 rfl ?_
    exact HR 19 dX6_earliestBy_19 r1 _ _ _ _ (rfl) (Nat.le_of_ble_eq_true rfl) (Nat.le_of_ble_eq_true rfl) ⟨by rw [h], sv, sd, st, SG, SGT, by rw [h], by rw [h], by rw [h], rfl⟩
