theorem dX1_add_0 : decode cX1_add 0 = .ok (.aload_n 0, 1) := by decide +kernel
theorem dX1_add_1 : decode cX1_add 1 = .ok (.getfield 17, 3) := by decide +kernel
theorem dX1_add_4 : decode cX1_add 4 = .ok (.aload_n 0, 1) := by decide +kernel
theorem dX1_add_5 : decode cX1_add 5 = .ok (.getfield 11, 3) := by decide +kernel
theorem dX1_add_8 : decode cX1_add 8 = .ok (.arraylength, 1) := by decide +kernel
theorem dX1_add_9 : decode cX1_add 9 = .ok (.if_icmp .lt 7, 3) := by decide +kernel
theorem dX1_add_12 : decode cX1_add 12 = .ok (.aload_n 0, 1) := by decide +kernel
theorem dX1_add_13 : decode cX1_add 13 = .ok (.invokevirtual 21, 3) := by decide +kernel
theorem dX1_add_16 : decode cX1_add 16 = .ok (.aload_n 0, 1) := by decide +kernel
theorem dX1_add_17 : decode cX1_add 17 = .ok (.getfield 17, 3) := by decide +kernel
theorem dX1_add_20 : decode cX1_add 20 = .ok (.ifCond .lt 15, 3) := by decide +kernel
theorem dX1_add_23 : decode cX1_add 23 = .ok (.aload_n 0, 1) := by decide +kernel
theorem dX1_add_24 : decode cX1_add 24 = .ok (.getfield 17, 3) := by decide +kernel
theorem dX1_add_27 : decode cX1_add 27 = .ok (.aload_n 0, 1) := by decide +kernel
theorem dX1_add_28 : decode cX1_add 28 = .ok (.getfield 11, 3) := by decide +kernel
theorem dX1_add_31 : decode cX1_add 31 = .ok (.arraylength, 1) := by decide +kernel
theorem dX1_add_32 : decode cX1_add 32 = .ok (.if_icmp .lt 4, 3) := by decide +kernel
theorem dX1_add_35 : decode cX1_add 35 = .ok (.return_, 1) := by decide +kernel
theorem dX1_add_36 : decode cX1_add 36 = .ok (.aload_n 0, 1) := by decide +kernel
theorem dX1_add_37 : decode cX1_add 37 = .ok (.getfield 11, 3) := by decide +kernel
theorem dX1_add_40 : decode cX1_add 40 = .ok (.aload_n 0, 1) := by decide +kernel
theorem dX1_add_41 : decode cX1_add 41 = .ok (.getfield 17, 3) := by decide +kernel
theorem dX1_add_44 : decode cX1_add 44 = .ok (.aaload, 1) := by decide +kernel
theorem dX1_add_45 : decode cX1_add 45 = .ok (.astore_n 2, 1) := by decide +kernel
theorem dX1_add_46 : decode cX1_add 46 = .ok (.aload_n 2, 1) := by decide +kernel
theorem dX1_add_47 : decode cX1_add 47 = .ok (.ifnonnull 21, 3) := by decide +kernel
theorem dX1_add_50 : decode cX1_add 50 = .ok (.new 9, 3) := by decide +kernel
theorem dX1_add_53 : decode cX1_add 53 = .ok (.dup, 1) := by decide +kernel
theorem dX1_add_54 : decode cX1_add 54 = .ok (.invokespecial 24, 3) := by decide +kernel
theorem dX1_add_57 : decode cX1_add 57 = .ok (.astore_n 2, 1) := by decide +kernel
theorem dX1_add_58 : decode cX1_add 58 = .ok (.aload_n 0, 1) := by decide +kernel
theorem dX1_add_59 : decode cX1_add 59 = .ok (.getfield 11, 3) := by decide +kernel
theorem dX1_add_62 : decode cX1_add 62 = .ok (.aload_n 0, 1) := by decide +kernel
theorem dX1_add_63 : decode cX1_add 63 = .ok (.getfield 17, 3) := by decide +kernel
theorem dX1_add_66 : decode cX1_add 66 = .ok (.aload_n 2, 1) := by decide +kernel
theorem dX1_add_67 : decode cX1_add 67 = .ok (.aastore, 1) := by decide +kernel
theorem dX1_add_68 : decode cX1_add 68 = .ok (.aload_n 2, 1) := by decide +kernel
theorem dX1_add_69 : decode cX1_add 69 = .ok (.aload_n 1, 1) := by decide +kernel
theorem dX1_add_70 : decode cX1_add 70 = .ok (.invokevirtual 25, 3) := by decide +kernel
theorem dX1_add_73 : decode cX1_add 73 = .ok (.aload_n 0, 1) := by decide +kernel
theorem dX1_add_74 : decode cX1_add 74 = .ok (.dup, 1) := by decide +kernel
theorem dX1_add_75 : decode cX1_add 75 = .ok (.getfield 17, 3) := by decide +kernel
theorem dX1_add_78 : decode cX1_add 78 = .ok (.iconst 1, 1) := by decide +kernel
theorem dX1_add_79 : decode cX1_add 79 = .ok (.iadd, 1) := by decide +kernel
theorem dX1_add_80 : decode cX1_add 80 = .ok (.putfield 17, 3) := by decide +kernel
theorem dX1_add_83 : decode cX1_add 83 = .ok (.return_, 1) := by decide +kernel
set_option maxRecDepth 20000 in
theorem ggX1_add_X1_dropOldest : GoodIn wsX1_add wsX1_dropOldest := goodIn_r _ [10, 2, 1, 65, 66] (by decide +kernel) (by decide +kernel)
set_option maxRecDepth 20000 in
theorem gX1_add_X1_dropOldest : GoodIn wsX1_add (wsV RX1 21 RX1 yX1_dropOldest wsX1_dropOldest) := goodIn_app (goodIn_of _ (by decide +kernel)) ggX1_add_X1_dropOldest
set_option maxRecDepth 20000 in
theorem ggX1_add_X0_init : GoodIn wsX1_add wsX0_init := goodIn_r _ [13, 14, 15, 16, 17, 18, 19, 20, 21, 22, 23, 24, 25, 26, 27, 28, 29, 30, 31, 32, 33, 34, 35, 36, 37, 38, 39, 40, 41, 42, 43, 44, 45, 46, 47, 48, 49, 50, 82, 83, 67, 68, 69, 70, 71, 72, 73, 74, 75, 76, 77, 78, 79, 80, 81] (by decide +kernel) (by decide +kernel)
set_option maxRecDepth 20000 in
theorem gX1_add_X0_init : GoodIn wsX1_add (wsX0_init) := ggX1_add_X0_init
set_option maxRecDepth 20000 in
theorem ggX1_add_X0_copy : GoodIn wsX1_add wsX0_copy := goodIn_r _ [54, 20, 21, 22, 23, 24, 25, 26, 27, 28, 29, 30, 31, 55, 56, 57, 58, 59, 60, 19, 61, 46, 41, 62, 63, 38, 64, 67, 68, 69, 70, 71, 72, 73, 74, 75, 76, 77, 78, 79, 80, 81, 82, 83] (by decide +kernel) (by decide +kernel)
set_option maxRecDepth 20000 in
theorem gX1_add_X0_copy : GoodIn wsX1_add (wsV RX1 25 RX0 yX0_copy wsX0_copy) := goodIn_app (goodIn_of _ (by decide +kernel)) ggX1_add_X0_copy
theorem kX1_add_2 : Cond.fieldLink RX1 11 "BookedDetours$History" "days" "[LBookedDetours$Day;" ∈ wsX1_add := List.mem_of_getElem? (i := 2) (by decide +kernel)
theorem kX1_add_1 : Cond.fieldLink RX1 17 "BookedDetours$History" "length" "I" ∈ wsX1_add := List.mem_of_getElem? (i := 1) (by decide +kernel)
theorem kX1_add_3 : Cond.classLink RX1 9 RX0 ∈ wsX1_add := List.mem_of_getElem? (i := 3) (by decide +kernel)
theorem kX1_add_4 : Cond.instantiable RX0 15 ∈ wsX1_add := List.mem_of_getElem? (i := 4) (by decide +kernel)
theorem kX1_add_5 : Cond.initialized RX0 ∈ wsX1_add := List.mem_of_getElem? (i := 5) (by decide +kernel)
theorem kX1_add_11 : Cond.methodLink RX1 24 yX0_init ∈ wsX1_add := List.mem_of_getElem? (i := 11) (by decide +kernel)
theorem kX1_add_12 : Cond.instanceMethod yX0_init ∈ wsX1_add := List.mem_of_getElem? (i := 12) (by decide +kernel)
theorem hX1_add_X1 : ∀ w ∈ u_ws RX1 TX1 2, w ∈ wsX1_add := fun _ h => List.mem_cons_of_mem _ (List.mem_append_left _ (List.mem_append_left _ (List.mem_append_right _ h)))
theorem hX1_add_X0 : ∀ w ∈ u_ws RX0 TX0 15, w ∈ wsX1_add := fun _ h => List.mem_cons_of_mem _ (List.mem_append_left _ (List.mem_append_right _ h))
theorem pm5 (a b c r e : va_W) : (a ++ ((b ++ (c ++ r)) ++ e)).Perm (b ++ (c ++ (a ++ (e ++ r)))) := by
  have h := y_permOf [a, b, c, r, e] [1, 2, 0, 4, 3] [] rfl
  simpa [yPick, List.append_assoc] using h
theorem pm8 (a b c p x y q e : va_W) : (a ++ ((b ++ (c ++ (p ++ ((x ++ y) ++ q)))) ++ e)).Perm (b ++ (c ++ (a ++ (x ++ (e ++ (y ++ (p ++ q))))))) := by
  have h := y_permOf [a, b, c, p, x, y, q, e] [1, 2, 0, 4, 7, 5, 3, 6] [] rfl
  simpa [yPick, List.append_assoc] using h
theorem rmW_app (g : yG) (R S : HR) : rmW g (R ++ S) = rmW g R ++ rmW g S := by simp [rmW]
theorem rmW_cons (g : yG) (x : (Nat → Nat) × RV × (Nat → Nat → Int32)) (R : HR) : rmW g (x :: R) = dayW g x.1 x.2.1 x.2.2 ++ rmW g R := by simp [rmW]
/-- a history is opened: its cells, a room, the other rooms -/
theorem hist_openX {g : yG} {h arr : Nat} {xs : List RV} {P S : HR} {A Ax : Nat → Nat} {d dx : RV} {G Gx : Nat → Nat → Int32} (ok : hOk xs (P ++ (Ax, dx, Gx) :: S)) : ([dayC A d] ++ ([histW g h arr xs (P ++ (Ax, dx, Gx) :: S)] ++ dayR g A d G) : List va_W).flatten.Perm ([hcC h arr (nI xs.length), acC g arr 6 (rmF (P ++ (Ax, dx, Gx) :: S)), dayC A d, dayC Ax dx] ++ (dayR g A d G ++ (dayR g Ax dx Gx ++ [rmW g P ++ rmW g S])) : List va_W).flatten := by
  have hh := pm8 (dayC A d) (hcC h arr (nI xs.length)) (acC g arr 6 (rmF (P ++ (Ax, dx, Gx) :: S))) (rmW g P) (dayC Ax dx) (dayR g Ax dx Gx).flatten (rmW g S) (dayR g A d G).flatten
  have e : histW g h arr xs (P ++ (Ax, dx, Gx) :: S) = hcC h arr (nI xs.length) ++ (acC g arr 6 (rmF (P ++ (Ax, dx, Gx) :: S)) ++ (rmW g P ++ ((dayC Ax dx ++ (dayR g Ax dx Gx).flatten) ++ rmW g S))) := by
    rw [histW_pos ok, rmW_app, rmW_cons]
    simp [dayW]
  simp only [List.flatten_append, List.flatten_cons, List.flatten_nil, List.append_nil, List.append_assoc, e] at hh ⊢
  exact hh
theorem hist_open {g : yG} {h arr : Nat} {xs : List RV} {R : HR} {A : Nat → Nat} {d : RV} {G : Nat → Nat → Int32} (ok : hOk xs R) : ([dayC A d] ++ ([histW g h arr xs R] ++ dayR g A d G) : List va_W).flatten.Perm ([hcC h arr (nI xs.length), acC g arr 6 (rmF R), dayC A d] ++ (dayR g A d G ++ [rmW g R]) : List va_W).flatten := by
  have hh := pm5 (dayC A d) (hcC h arr (nI xs.length)) (acC g arr 6 (rmF R)) (rmW g R) (dayR g A d G).flatten
  have e := histW_pos (g := g) (h := h) (arr := arr) ok
  simp only [List.flatten_append, List.flatten_cons, List.flatten_nil, List.append_nil, List.append_assoc, e] at hh ⊢
  exact hh
theorem rmF_at (P S : HR) (x : (Nat → Nat) × RV × (Nat → Nat → Int32)) : rmF (P ++ x :: S) P.length = some (x.1 0) := by simp [rmF]
theorem rmF_same (P S : HR) (Ax : Nat → Nat) (d d' : RV) (G G' : Nat → Nat → Int32) : rmF (P ++ (Ax, d, G) :: S) = rmF (P ++ (Ax, d', G') :: S) := by
  funext j
  unfold rmF
  rcases Nat.lt_trichotomy j P.length with c | c | c
  · rw [List.getElem?_append_left c, List.getElem?_append_left c]
  · subst c; simp
  · rw [List.getElem?_append_right (by omega), List.getElem?_append_right (by omega)]
    obtain ⟨k, hk⟩ : ∃ k, j - P.length = k + 1 := ⟨j - P.length - 1, by omega⟩
    rw [hk]; rfl
theorem rmF_none (R : HR) : rmF R R.length = none := by simp [rmF]
theorem rmF_push (R : HR) (Ax : Nat → Nat) (d : RV) (G : Nat → Nat → Int32) : va_up (rmF R) R.length (some (Ax 0)) = rmF (R ++ [(Ax, d, G)]) := by
  funext j
  unfold va_up rmF
  rcases Nat.lt_trichotomy j R.length with c | c | c
  · rw [if_neg (by omega), List.getElem?_append_left c]
  · subst c; simp
  · rw [if_neg (by omega), List.getElem?_eq_none (by omega), List.getElem?_eq_none (by simp; omega)]
theorem rmF_turn (x : (Nat → Nat) × RV × (Nat → Nat → Int32)) (S : HR) (hS : S.length = 5) : va_up (mvF (rmF (x :: S)) 6) 5 (some (x.1 0)) = rmF (S ++ [x]) := by
  funext j
  unfold va_up mvF rmF
  rcases Nat.lt_trichotomy j 5 with c | c | c
  · rw [if_neg (by omega), if_pos (by omega), List.getElem?_cons_succ, List.getElem?_append_left (by omega)]
  · subst c
    rw [if_pos rfl, List.getElem?_append_right (by omega), hS]
    rfl
  · rw [if_neg (by omega), if_neg (by omega), List.getElem?_eq_none (by simp; omega), List.getElem?_eq_none (by simp; omega)]
theorem hOk_push {xs : List RV} {P S : HR} {Ax : Nat → Nat} {d : RV} {G : Nat → Nat → Int32} (h1 : xs = P.map (fun x => x.2.1)) (h2 : (P ++ (Ax, d, G) :: S).length ≤ 6) : hOk (xs ++ [d]) (P ++ (Ax, d, G) :: S) := by
  subst h1
  refine ⟨by simp, h2, ?_⟩
  rw [List.length_append, List.length_map, List.take_append, List.take_of_length_le (by simp)]
  simp
theorem sh_h1 (g : yG) (h arr : Nat) (n : Int32) (f : Nat → Option Nat) (A Ax : Nat → Nat) (d dx : RV) (G Gx : Nat → Nat → Int32) (r : va_W) : yPick ([hcC h arr n, acC g arr 6 f, dayC A d, dayC Ax dx] ++ (dayR g A d G ++ (dayR g Ax dx Gx ++ [r])) : List va_W) [3, 2, 16, 17, 18, 19, 20, 21, 22, 23, 24, 25, 26, 27, 4, 5, 6, 7, 8, 9, 10, 11, 12, 13, 14, 15] = ([dayC Ax dx, dayC A d] ++ (dayR g Ax dx Gx ++ dayR g A d G) : List va_W) := rfl
theorem sh_h2 (g : yG) (h arr : Nat) (n : Int32) (f : Nat → Option Nat) (A Ax : Nat → Nat) (d dx : RV) (G Gx : Nat → Nat → Int32) (r : va_W) : yPick ([hcC h arr n, acC g arr 6 f, dayC A d, dayC Ax dx] ++ (dayR g A d G ++ (dayR g Ax dx Gx ++ [r])) : List va_W) [0, 1, 28] = ([hcC h arr n, acC g arr 6 f, r] : List va_W) := rfl
set_option maxHeartbeats 4000000 in
set_option maxRecDepth 100000 in
theorem w_add_68 {Z : yZ} (g : yG) (h arr : Nat) (n : Int32) (f : Nat → Option Nat) (A Ax : Nat → Nat) (d dx : RV) (G Gx : Nat → Nat → Int32) (r : va_W) {k0 n0 : Nat} (hk0 : k0 ≤ 25) (hn0 : n0 ≤ 236) (C : yC Z g cX1_add 3 wsX1_add RX1) {post : List va_W → Prop} (HRv : yRv Z ({ frames := 3, cells := 25, slots := 236, locals := 120 } : Room) cX1_add post 25 236) (hfin : ∀ Gx' : Nat → Nat → Int32, ∃ w, ([hcC h arr (n + 1), acC g arr 6 f, dayC A d, dayC Ax d] ++ (dayR g A d G ++ (dayR g Ax d Gx' ++ [r])) : List va_W).flatten.Perm w.flatten ∧ post w) : yJ Z ({ frames := 3, cells := 25, slots := 236, locals := 120 } : Room) k0 n0 ([hcC h arr n, acC g arr 6 f, dayC A d, dayC Ax dx] ++ (dayR g A d G ++ (dayR g Ax dx Gx ++ [r])) : List va_W) 68 [(2, .ref (Ax 0)), (0, .ref h), (1, .ref (A 0))] [] := by
  refine y_aload_n C dX1_add_68 0 rfl rfl ?_
  refine y_aload_n C dX1_add_69 2 rfl rfl ?_
  refine y_callVv (As := [.ref (A 0)]) (rest := []) C dX1_add_70 (k_X0_copy g Ax dx Gx A d G) rfl rfl rfl rfl ⟨Nat.le_of_ble_eq_true rfl, Nat.le_of_ble_eq_true rfl⟩ gX1_add_X0_copy (nA := 1) (by decide +kernel) rfl (yRecv.of (q0 := 0) (ci := 0) rfl rfl) (Nat.le_of_ble_eq_true rfl) ⟨by show k0 + 0 ≤ 25; omega, by show n0 + 0 ≤ 236; omega⟩ [3, 2, 16, 17, 18, 19, 20, 21, 22, 23, 24, 25, 26, 27, 4, 5, 6, 7, 8, 9, 10, 11, 12, 13, 14, 15] [0, 1, 28] (nB := 29) rfl (by decide +kernel) (sh_h1 g h arr n f A Ax d dx G Gx r) (fun w9 hw => ?_)
  obtain ⟨dx', Gx', e1, rfl⟩ := hw
  have e1 := e1.symm
  subst e1
  refine ⟨([hcC h arr n, acC g arr 6 f, dayC A d, dayC Ax d] ++ (dayR g A d G ++ (dayR g Ax d Gx' ++ [r])) : List va_W), ⟨sh_h1 g h arr n f A Ax d d G Gx' r, (sh_h2 g h arr n f A Ax d d G Gx' r).trans (sh_h2 g h arr n f A Ax d dx G Gx r).symm, rfl⟩, ?_⟩
  refine y_aload_n C dX1_add_73 1 rfl rfl ?_
  refine y_dup C dX1_add_74 rfl ?_
  refine y_get (Cn := RX1) (T := TX1) (N := 2) (ci := 1) (v := .int n) C dX1_add_75 hX1_add_X1 0 rfl rfl 1 (Nat.le_of_ble_eq_true rfl) kX1_add_1 rfl ?_
  refine y_iconst (v := 1) C dX1_add_78 (by decide) ?_
  refine y_iadd C dX1_add_79 ?_
  obtain ⟨w, hw1, hw2⟩ := hfin Gx'
  refine y_put (Cn := RX1) (T := TX1) (N := 2) (ci := 1) (v := .int (n + 1)) (ty0 := tyX1) (L1 := ([hcC h arr (n + 1), acC g arr 6 f, dayC A d, dayC Ax d] ++ (dayR g A d G ++ (dayR g Ax d Gx' ++ [r])) : List va_W)) C dX1_add_80 hX1_add_X1 0 rfl rfl 1 (Nat.le_of_ble_eq_true rfl) kX1_add_1 tyX1_ok nmX1 rfl rfl rfl (Nat.le_of_ble_eq_true rfl) rfl ?_
  refine y_perm hw1 ?_
  exact HRv 83 dX1_add_83 _ _ _ _ (by omega) (by omega) hw2
set_option maxHeartbeats 4000000 in
set_option maxRecDepth 100000 in
theorem w_add_16 {Z : yZ} (g : yG) (h arr n : Nat) (hn : n < 6) (f : Nat → Option Nat) (A Ax : Nat → Nat) (hf : f n = some (Ax 0)) (d dx : RV) (G Gx : Nat → Nat → Int32) (r : va_W) (C : yC Z g cX1_add 3 wsX1_add RX1) {post : List va_W → Prop} (HRv : yRv Z ({ frames := 3, cells := 25, slots := 236, locals := 120 } : Room) cX1_add post 25 236) (hfin : ∀ Gx' : Nat → Nat → Int32, ∃ w, ([hcC h arr (nI n + 1), acC g arr 6 f, dayC A d, dayC Ax d] ++ (dayR g A d G ++ (dayR g Ax d Gx' ++ [r])) : List va_W).flatten.Perm w.flatten ∧ post w) : yJ Z ({ frames := 3, cells := 25, slots := 236, locals := 120 } : Room) 0 0 ([hcC h arr (nI n), acC g arr 6 f, dayC A d, dayC Ax dx] ++ (dayR g A d G ++ (dayR g Ax dx Gx ++ [r])) : List va_W) 16 [(0, .ref h), (1, .ref (A 0))] [] := by
  refine y_aload_n C dX1_add_16 0 rfl rfl ?_
  refine y_get (Cn := RX1) (T := TX1) (N := 2) (ci := 1) (v := .int (nI n)) C dX1_add_17 hX1_add_X1 0 rfl rfl 1 (Nat.le_of_ble_eq_true rfl) kX1_add_1 rfl ?_
  refine y_if_lt (tgt := 35) C dX1_add_20 rfl (y_same (c := nI n < 0) trivial) (fun c _ => absurd c (nI_pos (by omega))) (fun _ _ => ?_)
  refine y_aload_n C dX1_add_23 0 rfl rfl ?_
  refine y_get (Cn := RX1) (T := TX1) (N := 2) (ci := 1) (v := .int (nI n)) C dX1_add_24 hX1_add_X1 0 rfl rfl 1 (Nat.le_of_ble_eq_true rfl) kX1_add_1 rfl ?_
  refine y_aload_n C dX1_add_27 0 rfl rfl ?_
  refine y_get (Cn := RX1) (T := TX1) (N := 2) (ci := 1) (v := .ref arr) C dX1_add_28 hX1_add_X1 0 rfl rfl 0 (Nat.le_of_ble_eq_true rfl) kX1_add_2 rfl ?_
  refine y_alenO (N := 6) (f := f) (v := nI 6) C dX1_add_31 1 rfl rfl ?_
  refine y_icmp_lt (tgt := 36) C dX1_add_32 rfl (y_same (c := nI n < nI 6) trivial) (fun _ _ => ?_) (fun c _ => absurd ((nI_ltI (by omega) (by omega)).mpr hn) c)
  refine y_aload_n C dX1_add_36 0 rfl rfl ?_
  refine y_get (Cn := RX1) (T := TX1) (N := 2) (ci := 1) (v := .ref arr) C dX1_add_37 hX1_add_X1 0 rfl rfl 0 (Nat.le_of_ble_eq_true rfl) kX1_add_2 rfl ?_
  refine y_aload_n C dX1_add_40 0 rfl rfl ?_
  refine y_get (Cn := RX1) (T := TX1) (N := 2) (ci := 1) (v := .int (nI n)) C dX1_add_41 hX1_add_X1 0 rfl rfl 1 (Nat.le_of_ble_eq_true rfl) kX1_add_1 rfl ?_
  refine y_aaldS (N := 6) (f := f) (v := Ax 0) C dX1_add_44 1 rfl (vp_in_nI hn (by decide)) (by rw [nI_clamp (by omega)]; exact hf) ?_
  refine y_astore_n (lv' := [(2, .ref (Ax 0)), (0, .ref h), (1, .ref (A 0))]) C dX1_add_45 rfl (Nat.le_of_ble_eq_true rfl) rfl ?_
  refine y_aload_n C dX1_add_46 0 rfl rfl ?_
  refine y_ifnonnull (tgt := 68) C dX1_add_47 rfl ?_
  exact w_add_68 g h arr (nI n) f A Ax d dx G Gx r (Nat.zero_le _) (Nat.zero_le _) C HRv hfin
def addPost (g : yG) (h arr : Nat) (xs : List RV) (A : Nat → Nat) (d : RV) (G : Nat → Nat → Int32) : List va_W → Prop := (fun w => ∃ (xs' : List RV) (R' : HR), xs' = (if 6 ≤ xs.length then xs.drop 1 else xs) ++ [d] ∧ w = ([dayC A d] ++ ([histW g h arr xs' R'] ++ dayR g A d G) : List va_W))
theorem sh_h3 (g : yG) (h arr : Nat) (n : Int32) (f : Nat → Option Nat) (A Ax : Nat → Nat) (d dx : RV) (G Gx : Nat → Nat → Int32) (r : va_W) : yPick ([hcC h arr n, acC g arr 6 f, dayC A d, dayC Ax dx] ++ (dayR g A d G ++ (dayR g Ax dx Gx ++ [r])) : List va_W) [0, 1, 2, 3, 4, 5, 6, 7, 8, 9, 10, 11, 12, 13, 14, 15, 16, 17, 18, 19, 20, 21, 22, 23, 24, 25, 26, 27, 28] = ([hcC h arr n, acC g arr 6 f] ++ ([dayC A d, dayC Ax dx] ++ (dayR g A d G ++ (dayR g Ax dx Gx ++ [r]))) : List va_W) := rfl
theorem sh_h4 (g : yG) (h arr : Nat) (n : Int32) (f : Nat → Option Nat) (A : Nat → Nat) (d : RV) (G : Nat → Nat → Int32) (r x : va_W) : yPick ([hcC h arr n, acC g arr 6 f, dayC A d] ++ (dayR g A d G ++ [r, x]) : List va_W) [16] = ([x] : List va_W) := rfl
theorem sh_h5 (g : yG) (h arr : Nat) (n : Int32) (f : Nat → Option Nat) (A : Nat → Nat) (d : RV) (G : Nat → Nat → Int32) (r x x2 : va_W) : yPick ([hcC h arr n, acC g arr 6 f, dayC A d] ++ (dayR g A d G ++ [r, x]) : List va_W) [0, 1, 2, 3, 4, 5, 6, 7, 8, 9, 10, 11, 12, 13, 14, 15] = yPick ([hcC h arr n, acC g arr 6 f, dayC A d] ++ (dayR g A d G ++ [r, x2]) : List va_W) [0, 1, 2, 3, 4, 5, 6, 7, 8, 9, 10, 11, 12, 13, 14, 15] := by
  have e : ∀ z : va_W, yPick ([hcC h arr n, acC g arr 6 f, dayC A d] ++ (dayR g A d G ++ [r, z]) : List va_W) [0, 1, 2, 3, 4, 5, 6, 7, 8, 9, 10, 11, 12, 13, 14, 15] = ([hcC h arr n, acC g arr 6 f, dayC A d] ++ (dayR g A d G ++ [r]) : List va_W) := fun z => rfl
  rw [e, e]
/-- how a day is put behind the others, once there is a room -/
theorem add_close {g : yG} {h arr : Nat} {xs : List RV} {A : Nat → Nat} {d : RV} {G : Nat → Nat → Int32} (ys : List RV) (P S : HR) (Ax : Nat → Nat) (Gx' : Nat → Nat → Int32) (f : Nat → Option Nat) (e1 : ys = P.map (fun x => x.2.1)) (e2 : (P ++ (Ax, d, Gx') :: S).length ≤ 6) (e3 : f = rmF (P ++ (Ax, d, Gx') :: S)) (e4 : ys = (if 6 ≤ xs.length then xs.drop 1 else xs)) : ∃ w, ([hcC h arr (nI P.length + 1), acC g arr 6 f, dayC A d, dayC Ax d] ++ (dayR g A d G ++ (dayR g Ax d Gx' ++ [(rmW g P ++ rmW g S)])) : List va_W).flatten.Perm w.flatten ∧ addPost g h arr xs A d G w := by
  refine ⟨_, ?_, ys ++ [d], P ++ (Ax, d, Gx') :: S, by rw [e4], rfl⟩
  have hp := hist_openX (g := g) (h := h) (arr := arr) (A := A) (d := d) (G := G) (hOk_push e1 e2)
  rw [show nI (ys ++ [d]).length = nI P.length + 1 by rw [e1, nI_1]; simp] at hp
  rw [e3]
  exact hp.symm
def dayF (A : Nat → Nat) (d : RV) : List Value := [.ref (A 1), .ref (A 3), .ref (A 5), .ref (A 7), .ref (A 9), .ref (A 11), .ref (A 13), .ref (A 15), .ref (A 17), .ref (A 19), .ref (A 21), .ref (A 23), .int (d.2 0), .int (d.2 1), .int (d.2 2)]
theorem dayC_mem (A : Nat → Nat) (d : RV) : (A 0, (.inr (0, dayF A d) : va_E)) ∈ dayC A d := List.mem_singleton.mpr rfl
theorem rmF_mem (g : yG) : ∀ (R : HR) (j : Nat), j < R.length → ∃ v vs, rmF R j = some v ∧ (v, (.inr (0, vs) : va_E)) ∈ rmW g R
  | [], j, h => absurd h (Nat.not_lt_zero j)
  | x :: R, 0, _ => ⟨x.1 0, dayF x.1 x.2.1, rfl, by
      rw [rmW_cons]
      refine List.mem_append_left _ ?_
      unfold dayW
      rw [List.flatten_cons]
      exact List.mem_append_left _ (dayC_mem _ _)⟩
  | x :: R, j + 1, h => by
    obtain ⟨v, vs, h1, h2⟩ := rmF_mem g R j (Nat.lt_of_succ_lt_succ h)
    refine ⟨v, vs, ?_, by rw [rmW_cons]; exact List.mem_append_right _ h2⟩
    unfold rmF at h1 ⊢
    rw [List.getElem?_cons_succ]
    exact h1
set_option maxHeartbeats 4000000 in
set_option maxRecDepth 100000 in
theorem add_case6 {Z : yZ} (g : yG) (h arr : Nat) (xs : List RV) (A : Nat → Nat) (d : RV) (G : Nat → Nat → Int32) (C : yC Z g cX1_add 3 wsX1_add RX1) (HRv : yRv Z ({ frames := 3, cells := 25, slots := 236, locals := 120 } : Room) cX1_add (addPost g h arr xs A d G) 25 236) (Ax : Nat → Nat) (dx : RV) (Gx : Nat → Nat → Int32) (S : HR) (c6 : 6 ≤ xs.length) (hS5 : S.length = 5) (hxs : xs = dx :: S.map (fun x => x.2.1)) : yJ Z ({ frames := 3, cells := 25, slots := 236, locals := 120 } : Room) 0 0 ([hcC h arr (nI 6), acC g arr 6 (rmF ((Ax, dx, Gx) :: S)), dayC A d, dayC Ax dx] ++ (dayR g A d G ++ (dayR g Ax dx Gx ++ [(rmW g [] ++ rmW g S)])) : List va_W) 0 [(0, .ref h), (1, .ref (A 0))] [] := by
  have hroom : ∀ j, j < 6 → ∃ v vs, rmF ((Ax, dx, Gx) :: S) j = some v ∧ (v, (.inr (0, vs) : va_E)) ∈ ([dayC A d, dayC Ax dx] ++ (dayR g A d G ++ (dayR g Ax dx Gx ++ [rmW g [] ++ rmW g S])) : List va_W).flatten := by
    intro j hj
    obtain ⟨v, vs, h1, h2⟩ := rmF_mem g ((Ax, dx, Gx) :: S) j (by simp; omega)
    refine ⟨v, vs, h1, ?_⟩
    rw [rmW_cons] at h2
    simp only [List.flatten_append, List.flatten_cons, List.flatten_nil, List.mem_append, dayW] at h2 ⊢
    rcases h2 with (h2 | h2) | h2
    · exact Or.inl (Or.inr (Or.inl h2))
    · exact Or.inr (Or.inr (Or.inl h2))
    · exact Or.inr (Or.inr (Or.inr (Or.inl (Or.inr h2))))
  have hturn := rmF_turn (Ax, dx, Gx) S hS5
  have hat : rmF (S ++ [(Ax, dx, Gx)]) 5 = some (Ax 0) := by rw [← hS5]; exact rmF_at S [] (Ax, dx, Gx)
  have hrf0 : rmF ((Ax, dx, Gx) :: S) 0 = some (Ax 0) := rfl
  have hclose : ∀ Gx' : Nat → Nat → Int32, ∃ w, ([hcC h arr (nI 5 + 1), acC g arr 6 (rmF (S ++ [(Ax, dx, Gx)])), dayC A d, dayC Ax d] ++ (dayR g A d G ++ (dayR g Ax d Gx' ++ [(rmW g [] ++ rmW g S)])) : List va_W).flatten.Perm w.flatten ∧ addPost g h arr xs A d G w := by
    intro Gx'
    obtain ⟨w, h1, h2⟩ := add_close (g := g) (h := h) (arr := arr) (xs := xs) (A := A) (d := d) (G := G) (S.map (fun x => x.2.1)) S [] Ax Gx' (rmF (S ++ [(Ax, dx, Gx)])) rfl (by simp; omega) (rmF_same S [] Ax dx d Gx Gx') (by rw [if_pos c6, hxs]; rfl)
    refine ⟨w, ?_, h2⟩
    rw [hS5] at h1
    rw [show rmW g [] ++ rmW g S = rmW g S ++ rmW g [] by simp [rmW]]
    exact h1
  generalize rmF ((Ax, dx, Gx) :: S) = f at hroom hturn hrf0 ⊢
  generalize rmF (S ++ [(Ax, dx, Gx)]) = f2 at hturn hat hclose
  generalize rmW g [] ++ rmW g S = r at hroom hclose ⊢
  refine y_aload_n C dX1_add_0 0 rfl rfl ?_
  refine y_get (Cn := RX1) (T := TX1) (N := 2) (ci := 1) (v := .int (nI 6)) C dX1_add_1 hX1_add_X1 0 rfl rfl 1 (Nat.le_of_ble_eq_true rfl) kX1_add_1 rfl ?_
  refine y_aload_n C dX1_add_4 0 rfl rfl ?_
  refine y_get (Cn := RX1) (T := TX1) (N := 2) (ci := 1) (v := .ref arr) C dX1_add_5 hX1_add_X1 0 rfl rfl 0 (Nat.le_of_ble_eq_true rfl) kX1_add_2 rfl ?_
  refine y_alenO (N := 6) (f := f) (v := nI 6) C dX1_add_8 1 rfl rfl ?_
  refine y_icmp_lt (tgt := 16) C dX1_add_9 rfl (y_same (c := nI 6 < nI 6) trivial) (fun c _ => absurd c (by decide)) (fun _ _ => ?_)
  refine y_aload_n C dX1_add_12 0 rfl rfl ?_
  refine y_callVv (As := []) (rest := []) C dX1_add_13 (c_X1_dropOldest g h arr (nI 6) f ([dayC A d, dayC Ax dx] ++ (dayR g A d G ++ (dayR g Ax dx Gx ++ [r]))) hroom (Ax 0) hrf0) rfl rfl rfl rfl ⟨Nat.le_of_ble_eq_true rfl, Nat.le_of_ble_eq_true rfl⟩ gX1_add_X1_dropOldest (nA := 0) (by decide +kernel) rfl (yRecv.of (q0 := 0) (ci := 1) rfl rfl) (Nat.le_of_ble_eq_true rfl) ⟨Nat.le_of_ble_eq_true rfl, Nat.le_of_ble_eq_true rfl⟩ [0, 1, 2, 3, 4, 5, 6, 7, 8, 9, 10, 11, 12, 13, 14, 15, 16, 17, 18, 19, 20, 21, 22, 23, 24, 25, 26, 27, 28] [] (nB := 29) rfl (by decide +kernel) (sh_h3 g h arr (nI 6) f A Ax d dx G Gx r) (fun w9 hw => ?_)
  subst hw
  rw [hturn]
  refine ⟨([hcC h arr 5, acC g arr 6 f2, dayC A d, dayC Ax dx] ++ (dayR g A d G ++ (dayR g Ax dx Gx ++ [r])) : List va_W), ⟨sh_h3 g h arr 5 f2 A Ax d dx G Gx r, rfl, rfl⟩, ?_⟩
  exact w_add_16 g h arr 5 (by omega) f2 A Ax hat d dx G Gx r C HRv hclose
set_option maxHeartbeats 4000000 in
set_option maxRecDepth 100000 in
theorem add_caseRoom {Z : yZ} (g : yG) (h arr : Nat) (xs : List RV) (A : Nat → Nat) (d : RV) (G : Nat → Nat → Int32) (C : yC Z g cX1_add 3 wsX1_add RX1) (HRv : yRv Z ({ frames := 3, cells := 25, slots := 236, locals := 120 } : Room) cX1_add (addPost g h arr xs A d G) 25 236) (Ax : Nat → Nat) (dx : RV) (Gx : Nat → Nat → Int32) (P1 S1 : HR) (c6 : ¬ 6 ≤ xs.length) (e2 : P1.length = xs.length) (o2 : (P1 ++ (Ax, dx, Gx) :: S1).length ≤ 6) (hxs : xs = P1.map (fun x => x.2.1)) : yJ Z ({ frames := 3, cells := 25, slots := 236, locals := 120 } : Room) 0 0 ([hcC h arr (nI P1.length), acC g arr 6 (rmF (P1 ++ (Ax, dx, Gx) :: S1)), dayC A d, dayC Ax dx] ++ (dayR g A d G ++ (dayR g Ax dx Gx ++ [(rmW g P1 ++ rmW g S1)])) : List va_W) 0 [(0, .ref h), (1, .ref (A 0))] [] := by
  have hat := rmF_at P1 S1 (Ax, dx, Gx)
  have hclose : ∀ Gx' : Nat → Nat → Int32, ∃ w, ([hcC h arr (nI P1.length + 1), acC g arr 6 (rmF (P1 ++ (Ax, dx, Gx) :: S1)), dayC A d, dayC Ax d] ++ (dayR g A d G ++ (dayR g Ax d Gx' ++ [(rmW g P1 ++ rmW g S1)])) : List va_W).flatten.Perm w.flatten ∧ addPost g h arr xs A d G w := fun Gx' => add_close (P1.map (fun x => x.2.1)) P1 S1 Ax Gx' _ rfl (by simpa using o2) (rmF_same P1 S1 Ax dx d Gx Gx') (by rw [if_neg c6]; exact hxs.symm)
  generalize rmF (P1 ++ (Ax, dx, Gx) :: S1) = f at hat hclose ⊢
  generalize rmW g P1 ++ rmW g S1 = r at hclose ⊢
  refine y_aload_n C dX1_add_0 0 rfl rfl ?_
  refine y_get (Cn := RX1) (T := TX1) (N := 2) (ci := 1) (v := .int (nI P1.length)) C dX1_add_1 hX1_add_X1 0 rfl rfl 1 (Nat.le_of_ble_eq_true rfl) kX1_add_1 rfl ?_
  refine y_aload_n C dX1_add_4 0 rfl rfl ?_
  refine y_get (Cn := RX1) (T := TX1) (N := 2) (ci := 1) (v := .ref arr) C dX1_add_5 hX1_add_X1 0 rfl rfl 0 (Nat.le_of_ble_eq_true rfl) kX1_add_2 rfl ?_
  refine y_alenO (N := 6) (f := f) (v := nI 6) C dX1_add_8 1 rfl rfl ?_
  refine y_icmp_lt (tgt := 16) C dX1_add_9 rfl (y_same (c := nI P1.length < nI 6) trivial) (fun _ _ => ?_) (fun c _ => absurd ((nI_ltI (by omega) (by omega)).mpr (by omega)) c)
  exact w_add_16 g h arr P1.length (by omega) f A Ax hat d dx G Gx r C HRv hclose
set_option maxHeartbeats 4000000 in
set_option maxRecDepth 100000 in
theorem add_caseNew {Z : yZ} (g : yG) (h arr : Nat) (xs : List RV) (A : Nat → Nat) (d : RV) (G : Nat → Nat → Int32) (C : yC Z g cX1_add 3 wsX1_add RX1) (HRv : yRv Z ({ frames := 3, cells := 25, slots := 236, locals := 120 } : Room) cX1_add (addPost g h arr xs A d G) 25 236) (R : HR) (c6 : ¬ 6 ≤ xs.length) (hR : R.length = xs.length) (hxs : xs = R.map (fun x => x.2.1)) : yJ Z ({ frames := 3, cells := 25, slots := 236, locals := 120 } : Room) 0 0 ([hcC h arr (nI R.length), acC g arr 6 (rmF R), dayC A d] ++ (dayR g A d G ++ [rmW g R]) : List va_W) 0 [(0, .ref h), (1, .ref (A 0))] [] := by
  have hnone := rmF_none R
  have hm : R.length < 6 := by omega
  have hclose : ∀ (Ax : Nat → Nat) (Gx' : Nat → Nat → Int32), ∃ w, ([hcC h arr (nI R.length + 1), acC g arr 6 (va_up (rmF R) R.length (some (Ax 0))), dayC A d, dayC Ax d] ++ (dayR g A d G ++ (dayR g Ax d Gx' ++ [(rmW g R ++ rmW g [])])) : List va_W).flatten.Perm w.flatten ∧ addPost g h arr xs A d G w := fun Ax Gx' => add_close (R.map (fun x => x.2.1)) R [] Ax Gx' _ rfl (by simp; omega) (rmF_push R Ax d Gx') (by rw [if_neg c6]; exact hxs.symm)
  rw [show rmW g R ++ rmW g [] = rmW g R by simp [rmW]] at hclose
  generalize rmF R = f at hnone hclose ⊢
  generalize R.length = m at hnone hm hclose ⊢
  generalize rmW g R = r at hclose ⊢
  refine y_aload_n C dX1_add_0 0 rfl rfl ?_
  refine y_get (Cn := RX1) (T := TX1) (N := 2) (ci := 1) (v := .int (nI m)) C dX1_add_1 hX1_add_X1 0 rfl rfl 1 (Nat.le_of_ble_eq_true rfl) kX1_add_1 rfl ?_
  refine y_aload_n C dX1_add_4 0 rfl rfl ?_
  refine y_get (Cn := RX1) (T := TX1) (N := 2) (ci := 1) (v := .ref arr) C dX1_add_5 hX1_add_X1 0 rfl rfl 0 (Nat.le_of_ble_eq_true rfl) kX1_add_2 rfl ?_
  refine y_alenO (N := 6) (f := f) (v := nI 6) C dX1_add_8 1 rfl rfl ?_
  refine y_icmp_lt (tgt := 16) C dX1_add_9 rfl (y_same (c := nI m < nI 6) trivial) (fun _ _ => ?_) (fun c _ => absurd ((nI_ltI (by omega) (by omega)).mpr (by omega)) c)
  refine y_aload_n C dX1_add_16 0 rfl rfl ?_
  refine y_get (Cn := RX1) (T := TX1) (N := 2) (ci := 1) (v := .int (nI m)) C dX1_add_17 hX1_add_X1 0 rfl rfl 1 (Nat.le_of_ble_eq_true rfl) kX1_add_1 rfl ?_
  refine y_if_lt (tgt := 35) C dX1_add_20 rfl (y_same (c := nI m < 0) trivial) (fun c _ => absurd c (nI_pos (by omega))) (fun _ _ => ?_)
  refine y_aload_n C dX1_add_23 0 rfl rfl ?_
  refine y_get (Cn := RX1) (T := TX1) (N := 2) (ci := 1) (v := .int (nI m)) C dX1_add_24 hX1_add_X1 0 rfl rfl 1 (Nat.le_of_ble_eq_true rfl) kX1_add_1 rfl ?_
  refine y_aload_n C dX1_add_27 0 rfl rfl ?_
  refine y_get (Cn := RX1) (T := TX1) (N := 2) (ci := 1) (v := .ref arr) C dX1_add_28 hX1_add_X1 0 rfl rfl 0 (Nat.le_of_ble_eq_true rfl) kX1_add_2 rfl ?_
  refine y_alenO (N := 6) (f := f) (v := nI 6) C dX1_add_31 1 rfl rfl ?_
  refine y_icmp_lt (tgt := 36) C dX1_add_32 rfl (y_same (c := nI m < nI 6) trivial) (fun _ _ => ?_) (fun c _ => absurd ((nI_ltI (by omega) (by omega)).mpr (by omega)) c)
  refine y_aload_n C dX1_add_36 0 rfl rfl ?_
  refine y_get (Cn := RX1) (T := TX1) (N := 2) (ci := 1) (v := .ref arr) C dX1_add_37 hX1_add_X1 0 rfl rfl 0 (Nat.le_of_ble_eq_true rfl) kX1_add_2 rfl ?_
  refine y_aload_n C dX1_add_40 0 rfl rfl ?_
  refine y_get (Cn := RX1) (T := TX1) (N := 2) (ci := 1) (v := .int (nI m)) C dX1_add_41 hX1_add_X1 0 rfl rfl 1 (Nat.le_of_ble_eq_true rfl) kX1_add_1 rfl ?_
  refine y_aaldN (N := 6) (f := f) C dX1_add_44 1 rfl (vp_in_nI (by omega) (by decide)) (by rw [nI_clamp (by omega)]; exact hnone) ?_
  refine y_astoreN_n (lv' := [(2, .null), (0, .ref h), (1, .ref (A 0))]) C dX1_add_45 rfl (Nat.le_of_ble_eq_true rfl) rfl ?_
  refine y_aloadN_n C dX1_add_46 0 rfl rfl ?_
  refine y_ifnonnullN C dX1_add_47 ?_
  refine y_new (Cn := RX0) (T := TX0) (N := 15) (ci := 0) (fs := [.null, .null, .null, .null, .null, .null, .null, .null, .null, .null, .null, .null, .int 0, .int 0, .int 0]) (ty0 := tyX0) C dX1_add_50 hX1_add_X0 tyX0_ok kX1_add_3 kX1_add_4 kX1_add_5 rfl (fun j hj => by rcases (show j = 0 ∨ j = 1 ∨ j = 2 ∨ j = 3 ∨ j = 4 ∨ j = 5 ∨ j = 6 ∨ j = 7 ∨ j = 8 ∨ j = 9 ∨ j = 10 ∨ j = 11 ∨ j = 12 ∨ j = 13 ∨ j = 14 by omega) with rfl | rfl | rfl | rfl | rfl | rfl | rfl | rfl | rfl | rfl | rfl | rfl | rfl | rfl | rfl <;> rfl) (Nat.le_of_ble_eq_true rfl) (Nat.le_of_ble_eq_true rfl) (fun q => ?_)
  refine y_world (L1 := ([hcC h arr (nI m), acC g arr 6 f, dayC A d] ++ (dayR g A d G ++ [r, [(q, .inr (0, [.null, .null, .null, .null, .null, .null, .null, .null, .null, .null, .null, .null, .int 0, .int 0, .int 0]))]]) : List va_W)) (by simp only [List.flatten_append, List.flatten_cons, List.flatten_nil, List.append_nil, List.append_assoc]) ?_
  refine y_dup C dX1_add_53 rfl ?_
  refine y_callI (As := []) (rest := [.ref q]) C dX1_add_54 (c_X0_init g q) rfl rfl rfl rfl ⟨Nat.le_of_ble_eq_true rfl, Nat.le_of_ble_eq_true rfl⟩ gX1_add_X0_init kX1_add_11 kX1_add_5 kX1_add_12 rfl (nA := 0) (by decide +kernel) rfl (Nat.le_of_ble_eq_true rfl) ⟨Nat.le_of_ble_eq_true rfl, Nat.le_of_ble_eq_true rfl⟩ [16] [0, 1, 2, 3, 4, 5, 6, 7, 8, 9, 10, 11, 12, 13, 14, 15] (nB := 17) rfl (by decide +kernel) (sh_h4 g h arr (nI m) f A d G r _) (fun w9 hw => ?_)
  obtain ⟨Ax, Gx, rfl, rfl⟩ := hw
  refine ⟨([hcC h arr (nI m), acC g arr 6 f, dayC A d] ++ (dayR g A d G ++ [r, dayW g Ax D0 Gx]) : List va_W), ⟨sh_h4 g h arr (nI m) f A d G r _, sh_h5 g h arr (nI m) f A d G r _ _, rfl⟩, ?_⟩
  refine y_perm (L1 := ([hcC h arr (nI m), acC g arr 6 f, dayC A d, dayC Ax D0] ++ (dayR g A d G ++ (dayR g Ax D0 Gx ++ [r])) : List va_W)) ?_ ?_
  · have hh := y_permOf [hcC h arr (nI m), acC g arr 6 f, dayC A d, (dayR g A d G).flatten, r, dayC Ax D0, (dayR g Ax D0 Gx).flatten] [0, 1, 2, 5, 3, 6, 4] [] rfl
    simpa [yPick, dayW] using hh
  refine y_astore_n (lv' := [(2, .ref (Ax 0)), (0, .ref h), (1, .ref (A 0))]) C dX1_add_57 rfl (Nat.le_of_ble_eq_true rfl) rfl ?_
  refine y_aload_n C dX1_add_58 1 rfl rfl ?_
  refine y_get (Cn := RX1) (T := TX1) (N := 2) (ci := 1) (v := .ref arr) C dX1_add_59 hX1_add_X1 0 rfl rfl 0 (Nat.le_of_ble_eq_true rfl) kX1_add_2 rfl ?_
  refine y_aload_n C dX1_add_62 1 rfl rfl ?_
  refine y_get (Cn := RX1) (T := TX1) (N := 2) (ci := 1) (v := .int (nI m)) C dX1_add_63 hX1_add_X1 0 rfl rfl 1 (Nat.le_of_ble_eq_true rfl) kX1_add_1 rfl ?_
  refine y_aload_n C dX1_add_66 0 rfl rfl ?_
  refine y_aast (ci := 0) (N := 6) (f := f) (L1 := ([hcC h arr (nI m), acC g arr 6 (va_up f m (some (Ax 0))), dayC A d, dayC Ax D0] ++ (dayR g A d G ++ (dayR g Ax D0 Gx ++ [r])) : List va_W)) C dX1_add_67 1 3 rfl rfl (vp_in_nI (by omega) (by decide)) (by rw [nI_clamp (by omega)]; rfl) ?_
  exact w_add_68 g h arr (nI m) (va_up f m (some (Ax 0))) A Ax d D0 G Gx r (Nat.le_of_ble_eq_true rfl) (Nat.le_of_ble_eq_true rfl) C HRv (hclose Ax)
set_option maxHeartbeats 4000000 in
set_option maxRecDepth 100000 in
theorem c_X1_add (g : yG) (h arr : Nat) (xs : List RV) (R : HR) (A : Nat → Nat) (d : RV) (G : Nat → Nat → Int32) : yMv g yX1_add wsX1_add ({ frames := 3, cells := 25, slots := 236, locals := 120 } : Room) [.ref h, .ref (A 0)] ([dayC A d] ++ ([histW g h arr xs R] ++ dayR g A d G) : List va_W) (fun w => ∃ (xs' : List RV) (R' : HR), xs' = (if 6 ≤ xs.length then xs.drop 1 else xs) ++ [d] ∧ w = ([dayC A d] ++ ([histW g h arr xs' R'] ++ dayR g A d G) : List va_W)) 25 236 := by
  refine yMv_fact (F := hOk xs R) (fun A9 hD => hist_mem (g := g) (h := h) (arr := arr) (by simp) hD) (fun ok => ?_)
  have ok0 := ok
  obtain ⟨o1, o2, o3⟩ := ok
  refine y_entryV (cc := cX1_add) (maxL := 3) (by decide +kernel) rfl (Nat.le_of_ble_eq_true rfl) (fun Z C _ HRv => ?_)
  have C : yC Z g cX1_add 3 wsX1_add RX1 := C
  show yJ Z _ 0 0 _ 0 [(0, .ref h), (1, .ref (A 0))] []
  by_cases c6 : 6 ≤ xs.length
  · have hR6 : R.length = 6 := by omega
    obtain ⟨x, S, rfl⟩ : ∃ x S, R = x :: S := by
      cases R with
      | nil => simp at hR6
      | cons x S => exact ⟨x, S, rfl⟩
    obtain ⟨Ax, dx, Gx⟩ := x
    have hS5 : S.length = 5 := by simpa using hR6
    have hx6 : xs.length = 6 := by simp at o1; omega
    have hxs : xs = dx :: S.map (fun x => x.2.1) := by
      rw [hx6] at o3
      rw [o3]
      simp [List.take_of_length_le, hS5]
    refine y_perm (hist_openX (P := []) (S := S) (Ax := Ax) (dx := dx) (Gx := Gx) ok0) ?_
    rw [hx6, List.nil_append]
    exact add_case6 g h arr xs A d G C HRv Ax dx Gx S c6 hS5 hxs
  · by_cases cR : xs.length < R.length
    · obtain ⟨P1, y, S1, e1, e2⟩ : ∃ P1 y S1, R = P1 ++ y :: S1 ∧ P1.length = xs.length := ⟨R.take xs.length, R[xs.length], R.drop (xs.length + 1), by rw [← List.drop_eq_getElem_cons cR, List.take_append_drop], by simp; omega⟩
      obtain ⟨Ax, dx, Gx⟩ := y
      subst e1
      have hxs : xs = P1.map (fun x => x.2.1) := by
        rw [← e2] at o3
        rw [o3]
        simp
      refine y_perm (hist_openX (P := P1) (S := S1) (Ax := Ax) (dx := dx) (Gx := Gx) ok0) ?_
      rw [← e2]
      exact add_caseRoom g h arr xs A d G C HRv Ax dx Gx P1 S1 c6 e2 o2 hxs
    · have hR : R.length = xs.length := by omega
      have hxs : xs = R.map (fun x => x.2.1) := by
        rw [← hR, List.take_of_length_le (Nat.le_refl _)] at o3
        exact o3
      refine y_perm (hist_open ok0) ?_
      rw [← hR]
      exact add_caseNew g h arr xs A d G C HRv R c6 hR hxs
