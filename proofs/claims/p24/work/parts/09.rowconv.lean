/-! ===== the Row's contracts over lists ===== -/
theorem yMv_void {g : yG} {y : MethodName} {ws : List Cond} {rm : Room} {As : List Value} {B : List va_W} {post : List va_W → Prop} {mc ms : Nat} (hB : ∀ A, ¬ va_D A B.flatten) : yMv g y ws rm As B post mc ms := by
  intro sz p e ha hf hc s m args below hfr happ hpre hk
  obtain ⟨-, -, -, -, hD⟩ := hpre
  exact absurd hD (hB _)
theorem yM_void {g : yG} {y : MethodName} {ws : List Cond} {rm : Room} {As : List Value} {B : List va_W} {post : Int32 → List va_W → Prop} {mc ms : Nat} (hB : ∀ A, ¬ va_D A B.flatten) : yM g y ws rm As B post mc ms := by
  intro sz p e ha hf hc s m args below hfr happ hpre hk
  obtain ⟨-, -, -, -, hD⟩ := hpre
  exact absurd hD (hB _)
theorem row_void {cI : ClassId} {r a cap : Nat} {xs : List Int32} {h : Nat → Int32} (hl : ¬ xs.length ≤ cap) (Bs : List va_W) : ∀ A, ¬ va_D A ([] ++ ([rowW cI r a cap xs h] ++ Bs) : List va_W).flatten := fun A hD => hl (rowW_len (yD_app hD).1)
theorem row_flat {cI : ClassId} {r a cap : Nat} {xs : List Int32} {h : Nat → Int32} (hl : xs.length ≤ cap) (Bs : List va_W) : ([] ++ ([rowW cI r a cap xs h] ++ Bs) : List va_W).flatten = ([[(r, .inr (3, [.ref a, .int (nI xs.length)]))], [(a, .inl (cI, cap, .inl (rowf xs h)))]] ++ Bs : List va_W).flatten := by
  rw [List.nil_append, List.singleton_append, List.flatten_cons, rowW_pos hl]
  rfl
theorem rowOk_flat {cI : ClassId} {r a cap : Nat} {ys : List Int32} {n : Int32} {f : Nat → Int32} (h : rowOk cap ys n f) (Bs : List va_W) : ([] ++ ([rowW cI r a cap ys f] ++ Bs) : List va_W).flatten = ([[(r, .inr (3, [.ref a, .int n]))], [(a, .inl (cI, cap, .inl f))]] ++ Bs : List va_W).flatten := by
  obtain ⟨h1, h2, h3⟩ := h
  rw [row_flat h1, rowf_self h3, h2]
section ROWC
variable (g : yG) (r a cap : Nat) (xs : List Int32) (h : Nat → Int32)
theorem c_X3_length (hc : cap < 2147483648) : yM g yX3_length wsX3_length ({ frames := 0, cells := 0, slots := 0, locals := 0 } : Room) [.ref r] ([] ++ [rowW g.2.2.1 r a cap xs h] : List va_W) (fun r' w => r' = rLen xs ∧ w = ([] ++ [rowW g.2.2.1 r a cap xs h] : List va_W)) 0 0 := by
  by_cases hl : xs.length ≤ cap
  · refine yM.conv (t_X3_length g r a cap (nI xs.length) (rowf xs h) (post := fun r' w => r' = rLen xs ∧ w = [[(r, .inr (3, [.ref a, .int (nI xs.length)]))], [(a, .inl (g.2.2.1, cap, .inl (rowf xs h)))]]) (fun r' hr => ⟨hr, rfl⟩) p_X3_length) (row_flat hl []) ?_
    rintro r' w ⟨h1, rfl⟩
    exact ⟨_, row_flat hl [], h1, rfl⟩
  · exact yM_void (row_void hl [])
theorem c_X3_at (p : Int32) (hc : cap < 2147483648) : yM g yX3_at wsX3_at ({ frames := 0, cells := 0, slots := 0, locals := 0 } : Room) [.ref r, .int p] ([] ++ [rowW g.2.2.1 r a cap xs h] : List va_W) (fun r' w => r' = rAt xs p ∧ w = ([] ++ [rowW g.2.2.1 r a cap xs h] : List va_W)) 0 0 := by
  by_cases hl : xs.length ≤ cap
  · refine yM.conv (t_X3_at g r a cap (nI xs.length) (rowf xs h) p (post := fun r' w => r' = rAt xs p ∧ w = [[(r, .inr (3, [.ref a, .int (nI xs.length)]))], [(a, .inl (g.2.2.1, cap, .inl (rowf xs h)))]]) (fun r' hr => ⟨hr, rfl⟩) (p_X3_at hl hc)) (row_flat hl []) ?_
    rintro r' w ⟨h1, rfl⟩
    exact ⟨_, row_flat hl [], h1, rfl⟩
  · exact yM_void (row_void hl [])
theorem row_mut {y : MethodName} {ws : List Cond} {rm : Room} {As : List Value} {ys : List Int32} (t : xs.length ≤ cap → yMv g y ws rm As ([[(r, .inr (3, [.ref a, .int (nI xs.length)]))], [(a, .inl (g.2.2.1, cap, .inl (rowf xs h)))]] : List va_W) (fun w => ∃ n f, rowOk cap ys n f ∧ w = [[(r, .inr (3, [.ref a, .int n]))], [(a, .inl (g.2.2.1, cap, .inl f))]]) 0 0) : yMv g y ws rm As ([] ++ [rowW g.2.2.1 r a cap xs h] : List va_W) (fun w => ∃ (ys' : List Int32) (h' : Nat → Int32), ys' = ys ∧ w = ([] ++ [rowW g.2.2.1 r a cap ys' h'] : List va_W)) 0 0 := by
  by_cases hl : xs.length ≤ cap
  · refine yMv.conv (t hl) (row_flat hl []) ?_
    rintro w ⟨n, f, hk, rfl⟩
    exact ⟨_, rowOk_flat hk [], ys, f, rfl, rfl⟩
  · exact yMv_void (row_void hl [])
theorem c_X3_change (p v : Int32) (hc : cap < 2147483648) : yMv g yX3_change wsX3_change ({ frames := 0, cells := 0, slots := 0, locals := 0 } : Room) [.ref r, .int p, .int v] ([] ++ [rowW g.2.2.1 r a cap xs h] : List va_W) (fun w => ∃ (ys' : List Int32) (h' : Nat → Int32), ys' = (rSet xs p v) ∧ w = ([] ++ [rowW g.2.2.1 r a cap ys' h'] : List va_W)) 0 0 :=
  row_mut g r a cap xs h (fun hl => t_X3_change g r a cap (nI xs.length) (rowf xs h) p v (fun n f hk => ⟨n, f, hk, rfl⟩) (p_X3_change hl hc))
theorem c_X3_insert (p v : Int32) (hc : cap < 2147483648) : yMv g yX3_insert wsX3_insert ({ frames := 0, cells := 0, slots := 0, locals := 0 } : Room) [.ref r, .int p, .int v] ([] ++ [rowW g.2.2.1 r a cap xs h] : List va_W) (fun w => ∃ (ys' : List Int32) (h' : Nat → Int32), ys' = (rIns cap xs p v) ∧ w = ([] ++ [rowW g.2.2.1 r a cap ys' h'] : List va_W)) 0 0 :=
  row_mut g r a cap xs h (fun hl => t_X3_insert g r a cap (nI xs.length) (rowf xs h) p v (fun n f hk => ⟨n, f, hk, rfl⟩) (p_X3_insert hl hc))
theorem c_X3_remove (p : Int32) (hc : cap < 2147483648) : yMv g yX3_remove wsX3_remove ({ frames := 0, cells := 0, slots := 0, locals := 0 } : Room) [.ref r, .int p] ([] ++ [rowW g.2.2.1 r a cap xs h] : List va_W) (fun w => ∃ (ys' : List Int32) (h' : Nat → Int32), ys' = (rDel xs p) ∧ w = ([] ++ [rowW g.2.2.1 r a cap ys' h'] : List va_W)) 0 0 :=
  row_mut g r a cap xs h (fun hl => t_X3_remove g r a cap (nI xs.length) (rowf xs h) p (fun n f hk => ⟨n, f, hk, rfl⟩) (p_X3_remove hl hc))
theorem c_X3_clear (hc : cap < 2147483648) : yMv g yX3_clear wsX3_clear ({ frames := 0, cells := 0, slots := 0, locals := 0 } : Room) [.ref r] ([] ++ [rowW g.2.2.1 r a cap xs h] : List va_W) (fun w => ∃ (ys' : List Int32) (h' : Nat → Int32), ys' = [] ∧ w = ([] ++ [rowW g.2.2.1 r a cap ys' h'] : List va_W)) 0 0 :=
  row_mut g r a cap xs h (fun hl => t_X3_clear g r a cap (nI xs.length) (rowf xs h) (fun n f hk => ⟨n, f, hk, rfl⟩) p_X3_clear)
theorem c_X3_copy (q b cap' : Nat) (ys : List Int32) (h' : Nat → Int32) (hc : cap < 2147483648) (hc' : cap' < 2147483648) : yMv g yX3_copy wsX3_copy ({ frames := 1, cells := 0, slots := 0, locals := 21 } : Room) [.ref r, .ref q] ([] ++ ([rowW g.2.2.1 r a cap xs h] ++ [rowW g.2.2.1 q b cap' ys h']) : List va_W) (fun w => ∃ (ys' : List Int32) (h2 : Nat → Int32), ys' = (rCopy cap ys) ∧ w = ([] ++ ([rowW g.2.2.1 r a cap ys' h2] ++ [rowW g.2.2.1 q b cap' ys h']) : List va_W)) 0 0 := by
  by_cases hl : xs.length ≤ cap
  · by_cases hy : ys.length ≤ cap'
    · have e : ∀ X : List va_W, (X ++ [rowW g.2.2.1 q b cap' ys h'] : List va_W).flatten = (X ++ [[(q, .inr (3, [.ref b, .int (nI ys.length)]))], [(b, .inl (g.2.2.1, cap', .inl (rowf ys h')))]] : List va_W).flatten := by
        intro X
        rw [List.flatten_append, List.flatten_append, List.flatten_singleton, rowW_pos hy]
        rfl
      refine yMv.conv (t_X3_copy g r a cap (nI xs.length) (rowf xs h) q b cap' (nI ys.length) (rowf ys h') (post := fun w => ∃ n f, rowOk cap (rCopy cap ys) n f ∧ w = [[(r, .inr (3, [.ref a, .int n]))], [(a, .inl (g.2.2.1, cap, .inl f))], [(q, .inr (3, [.ref b, .int (nI ys.length)]))], [(b, .inl (g.2.2.1, cap', .inl (rowf ys h')))]]) (fun n f hk => ⟨n, f, hk, rfl⟩) (p_X3_copy hc hy hc')) ?_ ?_
      · rw [row_flat hl, e]; rfl
      · rintro w ⟨n, f, hk, rfl⟩
        refine ⟨_, ?_, rCopy cap ys, f, rfl, rfl⟩
        rw [rowOk_flat hk, e]; rfl
    · exact yMv_void (fun A hD => hy (rowW_len (yD_app (yD_app hD).2.1).1))
  · exact yMv_void (row_void hl _)
end ROWC
theorem rIns_add {cap : Nat} {xs : List Int32} {v : Int32} (hl : xs.length ≤ cap) (hc : cap < 2147483648) : rIns cap xs (nI xs.length) v = rAdd cap xs v := by
  unfold rIns rAdd
  rw [nI_clamp (by omega)]
  by_cases h : cap ≤ xs.length
  · rw [if_pos (Or.inr (Or.inr h)), if_pos h]
  · rw [if_neg h, if_neg]
    · simp
    · rintro (q | q | q)
      · exact nI_pos (by omega) q
      · omega
      · omega
theorem ggX3_add_X3_insert : GoodIn wsX3_add wsX3_insert := goodIn_r _ [6, 1, 7, 8, 9] (by decide +kernel) (by decide +kernel)
theorem gX3_add_X3_insert : GoodIn wsX3_add (wsV RX3 23 RX3 yX3_insert wsX3_insert) := goodIn_app (goodIn_of _ (by decide +kernel)) ggX3_add_X3_insert
theorem dX3_add_0 : decode cX3_add 0 = .ok (.aload_n 0, 1) := by decide +kernel
theorem dX3_add_1 : decode cX3_add 1 = .ok (.aload_n 0, 1) := by decide +kernel
theorem dX3_add_2 : decode cX3_add 2 = .ok (.getfield 19, 3) := by decide +kernel
theorem dX3_add_5 : decode cX3_add 5 = .ok (.iload_n 1, 1) := by decide +kernel
theorem dX3_add_6 : decode cX3_add 6 = .ok (.invokevirtual 23, 3) := by decide +kernel
theorem dX3_add_9 : decode cX3_add 9 = .ok (.return_, 1) := by decide +kernel
theorem kX3_add_1 : Cond.fieldLink RX3 19 "BookedDetours$Row" "length" "I" ∈ wsX3_add := List.mem_of_getElem? (i := 1) (by decide +kernel)
theorem hX3_add_X3 : ∀ w ∈ u_ws RX3 TX3 2, w ∈ wsX3_add := fun _ h => List.mem_cons_of_mem _ (List.mem_append_right _ h)
set_option maxHeartbeats 4000000 in
set_option maxRecDepth 100000 in
theorem c_X3_add (g : yG) (r a cap : Nat) (xs : List Int32) (h : Nat → Int32) (v : Int32) (hc : cap < 2147483648) : yMv g yX3_add wsX3_add ({ frames := 1, cells := 0, slots := 0, locals := 23 } : Room) [.ref r, .int v] ([] ++ [rowW g.2.2.1 r a cap xs h] : List va_W) (fun w => ∃ (ys' : List Int32) (h' : Nat → Int32), ys' = (rAdd cap xs v) ∧ w = ([] ++ [rowW g.2.2.1 r a cap ys' h'] : List va_W)) 0 0 := by
  refine y_entryV (cc := cX3_add) (maxL := 2) (by decide +kernel) rfl (Nat.le_of_ble_eq_true rfl) (fun Z C _ HR => ?_)
  have C : yC Z g cX3_add 2 wsX3_add RX3 := C
  refine y_fact (F := xs.length ≤ cap) (fun A hD => rowW_len (yD_app hD).1) (fun hl => ?_)
  show yJ Z _ 0 0 _ 0 [(0, .ref r), (1, .int v)] []
  refine y_world (row_flat hl []) ?_
  refine y_aload_n C dX3_add_0 0 rfl rfl ?_
  refine y_aload_n C dX3_add_1 0 rfl rfl ?_
  refine y_get (Cn := RX3) (T := TX3) (N := 2) (ci := 3) (v := .int (nI xs.length)) C dX3_add_2 hX3_add_X3 0 rfl rfl 1 (Nat.le_of_ble_eq_true rfl) kX3_add_1 rfl ?_
  refine y_iload_n C dX3_add_5 1 rfl rfl ?_
  refine y_world (L1 := ([] ++ [rowW g.2.2.1 r a cap xs h] : List va_W)) (row_flat hl []).symm ?_
  refine y_callVv (As := [.int (nI xs.length), .int v]) (rest := []) C dX3_add_6 (c_X3_insert g r a cap xs h (nI xs.length) v hc) rfl rfl rfl rfl ⟨Nat.le_of_ble_eq_true rfl, Nat.le_of_ble_eq_true rfl⟩ gX3_add_X3_insert (nA := 2) (by decide +kernel) rfl (rowW_recv ⟨_, rfl⟩) (Nat.le_of_ble_eq_true rfl) ⟨Nat.le_of_ble_eq_true rfl, Nat.le_of_ble_eq_true rfl⟩ [0] [] (nB := 1) rfl (by decide +kernel) rfl (fun w hw => ?_)
  obtain ⟨ys, h', hy, rfl⟩ := hw
  refine ⟨([] ++ [rowW g.2.2.1 r a cap ys h'] : List va_W), ⟨rfl, rfl, rfl⟩, ?_⟩
  exact HR 9 dX3_add_9 _ _ _ _ (Nat.le_of_ble_eq_true rfl) (Nat.le_of_ble_eq_true rfl) ⟨ys, h', by rw [hy, rIns_add hl hc], rfl⟩
theorem yM_fact {g : yG} {y : MethodName} {ws : List Cond} {rm : Room} {As : List Value} {B : List va_W} {post : Int32 → List va_W → Prop} {mc ms : Nat} {F : Prop} (hF : ∀ A, va_D A B.flatten → F) (K : F → yM g y ws rm As B post mc ms) : yM g y ws rm As B post mc ms := by
  intro sz p e ha hf hc s m args below hfr happ hpre hk
  have hpre' := hpre
  obtain ⟨-, -, -, -, hD⟩ := hpre
  exact K (hF _ hD) sz p e ha hf hc s m args below hfr happ hpre' hk
theorem yMv_fact {g : yG} {y : MethodName} {ws : List Cond} {rm : Room} {As : List Value} {B : List va_W} {post : List va_W → Prop} {mc ms : Nat} {F : Prop} (hF : ∀ A, va_D A B.flatten → F) (K : F → yMv g y ws rm As B post mc ms) : yMv g y ws rm As B post mc ms := by
  intro sz p e ha hf hc s m args below hfr happ hpre hk
  have hpre' := hpre
  obtain ⟨-, -, -, -, hD⟩ := hpre
  exact K (hF _ hD) sz p e ha hf hc s m args below hfr happ hpre' hk
theorem row_mem {cI : ClassId} {r a cap : Nat} {xs : List Int32} {h : Nat → Int32} {B : List va_W} {A : Nat → Prop} (hm : rowW cI r a cap xs h ∈ B) (hD : va_D A B.flatten) : xs.length ≤ cap := by
  obtain ⟨B1, B2, rfl⟩ := List.append_of_mem hm
  rw [List.flatten_append, List.flatten_cons] at hD
  exact rowW_len (yD_app (yD_app hD).2.1).1
def dayLen (d : RV) : Prop := (d.1 0).length ≤ 3 ∧ (d.1 1).length ≤ 12 ∧ (d.1 2).length ≤ 12 ∧ (d.1 3).length ≤ 17 ∧ (d.1 4).length ≤ 17 ∧ (d.1 5).length ≤ 17 ∧ (d.1 6).length ≤ 17 ∧ (d.1 7).length ≤ 17 ∧ (d.1 8).length ≤ 17 ∧ (d.1 9).length ≤ 17 ∧ (d.1 10).length ≤ 17 ∧ (d.1 11).length ≤ 34
def tabLen (d : RV) : Prop := (d.1 0).length ≤ 34 ∧ (d.1 1).length ≤ 34 ∧ (d.1 2).length ≤ 34 ∧ (d.1 3).length ≤ 17 ∧ (d.1 4).length ≤ 17
def padLen (d : RV) : Prop := (d.1 0).length ≤ 60 ∧ (d.1 1).length ≤ 31
theorem dayLen_of {g : yG} {A : Nat → Nat} {d : RV} {G : Nat → Nat → Int32} {B : List va_W} {A0 : Nat → Prop} (hm : ∀ x ∈ dayR g A d G, x ∈ B) (hD : va_D A0 B.flatten) : dayLen d :=
  ⟨row_mem (hm _ (List.mem_of_getElem? (i := 0) rfl)) hD, row_mem (hm _ (List.mem_of_getElem? (i := 1) rfl)) hD, row_mem (hm _ (List.mem_of_getElem? (i := 2) rfl)) hD, row_mem (hm _ (List.mem_of_getElem? (i := 3) rfl)) hD, row_mem (hm _ (List.mem_of_getElem? (i := 4) rfl)) hD, row_mem (hm _ (List.mem_of_getElem? (i := 5) rfl)) hD, row_mem (hm _ (List.mem_of_getElem? (i := 6) rfl)) hD, row_mem (hm _ (List.mem_of_getElem? (i := 7) rfl)) hD, row_mem (hm _ (List.mem_of_getElem? (i := 8) rfl)) hD, row_mem (hm _ (List.mem_of_getElem? (i := 9) rfl)) hD, row_mem (hm _ (List.mem_of_getElem? (i := 10) rfl)) hD, row_mem (hm _ (List.mem_of_getElem? (i := 11) rfl)) hD⟩
theorem tabLen_of {g : yG} {A : Nat → Nat} {d : RV} {G : Nat → Nat → Int32} {B : List va_W} {A0 : Nat → Prop} (hm : ∀ x ∈ tabR g A d G, x ∈ B) (hD : va_D A0 B.flatten) : tabLen d :=
  ⟨row_mem (hm _ (List.mem_of_getElem? (i := 0) rfl)) hD, row_mem (hm _ (List.mem_of_getElem? (i := 1) rfl)) hD, row_mem (hm _ (List.mem_of_getElem? (i := 2) rfl)) hD, row_mem (hm _ (List.mem_of_getElem? (i := 3) rfl)) hD, row_mem (hm _ (List.mem_of_getElem? (i := 4) rfl)) hD⟩
theorem padLen_of {g : yG} {A : Nat → Nat} {d : RV} {G : Nat → Nat → Int32} {B : List va_W} {A0 : Nat → Prop} (hm : ∀ x ∈ padR g A d G, x ∈ B) (hD : va_D A0 B.flatten) : padLen d :=
  ⟨row_mem (hm _ (List.mem_of_getElem? (i := 0) rfl)) hD, row_mem (hm _ (List.mem_of_getElem? (i := 1) rfl)) hD⟩
