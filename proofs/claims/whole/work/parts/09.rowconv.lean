/-! ===== the Row's contracts over lists ===== -/
theorem yMv_void {g : yG} {y : MethodName} {ws : List Cond} {rm : Room} {As : List Value} {B : List va_W} {post : List va_W → Prop} {mc ms : Nat} (hB : ∀ A, ¬ va_D A B.flatten) : yMv g y ws rm As B post mc ms := by
  intro sz p e ha hf hc s m args below hfr happ hpre hk
  obtain ⟨-, -, -, -, hD⟩ := hpre
  exact absurd hD (hB _)
theorem yM_void {g : yG} {y : MethodName} {ws : List Cond} {rm : Room} {As : List Value} {B : List va_W} {post : Int32 → List va_W → Prop} {mc ms : Nat} (hB : ∀ A, ¬ va_D A B.flatten) : yM g y ws rm As B post mc ms := by
  intro sz p e ha hf hc s m args below hfr happ hpre hk
  obtain ⟨-, -, -, -, hD⟩ := hpre
  exact absurd hD (hB _)
theorem row_void {cI : ClassId} {r a cap : Nat} {xs : List Int32} {h : Nat → Int32} (hl : ¬ xs.length ≤ cap) (Bs : List va_W) : ∀ A, ¬ va_D A ([] ++ ([rowW cI r a cap xs h] ++ Bs) : List va_W).flatten := fun A hD => hl (rowW_len (yD_app hD).1)
theorem row_flat {cI : ClassId} {r a cap : Nat} {xs : List Int32} {h : Nat → Int32} (hl : xs.length ≤ cap) (Bs : List va_W) : ([] ++ ([rowW cI r a cap xs h] ++ Bs) : List va_W).flatten = ([[(r, .inr (3, [.ref a, .int (nI xs.length)]))], [(a, .inl (cI, cap, .inl (rowf xs h)))]] ++ Bs : List va_W).flatten := by
  rw [List.nil_append, List.singleton_append, List.flatten_cons, rowW_pos hl]
  rfl
theorem rowOk_flat {cI : ClassId} {r a cap : Nat} {ys : List Int32} {n : Int32} {f : Nat → Int32} (h : rowOk cap ys n f) (Bs : List va_W) : ([] ++ ([rowW cI r a cap ys f] ++ Bs) : List va_W).flatten = ([[(r, .inr (3, [.ref a, .int n]))], [(a, .inl (cI, cap, .inl f))]] ++ Bs : List va_W).flatten := by
  obtain ⟨h1, h2, h3⟩ := h
  rw [row_flat h1, rowf_self h3, h2]
section ROWC
variable (g : yG) (r a cap : Nat) (xs : List Int32) (h : Nat → Int32)
theorem c_X3_length (hc : cap < 2147483648) : yM g yX3_length wsX3_length ({ frames := 0, cells := 0, slots := 0, locals := 0 } : Room) [.ref r] ([] ++ [rowW g.2.2.1 r a cap xs h] : List va_W) (fun r' w => r' = rLen xs ∧ w = ([] ++ [rowW g.2.2.1 r a cap xs h] : List va_W)) 0 0 := by
  by_cases hl : xs.length ≤ cap
  · refine yM.conv (t_X3_length g r a cap (nI xs.length) (rowf xs h) (post := fun r' w => r' = rLen xs ∧ w = [[(r, .inr (3, [.ref a, .int (nI xs.length)]))], [(a, .inl (g.2.2.1, cap, .inl (rowf xs h)))]]) (fun r' hr => ⟨hr, rfl⟩) p_X3_length) (row_flat hl []) ?_
    rintro r' w ⟨h1, rfl⟩
    exact ⟨_, row_flat hl [], h1, rfl⟩
  · exact yM_void (row_void hl [])
theorem c_X3_at (p : Int32) (hc : cap < 2147483648) : yM g yX3_at wsX3_at ({ frames := 0, cells := 0, slots := 0, locals := 0 } : Room) [.ref r, .int p] ([] ++ [rowW g.2.2.1 r a cap xs h] : List va_W) (fun r' w => r' = rAt xs p ∧ w = ([] ++ [rowW g.2.2.1 r a cap xs h] : List va_W)) 0 0 := by
  by_cases hl : xs.length ≤ cap
  · refine yM.conv (t_X3_at g r a cap (nI xs.length) (rowf xs h) p (post := fun r' w => r' = rAt xs p ∧ w = [[(r, .inr (3, [.ref a, .int (nI xs.length)]))], [(a, .inl (g.2.2.1, cap, .inl (rowf xs h)))]]) (fun r' hr => ⟨hr, rfl⟩) (p_X3_at hl hc)) (row_flat hl []) ?_
    rintro r' w ⟨h1, rfl⟩
    exact ⟨_, row_flat hl [], h1, rfl⟩
  · exact yM_void (row_void hl [])
theorem row_mut {y : MethodName} {ws : List Cond} {rm : Room} {As : List Value} {ys : List Int32} (t : xs.length ≤ cap → yMv g y ws rm As ([[(r, .inr (3, [.ref a, .int (nI xs.length)]))], [(a, .inl (g.2.2.1, cap, .inl (rowf xs h)))]] : List va_W) (fun w => ∃ n f, rowOk cap ys n f ∧ w = [[(r, .inr (3, [.ref a, .int n]))], [(a, .inl (g.2.2.1, cap, .inl f))]]) 0 0) : yMv g y ws rm As ([] ++ [rowW g.2.2.1 r a cap xs h] : List va_W) (fun w => ∃ h' : Nat → Int32, w = ([] ++ [rowW g.2.2.1 r a cap ys h'] : List va_W)) 0 0 := by
  by_cases hl : xs.length ≤ cap
  · refine yMv.conv (t hl) (row_flat hl []) ?_
    rintro w ⟨n, f, hk, rfl⟩
    exact ⟨_, rowOk_flat hk [], f, rfl⟩
  · exact yMv_void (row_void hl [])
theorem c_X3_change (p v : Int32) (hc : cap < 2147483648) : yMv g yX3_change wsX3_change ({ frames := 0, cells := 0, slots := 0, locals := 0 } : Room) [.ref r, .int p, .int v] ([] ++ [rowW g.2.2.1 r a cap xs h] : List va_W) (fun w => ∃ h' : Nat → Int32, w = ([] ++ [rowW g.2.2.1 r a cap (rSet xs p v) h'] : List va_W)) 0 0 :=
  row_mut g r a cap xs h (fun hl => t_X3_change g r a cap (nI xs.length) (rowf xs h) p v (fun n f hk => ⟨n, f, hk, rfl⟩) (p_X3_change hl hc))
theorem c_X3_insert (p v : Int32) (hc : cap < 2147483648) : yMv g yX3_insert wsX3_insert ({ frames := 0, cells := 0, slots := 0, locals := 0 } : Room) [.ref r, .int p, .int v] ([] ++ [rowW g.2.2.1 r a cap xs h] : List va_W) (fun w => ∃ h' : Nat → Int32, w = ([] ++ [rowW g.2.2.1 r a cap (rIns cap xs p v) h'] : List va_W)) 0 0 :=
  row_mut g r a cap xs h (fun hl => t_X3_insert g r a cap (nI xs.length) (rowf xs h) p v (fun n f hk => ⟨n, f, hk, rfl⟩) (p_X3_insert hl hc))
theorem c_X3_remove (p : Int32) (hc : cap < 2147483648) : yMv g yX3_remove wsX3_remove ({ frames := 0, cells := 0, slots := 0, locals := 0 } : Room) [.ref r, .int p] ([] ++ [rowW g.2.2.1 r a cap xs h] : List va_W) (fun w => ∃ h' : Nat → Int32, w = ([] ++ [rowW g.2.2.1 r a cap (rDel xs p) h'] : List va_W)) 0 0 :=
  row_mut g r a cap xs h (fun hl => t_X3_remove g r a cap (nI xs.length) (rowf xs h) p (fun n f hk => ⟨n, f, hk, rfl⟩) (p_X3_remove hl hc))
theorem c_X3_clear (hc : cap < 2147483648) : yMv g yX3_clear wsX3_clear ({ frames := 0, cells := 0, slots := 0, locals := 0 } : Room) [.ref r] ([] ++ [rowW g.2.2.1 r a cap xs h] : List va_W) (fun w => ∃ h' : Nat → Int32, w = ([] ++ [rowW g.2.2.1 r a cap [] h'] : List va_W)) 0 0 :=
  row_mut g r a cap xs h (fun hl => t_X3_clear g r a cap (nI xs.length) (rowf xs h) (fun n f hk => ⟨n, f, hk, rfl⟩) p_X3_clear)
theorem c_X3_copy (q b cap' : Nat) (ys : List Int32) (h' : Nat → Int32) (hc : cap < 2147483648) (hc' : cap' < 2147483648) : yMv g yX3_copy wsX3_copy ({ frames := 1, cells := 0, slots := 0, locals := 21 } : Room) [.ref r, .ref q] ([] ++ ([rowW g.2.2.1 r a cap xs h] ++ [rowW g.2.2.1 q b cap' ys h']) : List va_W) (fun w => ∃ h2 : Nat → Int32, w = ([] ++ ([rowW g.2.2.1 r a cap (rCopy cap ys) h2] ++ [rowW g.2.2.1 q b cap' ys h']) : List va_W)) 0 0 := by
  by_cases hl : xs.length ≤ cap
  · by_cases hy : ys.length ≤ cap'
    · have e : ∀ X : List va_W, (X ++ [rowW g.2.2.1 q b cap' ys h'] : List va_W).flatten = (X ++ [[(q, .inr (3, [.ref b, .int (nI ys.length)]))], [(b, .inl (g.2.2.1, cap', .inl (rowf ys h')))]] : List va_W).flatten := by
        intro X
        rw [List.flatten_append, List.flatten_append, List.flatten_singleton, rowW_pos hy]
        rfl
      refine yMv.conv (t_X3_copy g r a cap (nI xs.length) (rowf xs h) q b cap' (nI ys.length) (rowf ys h') (post := fun w => ∃ n f, rowOk cap (rCopy cap ys) n f ∧ w = [[(r, .inr (3, [.ref a, .int n]))], [(a, .inl (g.2.2.1, cap, .inl f))], [(q, .inr (3, [.ref b, .int (nI ys.length)]))], [(b, .inl (g.2.2.1, cap', .inl (rowf ys h')))]]) (fun n f hk => ⟨n, f, hk, rfl⟩) (p_X3_copy hc hy hc')) ?_ ?_
      · rw [row_flat hl, e]; rfl
      · rintro w ⟨n, f, hk, rfl⟩
        refine ⟨_, ?_, f, rfl⟩
        rw [rowOk_flat hk, e]; rfl
    · exact yMv_void (fun A hD => hy (rowW_len (yD_app (yD_app hD).2.1).1))
  · exact yMv_void (row_void hl _)
end ROWC
