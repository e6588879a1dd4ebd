/-! ===== the law: what holds at its places ===== -/
def slOk (o : SL × SL) (x2 : Int64) : Prop := (∃ e, slA o.1 = some e ∧ invD e ∧ digD e = x2) ∧ slA o.2 = none
def hsOk (xs : List RV) : Prop := xs.length ≤ 6 ∧ ∀ e, e ∈ xs → invD e
def LI (d : RV) (o : SL × SL) (xs : List RV) (x2 : Int64) : Prop := invD d ∧ hsOk xs ∧ slOk o x2
def P158 (j : Nat) (d : RV) (o : SL × SL) (xs : List RV) (x2 : Int64) (x4 x5 x6 : Int32) (x7 : Int64) (x10 : Int32) (x11 : Int64) : Prop := x4 = nI j ∧ x11 = digD d ∧ slOk o x2 ∧ ∃ d0 xs0, invD d0 ∧ hsOk xs0 ∧ x7 = digD d0 ∧ actP d0 xs0 (slA o.1) x5 x6 x10 d xs
def P268 (j : Nat) (d : RV) (o : SL × SL) (xs : List RV) (x2 : Int64) (x4 : Int32) (x11 : Int64) : Prop := x4 = nI j ∧ x11 = digD d ∧ LI d o xs x2
def xJ0 (j : Nat) : RV → RV → RV → RV → RV → RV → SL × SL → List RV → Int64 → Int32 → Prop := fun d _ _ _ _ _ o xs x2 x4 => LI d o xs x2 ∧ x4 = nI j
def xJ1 (j : Nat) : RV → RV → RV → RV → RV → RV → SL × SL → List RV → Int64 → Int32 → Int32 → Int32 → Int64 → Int32 → Int64 → Prop := fun d _ _ _ _ _ o xs x2 x4 x5 x6 x7 x10 x11 => P158 j d o xs x2 x4 x5 x6 x7 x10 x11
def xJ2 (j : Nat) : RV → RV → RV → RV → RV → RV → SL × SL → List RV → Int64 → Int32 → Int32 → Int64 → Prop := fun d _ _ _ _ _ o xs x2 x4 _ x11 => P268 j d o xs x2 x4 x11
theorem lg_eq {x y : Int64} (h : x = y) : lg_cmp x y = 0 := by
  subst h
  unfold lg_cmp
  split
  · rename_i h
    exact absurd (Int64.lt_iff_toInt_lt.mp h) (by omega)
  · rw [if_pos rfl]
theorem hs_push {xs : List RV} {d : RV} (h : hsOk xs) (hd : invD d) : hsOk ((if 6 ≤ xs.length then xs.drop 1 else xs) ++ [d]) := by
  obtain ⟨h1, h2⟩ := h
  split
  · refine ⟨by rw [List.length_append, List.length_drop, List.length_singleton]; omega, fun e he => ?_⟩
    rcases List.mem_append.mp he with z | z
    · exact h2 e (List.mem_of_mem_drop z)
    · rw [List.mem_singleton.mp z]
      exact hd
  · refine ⟨by rw [List.length_append, List.length_singleton]; omega, fun e he => ?_⟩
    rcases List.mem_append.mp he with z | z
    · exact h2 e z
    · rw [List.mem_singleton.mp z]
      exact hd
theorem push_len {xs : List RV} {d : RV} (h : xs.length ≤ 6) : ((if 6 ≤ xs.length then xs.drop 1 else xs) ++ [d]).length = if 6 ≤ xs.length then 6 else xs.length + 1 := by
  split
  · rw [List.length_append, List.length_drop, List.length_singleton]; omega
  · rw [List.length_append, List.length_singleton]
theorem hs_last {xs : List RV} (h : hsOk xs) : hsOk xs.dropLast := ⟨by rw [List.length_dropLast]; have := h.1; omega, fun e he => h.2 e (List.dropLast_subset xs he)⟩
theorem pl_8 (L : Nat) (sx : Nat → Int32) : wl_8 L sx (xJ0 0) D0 T0 T0 D0 T0 T0 ((none, none) : SL × SL) [] := by
  unfold wl_8
  intro r7 d1 xs4 e
  have hU : fUndo D0 [] = (-5, D0, []) := if_pos rfl
  rw [hU] at e
  have e1 : r7 = -5 := congrArg Prod.fst e
  have e2 : d1 = D0 := congrArg (fun z => z.2.1) e
  have e3 : xs4 = [] := congrArg (fun z => z.2.2) e
  rw [e1, e2, e3, if_pos rfl]
  intro r15 d9 xs12 e
  have hR : fRestore (slA ((none, none) : SL × SL).1) (slA ((none, none) : SL × SL).2) D0 [] 1 = (-5, D0, []) := by
    unfold fRestore
    rw [if_neg (by decide), if_pos rfl]
    rfl
  rw [hR] at e
  have e1 : r15 = -5 := congrArg Prod.fst e
  have e2 : d9 = D0 := congrArg (fun z => z.2.1) e
  have e3 : xs12 = [] := congrArg (fun z => z.2.2) e
  rw [e1, e2, e3, if_pos rfl]
  intro r19 o17 es
  have hS : fSave (slA ((none, none) : SL × SL).1) (slA ((none, none) : SL × SL).2) D0 0 = (rLen (D0.1 8), some D0, none) := if_pos rfl
  rw [hS] at es
  have s0 : r19 = rLen (D0.1 8) := congrArg Prod.fst es
  have s1 : slA o17.1 = some D0 := congrArg (fun z => z.2.1) es
  have s2 : slA o17.2 = none := congrArg (fun z => z.2.2) es
  rw [if_pos (by rw [s0]; rfl)]
  refine ⟨inv_0, ?_⟩
  intro r25 t22 e5
  rw [e5]
  exact ⟨⟨inv_0, ⟨by decide, fun e h => absurd h List.not_mem_nil⟩, ⟨D0, s1, inv_0, rfl⟩, s2⟩, rfl⟩
theorem pl_end {L : Nat} {sx : Nat → Int32} {X158 : RV → RV → RV → RV → RV → RV → SL × SL → List RV → Int64 → Int32 → Int32 → Int32 → Int64 → Int32 → Int64 → Prop} {d t sv sd st p : RV} {o : SL × SL} {xs : List RV} {x2 : Int64} (h : LI d o xs x2) : wl_45 L sx X158 d t sv sd st p o xs x2 (nI 36) := by
  obtain ⟨hd, hx, ⟨e, he1, he2, he3⟩, hn⟩ := h
  unfold wl_45
  rw [if_pos (by decide)]
  intro r7 d1 xs4 eq
  rw [he1, hn] at eq
  have hR : fRestore (some e) none d xs 0 = fRest1 (some e) d xs := if_pos rfl
  rw [hR] at eq
  have e1 : r7 = rLen (e.1 8) := congrArg Prod.fst eq
  have e2 : d1 = e := congrArg (fun z => z.2.1) eq
  rw [e1, e2]
  dsimp only [yl]
  rw [cnt_c (by decide) (by decide), cF_1, if_pos rfl]
  refine ⟨he2, ?_⟩
  intro r17 t14 e5
  rw [e5, if_pos (lg_eq he3)]
  trivial
theorem pl_45 {L j : Nat} {sx : Nat → Int32} {d t sv sd st p : RV} {o : SL × SL} {xs : List RV} {x2 : Int64} (hj : j < 36) (h : LI d o xs x2) : wl_45 L sx (xJ1 j) d t sv sd st p o xs x2 (nI j) := by
  obtain ⟨hd, hx, hs⟩ := h
  obtain ⟨⟨e, he1, he2, he3⟩, hn⟩ := id hs
  unfold wl_45
  rw [if_neg (fun z => by have := (nI_leI (a := 36) (by omega) (by omega)).mp (show nI 36 ≤ nI j from z); omega)]
  have e2 : (2 : Int32) * nI j = nI (2 * j) := ix2 j
  refine ⟨by rw [e2]; exact nI_pos (by omega), by rw [e2, nI_1]; exact nI_pos (by omega), hd, ?_⟩
  intro r25 t22 e25
  dsimp only [yl]
  rw [cnt_13]
  refine ⟨⟨hd, fun e' he' => by rw [he1] at he'; cases he'; exact he2, hn⟩, ?_⟩
  intro r49 d32 t35 sv38 sd40 st43 xs46 hact
  obtain ⟨a1, a2, a3, a4, a5⟩ := id hact
  have hd32 : invD d32 := by
    rcases a3 with ⟨-, z, -⟩ | ⟨-, -, z⟩
    · rw [z]; exact hd
    · exact z
  refine ⟨hd32, ?_⟩
  intro r55 t52 e55
  rw [cnt_13]
  have hP : P158 j d32 o xs46 x2 (nI j) (fCell L sx ((2 : Int32) * nI j)) (fCell L sx (((2 : Int32) * nI j) + (1 : Int32))) r25 r49 r55 := ⟨rfl, e55, hs, d, xs, hd, hx, e25, hact⟩
  have h6 := hx.1
  by_cases c : 0 ≤ r49
  · rw [if_pos c]
    rcases a3 with ⟨z, -⟩ | ⟨-, z, -⟩
    · exact absurd z (Int32.not_lt.mpr c)
    · have hl : xs46.length = if 6 ≤ xs.length then 6 else xs.length + 1 := by rw [z]; exact push_len h6
      by_cases c6 : 6 ≤ xs.length
      · rw [if_pos c6] at hl
        rw [if_pos (show (6 : Int32) ≤ nI xs.length from (nI_leI (a := 6) (by omega) (by omega)).mpr c6), if_pos (show nI xs46.length = 6 by rw [hl]; rfl)]
        exact hP
      · rw [if_neg c6] at hl
        rw [if_neg (fun (q : (6 : Int32) ≤ nI xs.length) => c6 ((nI_leI (a := 6) (by omega) (by omega)).mp (show nI 6 ≤ nI xs.length from q))), if_pos (show nI xs46.length = nI xs.length + 1 by rw [hl, nI_1])]
        exact hP
  · rw [if_neg c]
    rcases a3 with ⟨-, z1, z2⟩ | ⟨z, -⟩
    · rw [if_pos (lg_eq (by rw [e55, e25, z1])), if_pos (by rw [z2])]
      exact hP
    · exact absurd z c
theorem pl_158 {L j : Nat} {sx : Nat → Int32} {d t sv sd st p : RV} {o : SL × SL} {xs : List RV} {x2 : Int64} {x4 x5 x6 : Int32} {x7 : Int64} {x10 : Int32} {x11 : Int64} (h : P158 j d o xs x2 x4 x5 x6 x7 x10 x11) : wl_158 L sx (xJ1 j) d t sv sd st p o xs x2 x4 x5 x6 x7 x10 x11 := by
  obtain ⟨-, e11, ⟨⟨e, he1, he2, he3⟩, hn⟩, d0, xs0, hd0, hx0, -, a1, a2, a3, a4, a5⟩ := id h
  unfold wl_158
  by_cases c : x10 < 0
  · rw [if_pos c]
    exact h
  · rw [if_neg c]
    have c' : 0 ≤ x10 := Int32.not_lt.mp c
    by_cases c8 : x5 &&& 15 = 8
    · have he := a4 c8 c'
      rw [he1] at he
      have ed : e = d := Option.some.inj he
      rw [if_pos c8, if_pos (lg_eq (by rw [e11, ← ed, he3])), if_pos (by rw [c8]; decide)]
      exact h
    · rw [if_neg c8]
      by_cases c9 : x5 &&& 15 ≤ 8
      · rw [if_pos c9]
        exact h
      · rw [if_neg c9]
        refine ⟨a5 c9 c', ?_⟩
        intro r t' er
        rw [er, if_neg (by decide)]
        exact h
theorem pl_199 {L j : Nat} {sx : Nat → Int32} {d t sv sd st p : RV} {o : SL × SL} {xs : List RV} {x2 : Int64} {x4 x5 x6 : Int32} {x7 : Int64} {x10 : Int32} {x11 : Int64} (h : P158 j d o xs x2 x4 x5 x6 x7 x10 x11) : wl_199 L sx (xJ2 j) d t sv sd st p o xs x2 x4 x5 x6 x7 x10 x11 := by
  obtain ⟨e4, e11, hs, d0, xs0, hd0, hx0, e7, hact⟩ := h
  obtain ⟨a1, a2, a3, a4, a5⟩ := id hact
  obtain ⟨⟨e, he1, he2, he3⟩, hn⟩ := id hs
  unfold wl_199
  by_cases c : x10 < 0
  · rw [if_pos c]
    rcases a3 with ⟨-, b1, b2⟩ | ⟨b1, -⟩
    · exact ⟨e4, e11, by rw [b1]; exact hd0, by rw [b2]; exact hx0, hs⟩
    · exact absurd c (Int32.not_lt.mpr b1)
  · rw [if_neg c]
    rcases a3 with ⟨b1, -⟩ | ⟨b1, b2, b3⟩
    · exact absurd b1 c
    have hx : hsOk xs := by rw [b2]; exact hs_push hx0 hd0
    by_cases c9 : (x5 >>> ((9 : Int32) &&& 31)) &&& 1 = 0
    · rw [if_pos c9]
      dsimp only [yl]
      rw [cnt_13]
      intro r11 d5 xs8 eu
      have hlen : ¬ xs.length = 0 := by
        rw [b2, List.length_append, List.length_singleton]
        omega
      have hu : fUndo d xs = (nI xs.dropLast.length, d0, xs.dropLast) := by
        unfold fUndo
        rw [if_neg hlen]
        have : (xs.getLast?).getD d = d0 := by rw [b2]; simp
        rw [this]
      rw [hu] at eu
      have u1 : r11 = nI xs.dropLast.length := congrArg Prod.fst eu
      have u2 : d5 = d0 := congrArg (fun z => z.2.1) eu
      have u3 : xs8 = xs.dropLast := congrArg (fun z => z.2.2) eu
      have hl : nI xs.dropLast.length = nI xs.length - 1 := by
        rw [List.length_dropLast]
        obtain ⟨k, hk⟩ : ∃ k, xs.length = k + 1 := ⟨xs.length - 1, by omega⟩
        rw [hk, nI_pred]
        rfl
      rw [u1, u2, u3, if_pos hl]
      refine ⟨hd0, ?_⟩
      intro r17 t14 e17
      rw [if_pos (lg_eq (by rw [e17, e7]))]
      refine ⟨⟨hd0, fun e' he' => by rw [he1] at he'; cases he'; exact he2, hn⟩, ?_⟩
      intro r37 d20 t23 sv26 sd28 st31 xs34 hact2
      obtain ⟨g1, g2, g3, -⟩ := hact2
      have er : r37 = x10 := by rw [g1, a1]
      have ed : d20 = d := by rw [g2, a2]
      have hd20 : invD d20 := by rw [ed]; exact b3
      rw [if_pos er]
      refine ⟨hd20, ?_⟩
      intro r43 t40 e43
      rw [if_pos (lg_eq (by rw [e43, ed, e11]))]
      refine ⟨e4, by rw [ed]; exact e11, hd20, ?_, hs⟩
      rcases g3 with ⟨q1, -⟩ | ⟨-, q2, -⟩
      · exact absurd q1 (by rw [er]; exact c)
      · rw [q2]
        exact hs_push (hs_last hx) hd0
    · rw [if_neg c9]
      exact ⟨e4, e11, b3, hx, hs⟩
theorem pl_268 {L j : Nat} {sx : Nat → Int32} {d t sv sd st p : RV} {o : SL × SL} {xs : List RV} {x2 : Int64} {x4 x5 : Int32} {x11 : Int64} (h : P268 j d o xs x2 x4 x11) : wl_268 L sx (xJ0 (j + 1)) d t sv sd st p o xs x2 x4 x5 x11 := by
  obtain ⟨e4, e11, hd, hx, hs⟩ := h
  unfold wl_268
  refine ⟨hd, ?_⟩
  intro r5 t2 e5
  rw [e5, if_neg (by decide)]
  by_cases c : (x5 >>> ((10 : Int32) &&& 31)) &&& 7 = 0
  · rw [if_pos c]
    intro r9 o7 es
    have hS : fSave (slA o.1) (slA o.2) d 0 = (rLen (d.1 8), some d, slA o.2) := if_pos rfl
    rw [hS] at es
    have s1 : slA o7.1 = some d := congrArg (fun z => z.2.1) es
    have s2 : slA o7.2 = slA o.2 := congrArg (fun z => z.2.2) es
    exact ⟨⟨hd, hx, ⟨d, s1, hd, e11.symm⟩, by rw [s2]; exact hs.2⟩, by rw [e4, nI_1]⟩
  · rw [if_neg c]
    exact ⟨⟨hd, hx, hs⟩, by rw [e4, nI_1]⟩
