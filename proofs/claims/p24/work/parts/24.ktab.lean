/-! ===== a timetable is made anew: nothing of what it held before shows ===== -/
def T0 : RV := (fun _ => [], fun _ => 0)
def tEq (t u : RV) : Prop := (∀ k, k < 5 → t.1 k = u.1 k) ∧ ∀ k, k < 5 → t.2 k = u.2 k
theorem tEq.rf {t : RV} : tEq t t := ⟨fun _ _ => rfl, fun _ _ => rfl⟩
theorem tEq.R {t u : RV} (h : tEq t u) (k : Nat) (xs : List Int32) : tEq (rvR t k xs) (rvR u k xs) := by
  refine ⟨fun j hj => ?_, h.2⟩
  by_cases e : j = k
  · subst e; rw [rvR_eq, rvR_eq]
  · rw [rvR_ne e, rvR_ne e]; exact h.1 j hj
theorem tEq.I {t u : RV} (h : tEq t u) (k : Nat) (x : Int32) : tEq (rvI t k x) (rvI u k x) := by
  refine ⟨h.1, fun j hj => ?_⟩
  by_cases e : j = k
  · subst e; rw [rvI_eq, rvI_eq]
  · rw [rvI_ne e, rvI_ne e]; exact h.2 j hj
theorem tEq_C {t u : RV} (h : tEq t u) (A : Nat → Nat) : tabC A t = tabC A u := by
  unfold tabC
  rw [h.2 0 (by decide), h.2 1 (by decide), h.2 2 (by decide), h.2 3 (by decide), h.2 4 (by decide)]
theorem tEq_R {t u : RV} (h : tEq t u) (g : yG) (A : Nat → Nat) (G : Nat → Nat → Int32) : tabR g A t G = tabR g A u G := by
  unfold tabR
  rw [h.1 0 (by decide), h.1 1 (by decide), h.1 2 (by decide), h.1 3 (by decide), h.1 4 (by decide)]
theorem tEq_begin (t u d : RV) : tEq (f_X5_begin t d) (f_X5_begin u d) := by
  constructor
  · intro k hk
    match k, hk with
    | 0, _ => simp [f_X5_begin, yl, rvR, rvI]
    | 1, _ => simp [f_X5_begin, yl, rvR, rvI]
    | 2, _ => simp [f_X5_begin, yl, rvR, rvI]
    | 3, _ => simp [f_X5_begin, yl, rvR, rvI]
    | 4, _ => simp [f_X5_begin, yl, rvR, rvI]
    | k + 5, h => omega
  · intro k hk
    match k, hk with
    | 0, _ => simp [f_X5_begin, yl, rvR, rvI]
    | 1, _ => simp [f_X5_begin, yl, rvR, rvI]
    | 2, _ => simp [f_X5_begin, yl, rvR, rvI]
    | 3, _ => simp [f_X5_begin, yl, rvR, rvI]
    | 4, _ => simp [f_X5_begin, yl, rvR, rvI]
    | k + 5, h => omega
def rEq (x y : Int32 × RV) : Prop := x.1 = y.1 ∧ tEq x.2 y.2
theorem rel_if {c : Prop} [Decidable c] {a b a' b' : Int32 × RV} (h1 : rEq a a') (h2 : rEq b b') : rEq (if c then a else b) (if c then a' else b') := by
  by_cases h : c
  · rw [if_pos h, if_pos h]; exact h1
  · rw [if_neg h, if_neg h]; exact h2
theorem yl_int {e e' : Int32} {b b' : Int32 → Int32 × RV} (he : e = e') (hb : ∀ z, rEq (b z) (b' z)) : rEq (yl e b) (yl e' b') := by subst he; exact hb e
theorem yl_I {t u : RV} {k : Nat} {x y : Int32} {b b' : RV → Int32 × RV} (h : tEq t u) (hx : x = y) (hb : ∀ t' u', tEq t' u' → rEq (b t') (b' u')) : rEq (yl (rvI t k x) b) (yl (rvI u k y) b') := by subst hx; exact hb _ _ (h.I k x)
theorem yl_R {t u : RV} {k : Nat} {x y : List Int32} {b b' : RV → Int32 × RV} (h : tEq t u) (hx : x = y) (hb : ∀ t' u', tEq t' u' → rEq (b t') (b' u')) : rEq (yl (rvR t k x) b) (yl (rvR u k y) b') := by subst hx; exact hb _ _ (h.R k x)
theorem tEq_latest {t u : RV} (h : tEq t u) (d : RV) (r : Int32) : f_X5_latestByDetour t d r = f_X5_latestByDetour u d r := by
  unfold f_X5_latestByDetour yl
  rw [h.1 3 (by decide)]
theorem tEq_step {t u : RV} (h : tEq t u) (d : RV) (v : Int32) : rEq (f_X5_step t d v) (f_X5_step u d v) := by
  unfold f_X5_step
  refine yl_int rfl (fun r1 => ?_)
  refine yl_int rfl (fun r2 => ?_)
  refine yl_int rfl (fun r3 => ?_)
  refine yl_int (by rw [h.2 0 (by decide)]) (fun r4 => ?_)
  refine rel_if ?_ ?_
  · refine yl_int rfl (fun r5 => ?_)
    refine yl_int (by rw [h.2 1 (by decide)]) (fun m6 => ?_)
    refine yl_I h rfl (fun t7 ut7 ht7 => ?_)
    refine yl_int rfl (fun r8 => ?_)
    refine yl_I ht7 rfl (fun t9 ut9 ht9 => ?_)
    refine yl_I ht9 (by rw [ht9.2 2 (by decide)]) (fun t10 ut10 ht10 => ?_)
    refine yl_I ht10 (by rw [ht10.2 3 (by decide)]) (fun t11 ut11 ht11 => ?_)
    refine yl_I ht11 (by rw [h.2 1 (by decide), ht11.2 4 (by decide)]) (fun t12 ut12 ht12 => ?_)
    refine yl_R ht12 (by rw [ht12.1 0 (by decide)]) (fun t16 ut16 ht16 => ?_)
    refine yl_R ht16 (by rw [ht16.1 1 (by decide), ht16.2 2 (by decide)]) (fun t21 ut21 ht21 => ?_)
    refine yl_R ht21 (by rw [h.2 1 (by decide), ht21.1 2 (by decide)]) (fun t26 ut26 ht26 => ?_)
    refine yl_R ht26 (by rw [ht26.1 3 (by decide)]) (fun t31 ut31 ht31 => ?_)
    refine yl_int rfl (fun r33 => ?_)
    rw [ht31.2 2 (by decide)]
    refine rel_if ?_ ?_
    · exact ⟨rfl, ht31⟩
    · exact ⟨rfl, ht31⟩
  · refine yl_I h rfl (fun t34 ut34 ht34 => ?_)
    refine yl_int rfl (fun r35 => ?_)
    refine yl_I ht34 (by rw [h.2 1 (by decide)]) (fun t36 ut36 ht36 => ?_)
    refine yl_I ht36 (by rw [ht36.2 2 (by decide)]) (fun t37 ut37 ht37 => ?_)
    refine yl_I ht37 (by rw [ht37.2 3 (by decide)]) (fun t38 ut38 ht38 => ?_)
    refine yl_I ht38 (by rw [h.2 1 (by decide), ht38.2 4 (by decide)]) (fun t39 ut39 ht39 => ?_)
    refine yl_R ht39 (by rw [h.2 1 (by decide), ht39.1 0 (by decide)]) (fun t43 ut43 ht43 => ?_)
    refine yl_R ht43 (by rw [ht43.1 1 (by decide), ht43.2 2 (by decide)]) (fun t48 ut48 ht48 => ?_)
    refine yl_R ht48 (by rw [h.2 1 (by decide), ht48.1 2 (by decide)]) (fun t53 ut53 ht53 => ?_)
    refine yl_R ht53 (by rw [h.2 1 (by decide), ht53.1 4 (by decide)]) (fun t58 ut58 ht58 => ?_)
    refine yl_int rfl (fun r60 => ?_)
    try rw [h.2 1 (by decide)]
    refine rel_if ?_ ?_
    · exact ⟨rfl, ht58⟩
    · refine yl_int (tEq_latest ht58 d r1) (fun r61 => ?_)
      try rw [h.2 1 (by decide)]
      refine rel_if ?_ ?_
      · exact ⟨rfl, ht58⟩
      · exact ⟨rfl, ht58⟩
theorem tEq_fold {d : RV} : ∀ (l : List Int32) {t u : RV}, tEq t u → tEq (l.foldl (fun t v => (f_X5_step t d v).2) t) (l.foldl (fun t v => (f_X5_step t d v).2) u)
  | [], _, _, h => h
  | v :: l, _, _, h => tEq_fold l (tEq_step h d v).2
theorem tEq_keepsL {d : RV} : ∀ (l : List Int32) {t u : RV}, tEq t u → rEq (fKeepsL d l t) (fKeepsL d l u)
  | [], _, _, h => ⟨rfl, h⟩
  | v :: l, t, u, h => by
    have hs := tEq_step h d v
    unfold fKeepsL
    rw [hs.1]
    exact rel_if ⟨rfl, hs.2⟩ (tEq_keepsL l hs.2)
theorem fFollow_T0 (t d : RV) : tEq (fFollow t d) (fFollow T0 d) := tEq_fold _ (tEq_begin t T0 d)
theorem fKeeps_T0 (t d : RV) : rEq (fKeeps t d) (fKeeps T0 d) := tEq_keepsL _ (tEq_begin t T0 d)
theorem k_X5_follow (g : yG) (T : Nat → Nat) (t : RV) (GT : Nat → Nat → Int32) (A : Nat → Nat) (d : RV) (G : Nat → Nat → Int32) : yMv g yX5_follow wsX5_follow ({ frames := 3, cells := 0, slots := 0, locals := 72 } : Room) [.ref (T 0), .ref (A 0)] ([tabC T t, dayC A d] ++ (tabR g T t GT ++ dayR g A d G) : List va_W) (fun w => ∃ (t' : RV) (GT' : Nat → Nat → Int32), t' = fFollow T0 d ∧ w = ([tabC T t', dayC A d] ++ (tabR g T t' GT' ++ dayR g A d G) : List va_W)) 0 0 := by
  refine yMv.conv (c_X5_follow g T t GT A d G) rfl ?_
  rintro w ⟨t', GT', rfl, rfl⟩
  have h := fFollow_T0 t d
  exact ⟨_, by rw [tEq_C h, tEq_R h], _, GT', rfl, rfl⟩
theorem k_X5_keepsAll (g : yG) (T : Nat → Nat) (t : RV) (GT : Nat → Nat → Int32) (A : Nat → Nat) (d : RV) (G : Nat → Nat → Int32) : yM g yX5_keepsAll wsX5_keepsAll ({ frames := 3, cells := 0, slots := 0, locals := 72 } : Room) [.ref (T 0), .ref (A 0)] ([tabC T t, dayC A d] ++ (tabR g T t GT ++ dayR g A d G) : List va_W) (fun r w => r = (fKeeps T0 d).1 ∧ ∃ (t' : RV) (GT' : Nat → Nat → Int32), t' = (fKeeps T0 d).2 ∧ w = ([tabC T t', dayC A d] ++ (tabR g T t' GT' ++ dayR g A d G) : List va_W)) 0 0 := by
  refine yM.conv (c_X5_keepsAll g T t GT A d G) rfl ?_
  rintro r w ⟨rfl, t', GT', rfl, rfl⟩
  have h := fKeeps_T0 t d
  exact ⟨_, by rw [tEq_C h.2, tEq_R h.2], h.1, _, GT', rfl, rfl⟩
