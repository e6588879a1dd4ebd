/-! ===== numbers (the first eight rows are pasted from the kit's NUMBERS and COUNTS) ===== -/
theorem fa_lt (a b : Int32) : a < b ↔ a.toInt < b.toInt := Int32.lt_iff_toInt_lt
theorem fa_le (a b : Int32) : a ≤ b ↔ a.toInt ≤ b.toInt := Int32.le_iff_toInt_le
theorem fa_eq (a b : Int32) : a = b ↔ a.toInt = b.toInt := Int32.toInt_inj.symm
theorem fb_rng (x : Int32) : -2147483648 ≤ x.toInt ∧ x.toInt < 2147483648 := by
  have h1 := Int32.le_toInt x
  have h2 := Int32.toInt_lt x
  omega
theorem fb_bmod {z : Int} (h1 : -2147483648 ≤ z) (h2 : z < 2147483648) : z.bmod (2 ^ 32) = z := by
  rw [Int.bmod_eq_of_le (by omega) (by omega)]
theorem fb_addI {x y : Int32} (h1 : -2147483648 ≤ x.toInt + y.toInt) (h2 : x.toInt + y.toInt < 2147483648) : (x + y).toInt = x.toInt + y.toInt := by
  rw [Int32.toInt_add, fb_bmod h1 h2]
theorem fb_subI {x y : Int32} (h1 : -2147483648 ≤ x.toInt - y.toInt) (h2 : x.toInt - y.toInt < 2147483648) : (x - y).toInt = x.toInt - y.toInt := by
  rw [Int32.toInt_sub, fb_bmod h1 h2]
theorem nI_mul (a b : Nat) : nI a * nI b = nI (a * b) := (Int32.ofNat_mul a b).symm
theorem t32_0 : (0 : Int32).toInt = 0 := by decide
theorem t32_1 : (1 : Int32).toInt = 1 := by decide
theorem t32_m1 : (-1 : Int32).toInt = -1 := by decide
theorem ixR (r w : Nat) : ((33 : Int32) + (7 : Int32) * nI r) + nI w = nI (33 + 7 * r + w) := by
  rw [show (33 : Int32) = nI 33 from rfl, show (7 : Int32) = nI 7 from rfl, nI_mul, nI_add, nI_add]
theorem ixS (i : Nat) : (9 : Int32) + (2 : Int32) * nI i = nI (9 + 2 * i) := by
  rw [show (9 : Int32) = nI 9 from rfl, show (2 : Int32) = nI 2 from rfl, nI_mul, nI_add]
theorem ix2 (i : Nat) : (2 : Int32) * nI i = nI (2 * i) := by
  rw [show (2 : Int32) = nI 2 from rfl, nI_mul]
theorem upd_at (f : Nat → Int32) (k : Nat) (x : Int32) : upd f k x k = x := if_pos rfl
theorem upd_ne {f : Nat → Int32} {k j : Nat} {x : Int32} (h : j ≠ k) : upd f k x j = f j := if_neg h
/-- between two numbers -/
def bd (x : Int32) (lo hi : Int) : Prop := lo ≤ x.toInt ∧ x.toInt ≤ hi
theorem bd_nI {n : Nat} {lo hi : Int} (h : lo ≤ n) (h2 : (n : Int) ≤ hi) (h3 : n < 2147483648) : bd (nI n) lo hi := by
  unfold bd
  rw [nI_toInt h3]
  exact ⟨h, h2⟩
theorem bd0 {lo hi : Int} (h : lo ≤ 0) (h2 : 0 ≤ hi) : bd 0 lo hi := by
  unfold bd
  rw [t32_0]
  exact ⟨h, h2⟩
theorem bd_wide {x : Int32} {lo hi lo' hi' : Int} (h : bd x lo hi) (h1 : lo' ≤ lo) (h2 : hi ≤ hi') : bd x lo' hi' := ⟨Int.le_trans h1 h.1, Int.le_trans h.2 h2⟩
theorem bd_add {x y : Int32} {a b c e : Int} (h : bd x a b) (h2 : bd y c e) (h3 : -2147483648 ≤ a + c) (h4 : b + e ≤ 2147483647) : bd (x + y) (a + c) (b + e) ∧ (x + y).toInt = x.toInt + y.toInt := by
  obtain ⟨p, q⟩ := h
  obtain ⟨r, s⟩ := h2
  have e1 := fb_addI (x := x) (y := y) (by omega) (by omega)
  refine ⟨?_, e1⟩
  unfold bd
  rw [e1]
  omega
theorem bd_sub {x y : Int32} {a b c e : Int} (h : bd x a b) (h2 : bd y c e) (h3 : -2147483648 ≤ a - e) (h4 : b - c ≤ 2147483647) : bd (x - y) (a - e) (b - c) ∧ (x - y).toInt = x.toInt - y.toInt := by
  obtain ⟨p, q⟩ := h
  obtain ⟨r, s⟩ := h2
  have e1 := fb_subI (x := x) (y := y) (by omega) (by omega)
  refine ⟨?_, e1⟩
  unfold bd
  rw [e1]
  omega
/-- a bounded number that is not below 0 is a natural one -/
theorem bd_nat {x : Int32} {hi : Nat} (h : bd x 0 hi) : ∃ n : Nat, n ≤ hi ∧ x = nI n := by
  obtain ⟨p, q⟩ := h
  obtain ⟨j, hj, e⟩ := nI_of (x := x) (by rw [fa_lt, t32_0]; omega)
  refine ⟨j, ?_, e⟩
  rw [e, nI_toInt hj] at q
  omega
def gA (xs : List Int32) (i : Nat) : Int32 := xs.getD i 0
theorem rAt_gA {xs : List Int32} {i : Nat} (h : i < 2147483648) : rAt xs (nI i) = gA xs i := rAt_nI h
theorem gA_out {xs : List Int32} {i : Nat} (h : xs.length ≤ i) : gA xs i = 0 := by
  unfold gA
  rw [List.getD_eq_getElem?_getD, List.getElem?_eq_none h]
  rfl
theorem bd_rAt {xs : List Int32} {lo hi : Int} (h : ∀ i, bd (gA xs i) lo hi) (p : Int32) (h0 : lo ≤ 0) (h1 : 0 ≤ hi) : bd (rAt xs p) lo hi := by
  unfold rAt
  split
  · exact bd0 h0 h1
  · exact h _
theorem gA_app {xs : List Int32} {v : Int32} {i : Nat} : gA (xs ++ [v]) i = if i < xs.length then gA xs i else if i = xs.length then v else 0 := by
  unfold gA
  split
  next h => rw [List.getD_eq_getElem?_getD, List.getElem?_append_left h, List.getD_eq_getElem?_getD]
  next h =>
    rw [List.getD_eq_getElem?_getD, List.getElem?_append_right (by omega)]
    split
    next h2 => subst h2; simp
    next h2 => rw [List.getElem?_eq_none (by simp; omega)]; rfl
theorem gA_set {xs : List Int32} {i j : Nat} {v : Int32} (h : i < xs.length) : gA (xs.set i v) j = if j = i then v else gA xs j := by
  unfold gA
  rw [List.getD_eq_getElem?_getD, List.getElem?_set, List.getD_eq_getElem?_getD]
  by_cases c : i = j
  · subst c
    simp [h]
  · rw [if_neg c, if_neg (fun e => c e.symm)]
theorem rSet_nI {xs : List Int32} {i : Nat} {v : Int32} (h : i < 2147483648) : rSet xs (nI i) v = xs.set i v := by
  unfold rSet
  rw [if_neg (nI_pos (by omega)), nI_clamp (by omega)]
theorem rAdd_app {cap : Nat} {xs : List Int32} {v : Int32} (h : xs.length < cap) : rAdd cap xs v = xs ++ [v] := if_neg (by omega)
/-! ===== driving ===== -/
theorem abs_bd {a b : Int32} (ha : bd a 0 30) (hb : bd b 0 30) : bd (if 0 ≤ a - b then a - b else 0 - (a - b)) 0 30 ∧ f_X7_apart a b = (if 0 ≤ a - b then a - b else 0 - (a - b)) := by
  obtain ⟨p, q⟩ := ha
  obtain ⟨r, s⟩ := hb
  have e := fb_subI (x := a) (y := b) (by omega) (by omega)
  have e2 := fb_subI (x := b) (y := a) (by omega) (by omega)
  have e3 := fb_subI (x := 0) (y := a - b) (by rw [t32_0, e]; omega) (by rw [t32_0, e]; omega)
  rw [t32_0, e] at e3
  unfold f_X7_apart
  split
  next c =>
    rw [fa_le, t32_0, e] at c
    refine ⟨⟨by omega, by omega⟩, ?_⟩
    rw [if_pos (by rw [fa_le]; omega)]
  next c =>
    rw [fa_le, t32_0, e] at c
    refine ⟨⟨by omega, by omega⟩, ?_⟩
    rw [if_neg (by rw [fa_le]; omega), fa_eq]
    omega
theorem min_bd {d : RV} (hx : ∀ i, bd (gA (d.1 1) i) 0 30) (hy : ∀ i, bd (gA (d.1 2) i) 0 30) (i j : Int32) : bd (f_X0_minutes d i j) 0 60 := by
  unfold f_X0_minutes
  dsimp only [yl]
  exact (bd_add (abs_bd (bd_rAt hx i (by omega) (by omega)) (bd_rAt hx j (by omega) (by omega))).1 (abs_bd (bd_rAt hy i (by omega) (by omega)) (bd_rAt hy j (by omega) (by omega))).1 (by omega) (by omega)).1
/-! ===== visits ===== -/
theorem vis34 : ∀ v : Fin 34, f_X6_rideOf (nI v.val) = nI (v.val / 2) ∧ f_X6_setsDown (nI v.val) = nI (v.val % 2) ∧ nI v.val / 2 = nI (v.val / 2) ∧ nI v.val - nI v.val / 2 * 2 = nI (v.val % 2) := by decide +kernel
theorem vis_ride {v : Nat} (h : v < 34) : f_X6_rideOf (nI v) = nI (v / 2) := (vis34 ⟨v, h⟩).1
theorem vis_down {v : Nat} (h : v < 34) : f_X6_setsDown (nI v) = nI (v % 2) := (vis34 ⟨v, h⟩).2.1
theorem vis_half {v : Nat} (h : v < 34) : nI v / 2 = nI (v / 2) := (vis34 ⟨v, h⟩).2.2.1
theorem vis_mod {v : Nat} (h : v < 34) : nI v - nI v / 2 * 2 = nI (v % 2) := (vis34 ⟨v, h⟩).2.2.2
theorem nI0_iff {n : Nat} (h : n < 2147483648) : nI n = 0 ↔ n = 0 := nI_eq (b := 0) h (by omega)
