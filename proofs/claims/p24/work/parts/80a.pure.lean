/-! ===== numbers (the first eight rows are pasted from the kit's NUMBERS and COUNTS) ===== -/
theorem fa_lt (a b : Int32) : a < b ↔ a.toInt < b.toInt := Int32.lt_iff_toInt_lt
theorem fa_le (a b : Int32) : a ≤ b ↔ a.toInt ≤ b.toInt := Int32.le_iff_toInt_le
theorem fa_eq (a b : Int32) : a = b ↔ a.toInt = b.toInt := Int32.toInt_inj.symm
theorem fb_rng (x : Int32) : -2147483648 ≤ x.toInt ∧ x.toInt < 2147483648 := by
  have h1 := Int32.le_toInt x
  have h2 := Int32.toInt_lt x
  omega
theorem fb_bmod {z : Int} (h1 : -2147483648 ≤ z) (h2 : z < 2147483648) : z.bmod (2 ^ 32) = z := by
  rw [Int.bmod_eq_of_le (by omega) (by omega)]
theorem fb_addI {x y : Int32} (h1 : -2147483648 ≤ x.toInt + y.toInt) (h2 : x.toInt + y.toInt < 2147483648) : (x + y).toInt = x.toInt + y.toInt := by
  rw [Int32.toInt_add, fb_bmod h1 h2]
theorem fb_subI {x y : Int32} (h1 : -2147483648 ≤ x.toInt - y.toInt) (h2 : x.toInt - y.toInt < 2147483648) : (x - y).toInt = x.toInt - y.toInt := by
  rw [Int32.toInt_sub, fb_bmod h1 h2]
theorem nI_mul (a b : Nat) : nI a * nI b = nI (a * b) := (Int32.ofNat_mul a b).symm
theorem t32_0 : (0 : Int32).toInt = 0 := by decide
theorem t32_1 : (1 : Int32).toInt = 1 := by decide
theorem t32_m1 : (-1 : Int32).toInt = -1 := by decide
theorem ix2 (i : Nat) : (2 : Int32) * nI i = nI (2 * i) := by
  rw [show (2 : Int32) = nI 2 from rfl, nI_mul]
/-- between two numbers -/
def bd (x : Int32) (lo hi : Int) : Prop := lo ≤ x.toInt ∧ x.toInt ≤ hi
theorem bd_nI {n : Nat} {lo hi : Int} (h : lo ≤ n) (h2 : (n : Int) ≤ hi) (h3 : n < 2147483648) : bd (nI n) lo hi := by
  unfold bd
  rw [nI_toInt h3]
  exact ⟨h, h2⟩
theorem bd0 {lo hi : Int} (h : lo ≤ 0) (h2 : 0 ≤ hi) : bd 0 lo hi := by
  unfold bd
  rw [t32_0]
  exact ⟨h, h2⟩
theorem bd_wide {x : Int32} {lo hi lo' hi' : Int} (h : bd x lo hi) (h1 : lo' ≤ lo) (h2 : hi ≤ hi') : bd x lo' hi' := ⟨Int.le_trans h1 h.1, Int.le_trans h.2 h2⟩
theorem bd_add {x y : Int32} {a b c e : Int} (h : bd x a b) (h2 : bd y c e) (h3 : -2147483648 ≤ a + c) (h4 : b + e ≤ 2147483647) : bd (x + y) (a + c) (b + e) ∧ (x + y).toInt = x.toInt + y.toInt := by
  obtain ⟨p, q⟩ := h
  obtain ⟨r, s⟩ := h2
  have e1 := fb_addI (x := x) (y := y) (by omega) (by omega)
  refine ⟨?_, e1⟩
  unfold bd
  rw [e1]
  omega
theorem bd_sub {x y : Int32} {a b c e : Int} (h : bd x a b) (h2 : bd y c e) (h3 : -2147483648 ≤ a - e) (h4 : b - c ≤ 2147483647) : bd (x - y) (a - e) (b - c) ∧ (x - y).toInt = x.toInt - y.toInt := by
  obtain ⟨p, q⟩ := h
  obtain ⟨r, s⟩ := h2
  have e1 := fb_subI (x := x) (y := y) (by omega) (by omega)
  refine ⟨?_, e1⟩
  unfold bd
  rw [e1]
  omega
/-- a bounded number that is not below 0 is a natural one -/
theorem bd_nat {x : Int32} {hi : Nat} (h : bd x 0 hi) : ∃ n : Nat, n ≤ hi ∧ x = nI n := by
  obtain ⟨p, q⟩ := h
  obtain ⟨j, hj, e⟩ := nI_of (x := x) (by rw [fa_lt, t32_0]; omega)
  refine ⟨j, ?_, e⟩
  rw [e, nI_toInt hj] at q
  omega
def gA (xs : List Int32) (i : Nat) : Int32 := xs.getD i 0
theorem rAt_gA {xs : List Int32} {i : Nat} (h : i < 2147483648) : rAt xs (nI i) = gA xs i := rAt_nI h
theorem gA_out {xs : List Int32} {i : Nat} (h : xs.length ≤ i) : gA xs i = 0 := by
  unfold gA
  rw [List.getD_eq_getElem?_getD, List.getElem?_eq_none h]
  rfl
theorem bd_rAt {xs : List Int32} {lo hi : Int} (h : ∀ i, bd (gA xs i) lo hi) (p : Int32) (h0 : lo ≤ 0) (h1 : 0 ≤ hi) : bd (rAt xs p) lo hi := by
  unfold rAt
  split
  · exact bd0 h0 h1
  · exact h _
theorem gA_app {xs : List Int32} {v : Int32} {i : Nat} : gA (xs ++ [v]) i = if i < xs.length then gA xs i else if i = xs.length then v else 0 := by
  unfold gA
  split
  next h => rw [List.getD_eq_getElem?_getD, List.getElem?_append_left h, List.getD_eq_getElem?_getD]
  next h =>
    rw [List.getD_eq_getElem?_getD, List.getElem?_append_right (by omega)]
    split
    next h2 => subst h2; simp
    next h2 => rw [List.getElem?_eq_none (by simp; omega)]; rfl
theorem gA_set {xs : List Int32} {i j : Nat} {v : Int32} (h : i < xs.length) : gA (xs.set i v) j = if j = i then v else gA xs j := by
  unfold gA
  rw [List.getD_eq_getElem?_getD, List.getElem?_set, List.getD_eq_getElem?_getD]
  by_cases c : i = j
  · subst c
    simp [h]
  · rw [if_neg c, if_neg (fun e => c e.symm)]
theorem rSet_nI {xs : List Int32} {i : Nat} {v : Int32} (h : i < 2147483648) : rSet xs (nI i) v = xs.set i v := by
  unfold rSet
  rw [if_neg (nI_pos (by omega)), nI_clamp (by omega)]
theorem rAdd_app {cap : Nat} {xs : List Int32} {v : Int32} (h : xs.length < cap) : rAdd cap xs v = xs ++ [v] := if_neg (by omega)
theorem abs_bd {a b : Int32} (ha : bd a 0 30) (hb : bd b 0 30) : bd (if 0 ≤ a - b then a - b else 0 - (a - b)) 0 30 ∧ True := by
  obtain ⟨p, q⟩ := ha
  obtain ⟨r, s⟩ := hb
  have e := fb_subI (x := a) (y := b) (by omega) (by omega)
  have e3 := fb_subI (x := 0) (y := a - b) (by rw [t32_0, e]; omega) (by rw [t32_0, e]; omega)
  rw [t32_0, e] at e3
  split
  next c =>
    rw [fa_le, t32_0, e] at c
    exact ⟨⟨by omega, by omega⟩, trivial⟩
  next c =>
    rw [fa_le, t32_0, e] at c
    exact ⟨⟨by omega, by omega⟩, trivial⟩
theorem min_bd {d : RV} (hx : ∀ i, bd (gA (d.1 1) i) 0 30) (hy : ∀ i, bd (gA (d.1 2) i) 0 30) (i j : Int32) : bd (f_X0_minutes d i j) 0 60 := by
  unfold f_X0_minutes
  dsimp only [yl]
  exact (bd_add (abs_bd (bd_rAt hx i (by omega) (by omega)) (bd_rAt hx j (by omega) (by omega))).1 (abs_bd (bd_rAt hy i (by omega) (by omega)) (bd_rAt hy j (by omega) (by omega))).1 (by omega) (by omega)).1
/-! ===== visits ===== -/
theorem vis34 : ∀ v : Fin 34, f_X6_rideOf (nI v.val) = nI (v.val / 2) ∧ f_X6_setsDown (nI v.val) = nI (v.val % 2) ∧ nI v.val / 2 = nI (v.val / 2) ∧ nI v.val - nI v.val / 2 * 2 = nI (v.val % 2) := by decide +kernel
theorem vis_ride {v : Nat} (h : v < 34) : f_X6_rideOf (nI v) = nI (v / 2) := (vis34 ⟨v, h⟩).1
theorem vis_down {v : Nat} (h : v < 34) : f_X6_setsDown (nI v) = nI (v % 2) := (vis34 ⟨v, h⟩).2.1
theorem nI0_iff {n : Nat} (h : n < 2147483648) : nI n = 0 ↔ n = 0 := nI_eq (b := 0) h (by omega)
/-- a day's numbers are in their ranges -/
def bdS (d : RV) : Prop := bd (gA (d.1 0) 0) 1 8 ∧ bd (gA (d.1 0) 1) 0 60 ∧ bd (gA (d.1 0) 2) 0 5
def bdX (d : RV) : Prop := (∀ i, bd (gA (d.1 1) i) 0 30) ∧ (∀ i, bd (gA (d.1 2) i) 0 30)
def bdT (d : RV) : Prop := (∀ i, bd (gA (d.1 5) i) 0 600) ∧ (∀ i, bd (gA (d.1 6) i) 0 900) ∧ (∀ i, bd (gA (d.1 9) i) (-6) 30000)
def bdN (d : RV) (n : Nat) : Prop := ∀ r, r < n → ∃ i j, i < 12 ∧ j < 12 ∧ gA (d.1 3) r = nI i ∧ gA (d.1 4) r = nI j ∧ gA (d.1 7) r = f_X0_minutes d (nI i) (nI j) ∧ i < (d.1 1).length ∧ j < (d.1 1).length
def bdD (d : RV) (n : Nat) : Prop := bdS d ∧ bdX d ∧ bdT d ∧ bdN d n ∧ ∃ i, i < 12 ∧ d.2 1 = nI i
theorem stopOf_eq {d : RV} {v : Nat} (h : v < 34) : f_X0_stopOf d (nI v) = if v % 2 = 0 then gA (d.1 3) (v / 2) else gA (d.1 4) (v / 2) := by
  unfold f_X0_stopOf
  dsimp only [yl]
  rw [vis_ride h, vis_down h, rAt_gA (by omega), rAt_gA (by omega)]
  by_cases e : v % 2 = 0
  · rw [if_pos e, if_pos ((nI0_iff (by omega)).mpr e)]
  · rw [if_neg e, if_neg (fun z => e ((nI0_iff (by omega)).mp z))]
/-! ===== the way ===== -/
def gN (ws : List Nat) (i : Nat) : Nat := ws.getD i 0
/-! ===== the class's timetable, visit by visit ===== -/
def sSt (d : RV) (v : Nat) : Int32 := f_X0_stopOf d (nI v)
def sMin (d t : RV) (v : Nat) : Int32 := f_X0_minutes d (t.2 0) (sSt d v)
def sCome (d t : RV) (v : Nat) : Int32 := t.2 1 + sMin d t v
def sTime (d t : RV) (v : Nat) : Int32 := if v % 2 = 0 then (if sCome d t v < gA (d.1 5) (v / 2) then gA (d.1 5) (v / 2) else sCome d t v) else sCome d t v
def sAb (t : RV) (v : Nat) : Int32 := if v % 2 = 0 then t.2 2 + 1 else t.2 2 + (-1)
def sLate (d t : RV) (v : Nat) : Int32 := ((gA (t.1 3) (v / 2) + gA (d.1 0) 2) + gA (d.1 7) (v / 2)) + gA (d.1 0) 1
def stepOk (d t : RV) (v : Nat) (t' : RV) : Prop := t'.2 0 = sSt d v ∧ t'.2 1 = sTime d t v + gA (d.1 0) 2 ∧ t'.2 2 = sAb t v ∧ t'.2 3 = t.2 3 + sMin d t v ∧ t'.2 4 = t.2 4 + (sTime d t v - sCome d t v) ∧ t'.1 0 = rAdd 34 (t.1 0) (sTime d t v) ∧ t'.1 1 = rAdd 34 (t.1 1) (sAb t v) ∧ t'.1 2 = rAdd 34 (t.1 2) (sTime d t v - sCome d t v) ∧ t'.1 3 = (if v % 2 = 0 then rSet (t.1 3) (nI (v / 2)) (sTime d t v) else t.1 3) ∧ t'.1 4 = (if v % 2 = 0 then t.1 4 else rSet (t.1 4) (nI (v / 2)) (sTime d t v))
theorem step_ok {d t : RV} {v : Nat} (h : v < 34) : stepOk d t v (f_X5_step t d (nI v)).2 := by
  unfold stepOk sTime sAb sCome sMin sSt f_X5_step
  dsimp only [yl]
  rw [vis_ride h, vis_down h, rAt_gA (xs := d.1 5) (i := v / 2) (by omega), show rAt (d.1 0) (2 : Int32) = gA (d.1 0) 2 from rAt_gA (i := 2) (by omega)]
  by_cases e : v % 2 = 0
  · simp only [if_pos e, if_pos ((nI0_iff (n := v % 2) (by omega)).mpr e)]
    split <;> split <;> exact ⟨rfl, rfl, rfl, rfl, rfl, rfl, rfl, rfl, rfl, rfl⟩
  · simp only [if_neg e, if_neg (fun z => e ((nI0_iff (n := v % 2) (by omega)).mp z))]
    split
    · exact ⟨rfl, rfl, rfl, rfl, rfl, rfl, rfl, rfl, rfl, rfl⟩
    · split
      · exact ⟨rfl, rfl, rfl, rfl, rfl, rfl, rfl, rfl, rfl, rfl⟩
      · exact ⟨rfl, rfl, rfl, rfl, rfl, rfl, rfl, rfl, rfl, rfl⟩
theorem step_flag0 {d t : RV} {v : Nat} (h : v < 34) (e : v % 2 = 0) : (f_X5_step t d (nI v)).1 = if gA (d.1 0) 0 < t.2 2 + 1 then 0 else 1 := by
  unfold f_X5_step
  dsimp only [yl]
  rw [vis_ride h, vis_down h, if_pos ((nI0_iff (n := v % 2) (by omega)).mpr e), show rAt (d.1 0) (0 : Int32) = gA (d.1 0) 0 from rAt_gA (i := 0) (by omega)]
  show (if gA (d.1 0) 0 < t.2 2 + 1 then _ else _ : Int32 × RV).1 = _
  split <;> rfl
theorem step_flag1 {d t : RV} {v : Nat} (h : v < 34) (e : ¬ v % 2 = 0) : (f_X5_step t d (nI v)).1 = if gA (d.1 6) (v / 2) < sCome d t v then 0 else if sLate d t v < sCome d t v then 0 else 1 := by
  unfold f_X5_step
  dsimp only [yl]
  rw [vis_ride h, vis_down h, if_neg (fun z => e ((nI0_iff (n := v % 2) (by omega)).mp z)), rAt_gA (xs := d.1 6) (i := v / 2) (by omega)]
  have e1 : ∀ t58 : RV, t58.1 3 = t.1 3 → f_X5_latestByDetour t58 d (nI (v / 2)) = sLate d t v := by
    intro t58 h58
    unfold f_X5_latestByDetour sLate
    dsimp only [yl]
    rw [h58, rAt_gA (by omega), rAt_gA (by omega), show rAt (d.1 0) (2 : Int32) = gA (d.1 0) 2 from rAt_gA (i := 2) (by omega), show rAt (d.1 0) (1 : Int32) = gA (d.1 0) 1 from rAt_gA (i := 1) (by omega)]
  rw [e1]
  · show (if gA (d.1 6) (v / 2) < sCome d t v then _ else if sLate d t v < sCome d t v then _ else _ : Int32 × RV).1 = _
    split
    · rfl
    · split <;> rfl
  · rfl
/-- the table behind the first k visits -/
def TK (d : RV) (ws : List Nat) : Nat → RV
  | 0 => f_X5_begin T0 d
  | k + 1 => (f_X5_step (TK d ws k) d (nI (gN ws k))).2
def flagK (d : RV) (ws : List Nat) (k : Nat) : Int32 := (f_X5_step (TK d ws k) d (nI (gN ws k))).1
theorem gN_get {ws : List Nat} {k : Nat} (h : k < ws.length) : gN ws k = ws[k] := by
  unfold gN
  rw [List.getD_eq_getElem?_getD, List.getElem?_eq_getElem h]
  rfl
theorem follow_from (d : RV) (ws : List Nat) : ∀ n k, k + n = ws.length → ((ws.drop k).map nI).foldl (fun t v => (f_X5_step t d v).2) (TK d ws k) = TK d ws ws.length := by
  intro n
  induction n with
  | zero =>
    intro k h
    rw [List.drop_of_length_le (by omega), show k = ws.length by omega]
    rfl
  | succ n ih =>
    intro k h
    rw [List.drop_eq_getElem_cons (by omega), List.map_cons, List.foldl_cons, ← gN_get (by omega)]
    exact ih (k + 1) (by omega)
theorem follow_TK {d : RV} {ws : List Nat} (h : d.1 11 = ws.map nI) : fFollow T0 d = TK d ws ws.length := by
  unfold fFollow
  rw [h]
  exact follow_from d ws ws.length 0 (by omega)
theorem keeps_from (d : RV) (ws : List Nat) : ∀ n k, k + n = ws.length → ((fKeepsL d ((ws.drop k).map nI) (TK d ws k)) = (1, TK d ws ws.length) ∧ ∀ j, k ≤ j → j < ws.length → flagK d ws j ≠ 0) ∨ ((fKeepsL d ((ws.drop k).map nI) (TK d ws k)).1 = 0 ∧ ∃ j, j < ws.length ∧ flagK d ws j = 0) := by
  intro n
  induction n with
  | zero =>
    intro k h
    rw [List.drop_of_length_le (by omega), show k = ws.length by omega]
    exact Or.inl ⟨rfl, fun j h1 h2 => absurd h2 (by omega)⟩
  | succ n ih =>
    intro k h
    rw [List.drop_eq_getElem_cons (by omega), List.map_cons, ← gN_get (by omega)]
    unfold fKeepsL
    by_cases c : (f_X5_step (TK d ws k) d (nI (gN ws k))).1 = 0
    · rw [if_pos c]
      exact Or.inr ⟨rfl, k, by omega, c⟩
    · rw [if_neg c]
      rcases ih (k + 1) (by omega) with ⟨h1, h2⟩ | ⟨h1, h2⟩
      · refine Or.inl ⟨h1, fun j h3 h4 => ?_⟩
        by_cases e : j = k
        · rw [e]; exact c
        · exact h2 j (by omega) h4
      · exact Or.inr ⟨h1, h2⟩
/-- a route is kept, or it isn't -/
theorem keeps_TK {d : RV} {ws : List Nat} (h : d.1 11 = ws.map nI) : (fKeeps T0 d = (1, TK d ws ws.length) ∧ ∀ j, j < ws.length → flagK d ws j ≠ 0) ∨ ((fKeeps T0 d).1 = 0 ∧ ¬ ∀ j, j < ws.length → flagK d ws j ≠ 0) := by
  unfold fKeeps
  rw [h]
  rcases keeps_from d ws ws.length 0 (by omega) with ⟨h1, h2⟩ | ⟨h1, j, h2, h3⟩
  · exact Or.inl ⟨h1, fun j h4 => h2 j (Nat.zero_le _) h4⟩
  · exact Or.inr ⟨h1, fun z => z j h2 h3⟩
/-! ===== what the timetable holds behind k visits ===== -/
def wsOk (ws : List Nat) (n : Nat) : Prop := ws.length ≤ 34 ∧ (∀ j, j < ws.length → gN ws j < 2 * n) ∧ (∀ p q, p < q → q < ws.length → gN ws p ≠ gN ws q) ∧ (∀ p q, p < q → q < ws.length → ¬ (gN ws q % 2 = 0 ∧ gN ws p = gN ws q + 1))
def lenD (d : RV) (n : Nat) : Prop := (d.1 0).length = 3 ∧ (d.1 1).length ≤ 12 ∧ (d.1 2).length = (d.1 1).length ∧ (d.1 3).length = n ∧ (d.1 4).length = n ∧ (d.1 5).length = n ∧ (d.1 6).length = n ∧ (d.1 7).length = n ∧ (d.1 8).length = n ∧ (d.1 9).length = n ∧ (d.1 10).length = n
def tabF (d : RV) (ws : List Nat) (n k : Nat) : Prop :=
  ((TK d ws k).1 0).length = k ∧ ((TK d ws k).1 1).length = k ∧ ((TK d ws k).1 2).length = k ∧ ((TK d ws k).1 3).length = n ∧ ((TK d ws k).1 4).length = n ∧
  (∀ j, j < k → gA ((TK d ws k).1 0) j = sTime d (TK d ws j) (gN ws j) ∧ gA ((TK d ws k).1 1) j = sAb (TK d ws j) (gN ws j) ∧ gA ((TK d ws k).1 2) j = sTime d (TK d ws j) (gN ws j) - sCome d (TK d ws j) (gN ws j)) ∧
  bd ((TK d ws k).2 1) 0 (3000 + 700 * (k : Int)) ∧ (∃ i, i < 12 ∧ (TK d ws k).2 0 = nI i) ∧ bd ((TK d ws k).2 2) (- (k : Int)) (17 + (k : Int)) ∧
  (∀ r, r < n → (∀ p, p < k → gN ws p ≠ 2 * r) → gA ((TK d ws k).1 3) r = gA (d.1 9) r) ∧ (∀ r p, p < k → gN ws p = 2 * r → gA ((TK d ws k).1 3) r = sTime d (TK d ws p) (2 * r)) ∧
  (∀ r, r < n → (∀ p, p < k → gN ws p ≠ 2 * r + 1) → gA ((TK d ws k).1 4) r = gA (d.1 10) r) ∧ (∀ r p, p < k → gN ws p = 2 * r + 1 → gA ((TK d ws k).1 4) r = sTime d (TK d ws p) (2 * r + 1))
theorem bd_nStand {xs : List Int32} {how : Int32} {n : Nat} (h : xs.length ≤ n) (hn : n < 1000) : bd (nStand xs how) 0 n := by
  have h1 : cntOf xs how ≤ xs.length := List.countP_le_length
  exact bd_nI (by omega) (by omega) (by omega)
theorem sCome_bd {d t : RV} {v k : Nat} (hx : bdX d) (ht : bd (t.2 1) 0 (3000 + 700 * (k : Int))) (hk : k < 1000) : bd (sCome d t v) 0 (3060 + 700 * (k : Int)) ∧ (sCome d t v).toInt = (t.2 1).toInt + (sMin d t v).toInt := by
  have h := bd_add ht (min_bd hx.1 hx.2 (t.2 0) (sSt d v)) (by omega) (by omega)
  exact ⟨bd_wide h.1 (by omega) (by omega), h.2⟩
theorem sTime_bd {d t : RV} {v k : Nat} (hx : bdX d) (hT : bdT d) (ht : bd (t.2 1) 0 (3000 + 700 * (k : Int))) (hk : k < 1000) : bd (sTime d t v) 0 (3060 + 700 * (k : Int)) := by
  have h := (sCome_bd (v := v) hx ht hk).1
  unfold sTime
  split
  · split
    · exact bd_wide (hT.1 _) (by omega) (by omega)
    · exact h
  · exact h
theorem sSt_at {d : RV} {n v : Nat} (hN : bdN d n) (hv : v < 2 * n) (hn : n ≤ 17) : ∃ i, i < 12 ∧ sSt d v = nI i := by
  unfold sSt
  rw [stopOf_eq (by omega)]
  obtain ⟨i, j, hi, hj, e3, e4, -⟩ := hN (v / 2) (by omega)
  split
  · exact ⟨i, hi, e3⟩
  · exact ⟨j, hj, e4⟩
