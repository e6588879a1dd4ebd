/-! ===== the class's timetable, visit by visit ===== -/
def sSt (d : RV) (v : Nat) : Int32 := f_X0_stopOf d (nI v)
def sMin (d t : RV) (v : Nat) : Int32 := f_X0_minutes d (t.2 0) (sSt d v)
def sCome (d t : RV) (v : Nat) : Int32 := t.2 1 + sMin d t v
def sTime (d t : RV) (v : Nat) : Int32 := if v % 2 = 0 then (if sCome d t v < gA (d.1 5) (v / 2) then gA (d.1 5) (v / 2) else sCome d t v) else sCome d t v
def sAb (t : RV) (v : Nat) : Int32 := if v % 2 = 0 then t.2 2 + 1 else t.2 2 + (-1)
def sLate (d t : RV) (v : Nat) : Int32 := ((gA (t.1 3) (v / 2) + gA (d.1 0) 2) + gA (d.1 7) (v / 2)) + gA (d.1 0) 1
def stepOk (d t : RV) (v : Nat) (t' : RV) : Prop := t'.2 0 = sSt d v ∧ t'.2 1 = sTime d t v + gA (d.1 0) 2 ∧ t'.2 2 = sAb t v ∧ t'.2 3 = t.2 3 + sMin d t v ∧ t'.2 4 = t.2 4 + (sTime d t v - sCome d t v) ∧ t'.1 0 = rAdd 34 (t.1 0) (sTime d t v) ∧ t'.1 1 = rAdd 34 (t.1 1) (sAb t v) ∧ t'.1 2 = rAdd 34 (t.1 2) (sTime d t v - sCome d t v) ∧ t'.1 3 = (if v % 2 = 0 then rSet (t.1 3) (nI (v / 2)) (sTime d t v) else t.1 3) ∧ t'.1 4 = (if v % 2 = 0 then t.1 4 else rSet (t.1 4) (nI (v / 2)) (sTime d t v))
theorem step_ok {d t : RV} {v : Nat} (h : v < 34) : stepOk d t v (f_X5_step t d (nI v)).2 := by
  unfold stepOk sTime sAb sCome sMin sSt f_X5_step
  dsimp only [yl]
  rw [vis_ride h, vis_down h, rAt_gA (xs := d.1 5) (i := v / 2) (by omega), show rAt (d.1 0) (2 : Int32) = gA (d.1 0) 2 from rAt_gA (i := 2) (by omega)]
  by_cases e : v % 2 = 0
  · simp only [if_pos e, if_pos ((nI0_iff (n := v % 2) (by omega)).mpr e)]
    split <;> split <;> exact ⟨rfl, rfl, rfl, rfl, rfl, rfl, rfl, rfl, rfl, rfl⟩
  · simp only [if_neg e, if_neg (fun z => e ((nI0_iff (n := v % 2) (by omega)).mp z))]
    split
    · exact ⟨rfl, rfl, rfl, rfl, rfl, rfl, rfl, rfl, rfl, rfl⟩
    · split
      · exact ⟨rfl, rfl, rfl, rfl, rfl, rfl, rfl, rfl, rfl, rfl⟩
      · exact ⟨rfl, rfl, rfl, rfl, rfl, rfl, rfl, rfl, rfl, rfl⟩
theorem step_flag0 {d t : RV} {v : Nat} (h : v < 34) (e : v % 2 = 0) : (f_X5_step t d (nI v)).1 = if gA (d.1 0) 0 < t.2 2 + 1 then 0 else 1 := by
  unfold f_X5_step
  dsimp only [yl]
  rw [vis_ride h, vis_down h, if_pos ((nI0_iff (n := v % 2) (by omega)).mpr e), show rAt (d.1 0) (0 : Int32) = gA (d.1 0) 0 from rAt_gA (i := 0) (by omega)]
  show (if gA (d.1 0) 0 < t.2 2 + 1 then _ else _ : Int32 × RV).1 = _
  split <;> rfl
theorem step_flag1 {d t : RV} {v : Nat} (h : v < 34) (e : ¬ v % 2 = 0) : (f_X5_step t d (nI v)).1 = if gA (d.1 6) (v / 2) < sCome d t v then 0 else if sLate d t v < sCome d t v then 0 else 1 := by
  unfold f_X5_step
  dsimp only [yl]
  rw [vis_ride h, vis_down h, if_neg (fun z => e ((nI0_iff (n := v % 2) (by omega)).mp z)), rAt_gA (xs := d.1 6) (i := v / 2) (by omega)]
  have e1 : ∀ t58 : RV, t58.1 3 = t.1 3 → f_X5_latestByDetour t58 d (nI (v / 2)) = sLate d t v := by
    intro t58 h58
    unfold f_X5_latestByDetour sLate
    dsimp only [yl]
    rw [h58, rAt_gA (by omega), rAt_gA (by omega), show rAt (d.1 0) (2 : Int32) = gA (d.1 0) 2 from rAt_gA (i := 2) (by omega), show rAt (d.1 0) (1 : Int32) = gA (d.1 0) 1 from rAt_gA (i := 1) (by omega)]
  rw [e1]
  · show (if gA (d.1 6) (v / 2) < sCome d t v then _ else if sLate d t v < sCome d t v then _ else _ : Int32 × RV).1 = _
    split
    · rfl
    · split <;> rfl
  · rfl
/-- the table behind the first k visits -/
def TK (d : RV) (ws : List Nat) : Nat → RV
  | 0 => f_X5_begin T0 d
  | k + 1 => (f_X5_step (TK d ws k) d (nI (gN ws k))).2
def flagK (d : RV) (ws : List Nat) (k : Nat) : Int32 := (f_X5_step (TK d ws k) d (nI (gN ws k))).1
theorem gN_get {ws : List Nat} {k : Nat} (h : k < ws.length) : gN ws k = ws[k] := by
  unfold gN
  rw [List.getD_eq_getElem?_getD, List.getElem?_eq_getElem h]
  rfl
theorem follow_from (d : RV) (ws : List Nat) : ∀ n k, k + n = ws.length → ((ws.drop k).map nI).foldl (fun t v => (f_X5_step t d v).2) (TK d ws k) = TK d ws ws.length := by
  intro n
  induction n with
  | zero =>
    intro k h
    rw [List.drop_of_length_le (by omega), show k = ws.length by omega]
    rfl
  | succ n ih =>
    intro k h
    rw [List.drop_eq_getElem_cons (by omega), List.map_cons, List.foldl_cons, ← gN_get (by omega)]
    exact ih (k + 1) (by omega)
theorem follow_TK {d : RV} {ws : List Nat} (h : d.1 11 = ws.map nI) : fFollow T0 d = TK d ws ws.length := by
  unfold fFollow
  rw [h]
  exact follow_from d ws ws.length 0 (by omega)
theorem keeps_from (d : RV) (ws : List Nat) : ∀ n k, k + n = ws.length → ((fKeepsL d ((ws.drop k).map nI) (TK d ws k)) = (1, TK d ws ws.length) ∧ ∀ j, k ≤ j → j < ws.length → flagK d ws j ≠ 0) ∨ ((fKeepsL d ((ws.drop k).map nI) (TK d ws k)).1 = 0 ∧ ∃ j, j < ws.length ∧ flagK d ws j = 0) := by
  intro n
  induction n with
  | zero =>
    intro k h
    rw [List.drop_of_length_le (by omega), show k = ws.length by omega]
    exact Or.inl ⟨rfl, fun j h1 h2 => absurd h2 (by omega)⟩
  | succ n ih =>
    intro k h
    rw [List.drop_eq_getElem_cons (by omega), List.map_cons, ← gN_get (by omega)]
    unfold fKeepsL
    by_cases c : (f_X5_step (TK d ws k) d (nI (gN ws k))).1 = 0
    · rw [if_pos c]
      exact Or.inr ⟨rfl, k, by omega, c⟩
    · rw [if_neg c]
      rcases ih (k + 1) (by omega) with ⟨h1, h2⟩ | ⟨h1, h2⟩
      · refine Or.inl ⟨h1, fun j h3 h4 => ?_⟩
        by_cases e : j = k
        · rw [e]; exact c
        · exact h2 j (by omega) h4
      · exact Or.inr ⟨h1, h2⟩
/-- a route is kept, or it isn't -/
theorem keeps_TK {d : RV} {ws : List Nat} (h : d.1 11 = ws.map nI) : (fKeeps T0 d = (1, TK d ws ws.length) ∧ ∀ j, j < ws.length → flagK d ws j ≠ 0) ∨ ((fKeeps T0 d).1 = 0 ∧ ¬ ∀ j, j < ws.length → flagK d ws j ≠ 0) := by
  unfold fKeeps
  rw [h]
  rcases keeps_from d ws ws.length 0 (by omega) with ⟨h1, h2⟩ | ⟨h1, j, h2, h3⟩
  · exact Or.inl ⟨h1, fun j h4 => h2 j (Nat.zero_le _) h4⟩
  · exact Or.inr ⟨h1, fun z => z j h2 h3⟩
