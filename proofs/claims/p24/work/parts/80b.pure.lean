theorem tab_F {d : RV} {ws : List Nat} {n : Nat} (hn : n ≤ 17) (hw : wsOk ws n) (hl : lenD d n) (hb : bdD d n) (hf : bd (d.2 2) 0 3000) : ∀ k, k ≤ ws.length → tabF d ws n k := by
  obtain ⟨hbS, hbX, hbT, hbN, i0, hi0, e0⟩ := hb
  obtain ⟨hwl, hwv, hwd, hwo⟩ := hw
  obtain ⟨-, -, -, -, -, -, -, -, h8, h9, h10⟩ := hl
  intro k
  induction k with
  | zero =>
    intro _
    have e9 : (TK d ws 0).1 3 = d.1 9 := List.take_of_length_le (by omega)
    have e10 : (TK d ws 0).1 4 = d.1 10 := List.take_of_length_le (by omega)
    refine ⟨rfl, rfl, rfl, by rw [e9, h9], by rw [e10, h10], fun j hj => absurd hj (Nat.not_lt_zero j), hf, ⟨i0, hi0, e0⟩, ?_, fun r _ _ => by rw [e9], fun r p hp => absurd hp (Nat.not_lt_zero p), fun r _ _ => by rw [e10], fun r p hp => absurd hp (Nat.not_lt_zero p)⟩
    have h := bd_nStand (xs := d.1 8) (how := 1) (n := 17) (by omega) (by omega)
    exact bd_wide h (by omega) (by omega)
  | succ k ih =>
    intro hk
    obtain ⟨f1, f2, f3, f4, f5, fb, fc, ⟨i, hi, fi⟩, fe, ff1, ff2, fg1, fg2⟩ := ih (by omega)
    have hv := hwv k (by omega)
    obtain ⟨s0, s1, s2, -, -, r0, r1, r2, r3, r4⟩ := step_ok (d := d) (t := TK d ws k) (v := gN ws k) (by omega)
    have eT : TK d ws (k + 1) = (f_X5_step (TK d ws k) d (nI (gN ws k))).2 := rfl
    rw [← eT] at s0 s1 s2 r0 r1 r2 r3 r4
    rw [rAdd_app (by omega)] at r0 r1 r2
    rw [rSet_nI (by omega)] at r3 r4
    have htm := sTime_bd (v := gN ws k) hbX hbT fc (by omega)
    refine ⟨by rw [r0]; simp [f1], by rw [r1]; simp [f2], by rw [r2]; simp [f3], ?_, ?_, ?_, ?_, ?_, ?_, ?_, ?_, ?_, ?_⟩
    · rw [r3]; split <;> simp [f4]
    · rw [r4]; split <;> simp [f5]
    · intro j hj
      rw [r0, r1, r2, gA_app, gA_app, gA_app, f1, f2, f3]
      by_cases c : j < k
      · rw [if_pos c, if_pos c, if_pos c]
        exact fb j c
      · rw [if_neg c, if_neg c, if_neg c, if_pos (by omega), if_pos (by omega), if_pos (by omega), show j = k by omega]
        exact ⟨rfl, rfl, rfl⟩
    · rw [s1]
      exact bd_wide (bd_add htm hbS.2.2 (by omega) (by omega)).1 (by omega) (by omega)
    · rw [s0]
      exact sSt_at hbN hv hn
    · rw [s2]
      unfold sAb
      split
      · exact bd_wide (bd_add fe (bd_nI (n := 1) (lo := 1) (hi := 1) (by omega) (by omega) (by omega)) (by omega) (by omega)).1 (by omega) (by omega)
      · exact bd_wide (bd_add (y := -1) (c := -1) (e := -1) fe ⟨by rw [t32_m1]; omega, by rw [t32_m1]; omega⟩ (by omega) (by omega)).1 (by omega) (by omega)
    · intro r hr hp
      rw [r3]
      have h1 := ff1 r hr (fun p hq => hp p (by omega))
      have h2 := hp k (by omega)
      split
      · rw [gA_set (by omega), if_neg (by omega)]
        exact h1
      · exact h1
    · intro r p hp he
      rw [r3]
      by_cases c : p = k
      · subst c
        rw [if_pos (by omega), gA_set (by omega), if_pos (by omega), he]
      · have h1 := ff2 r p (by omega) he
        have h2 := hwd p k (by omega) (by omega)
        split
        · rw [gA_set (by omega), if_neg (by omega)]
          exact h1
        · exact h1
    · intro r hr hp
      rw [r4]
      have h1 := fg1 r hr (fun p hq => hp p (by omega))
      have h2 := hp k (by omega)
      split
      · exact h1
      · rw [gA_set (by omega), if_neg (by omega)]
        exact h1
    · intro r p hp he
      rw [r4]
      by_cases c : p = k
      · subst c
        rw [if_neg (by omega), gA_set (by omega), if_pos (by omega), he]
      · have h1 := fg2 r p (by omega) he
        have h2 := hwd p k (by omega) (by omega)
        split
        · exact h1
        · rw [gA_set (by omega), if_neg (by omega)]
          exact h1
theorem TK_step {d : RV} {ws : List Nat} {n k : Nat} (hn : n ≤ 17) (hw : wsOk ws n) (hk : k < ws.length) : stepOk d (TK d ws k) (gN ws k) (TK d ws (k + 1)) := step_ok (by have := hw.2.1 k hk; omega)
theorem ab_down {d : RV} {ws : List Nat} {n k : Nat} (hF : tabF d ws n k) (hk : k < 100) (hb : bdS d) (h : ¬ gA (d.1 0) 0 < (TK d ws k).2 2) : ¬ gA (d.1 0) 0 < (TK d ws k).2 2 + (-1) := by
  obtain ⟨-, -, -, -, -, -, -, -, fe, -⟩ := hF
  have h1 := (bd_add (y := -1) (c := -1) (e := -1) fe ⟨by rw [t32_m1]; omega, by rw [t32_m1]; omega⟩ (by omega) (by omega)).2
  rw [fa_lt] at h ⊢
  rw [h1, t32_m1]
  omega
/-- the rides that stand in the route are those that are booked or aboard -/
def rtOk (d : RV) (n : Nat) (ws : List Nat) : Prop := d.1 11 = ws.map nI ∧ wsOk ws n ∧ ws.length ≤ 2 * n ∧ ∀ r, r < n → (2 * r ∈ ws ↔ gA (d.1 8) r = 0) ∧ (2 * r + 1 ∈ ws ↔ (gA (d.1 8) r = 0 ∨ gA (d.1 8) r = 1))
/-- at no time more rides aboard than seats -/
def ldOk (S : Int) : Int → List Nat → Prop
  | a, [] => a ≤ S
  | a, v :: l => a ≤ S ∧ ldOk S (if v % 2 = 0 then a + 1 else a - 1) l
def dayOk (d : RV) (n : Nat) (ws : List Nat) : Prop := n ≤ 16 ∧ lenD d n ∧ bdD d n ∧ bd (d.2 2) 0 2100 ∧ bd (d.2 0) 0 2000 ∧ rtOk d n ws ∧ ldOk (gA (d.1 0) 0).toInt (nStand (d.1 8) 1).toInt ws
theorem gA_map {ws : List Nat} {k : Nat} (h : k < ws.length) : gA (ws.map nI) k = nI (gN ws k) := by
  unfold gA
  rw [List.getD_eq_getElem?_getD, List.getElem?_map, List.getElem?_eq_getElem h, gN_get h]
  rfl
theorem gN_mem {ws : List Nat} {k : Nat} (h : k < ws.length) : gN ws k ∈ ws := by
  rw [gN_get h]
  exact List.getElem_mem h
theorem mem_gN {ws : List Nat} {v : Nat} (h : v ∈ ws) : ∃ k, k < ws.length ∧ gN ws k = v := by
  obtain ⟨k, hk, e⟩ := List.getElem_of_mem h
  exact ⟨k, hk, by rw [gN_get hk]; exact e⟩
theorem hasRide_eq (d : RV) (i : Int32) : f_X0_hasRide d i = if i < 0 then 0 else if nI (d.1 8).length ≤ i then 0 else 1 := rfl
theorem hasStop_eq (d : RV) (i : Int32) : f_X0_hasStop d i = if i < 0 then 0 else if nI (d.1 1).length ≤ i then 0 else 1 := rfl
theorem has_ex {n : Nat} {x : Int32} (h : n < 1000) (h2 : (if x < 0 then (0 : Int32) else if nI n ≤ x then 0 else 1) ≠ 0) : ∃ r, r < n ∧ x = nI r := by
  by_cases c : x < 0
  · rw [if_pos c] at h2
    exact absurd rfl h2
  · rw [if_neg c] at h2
    by_cases c2 : nI n ≤ x
    · rw [if_pos c2] at h2
      exact absurd rfl h2
    · rw [fa_lt, t32_0] at c
      rw [fa_le, nI_toInt (by omega)] at c2
      obtain ⟨w, hw, e⟩ := bd_nat (x := x) (hi := n) ⟨by omega, by omega⟩
      refine ⟨w, ?_, e⟩
      rw [e, nI_toInt (by omega)] at c2
      omega
theorem dayTab {d : RV} {n : Nat} {ws : List Nat} (hd : dayOk d n ws) : tabF d ws n ws.length ∧ fFollow T0 d = TK d ws ws.length := by
  obtain ⟨hn, hl, hb, hf, -, ⟨h11, hw, -⟩, -⟩ := id hd
  exact ⟨tab_F (by omega) hw hl hb (bd_wide hf (by omega) (by omega)) _ (Nat.le_refl _), follow_TK h11⟩
theorem dayOk_l8 {d : RV} {n : Nat} {ws : List Nat} (hd : dayOk d n ws) : (d.1 8).length = n := hd.2.1.2.2.2.2.2.2.2.2.1
theorem dayOk_rideF {d : RV} {n : Nat} {ws : List Nat} {ri : Int32} (hd : dayOk d n ws) (h : f_X0_hasRide d ri ≠ 0) : ∃ r, r < n ∧ ri = nI r := by
  have hn := hd.1
  rw [hasRide_eq, dayOk_l8 hd] at h
  exact has_ex (by omega) h
theorem dayOk_stopF {d : RV} {n : Nat} {ws : List Nat} {i : Int32} (hd : dayOk d n ws) (h : f_X0_hasStop d i ≠ 0) : ∃ r, r < 12 ∧ i = nI r ∧ r < (d.1 1).length := by
  have h1 := hd.2.1.2.1
  rw [hasStop_eq] at h
  obtain ⟨r, hr, e⟩ := has_ex (by omega) h
  exact ⟨r, by omega, e, hr⟩
/-! ===== a ride is put into a way ===== -/
def insA (l : List Nat) (i v : Nat) : List Nat := l.take i ++ v :: l.drop i
theorem insA_len {l : List Nat} {i v : Nat} (h : i ≤ l.length) : (insA l i v).length = l.length + 1 := by
  unfold insA
  simp
  omega
theorem gN_out {l : List Nat} {k : Nat} (h : l.length ≤ k) : gN l k = 0 := by
  unfold gN
  rw [List.getD_eq_getElem?_getD, List.getElem?_eq_none h]
  rfl
theorem gN_insA {l : List Nat} {i v k : Nat} (h : i ≤ l.length) : gN (insA l i v) k = if k < i then gN l k else if k = i then v else gN l (k - 1) := by
  unfold gN insA
  rw [List.getD_eq_getElem?_getD]
  have hlen : (l.take i).length = i := by simp; omega
  by_cases c : k < i
  · rw [if_pos c, List.getElem?_append_left (by omega), List.getElem?_take_of_lt c, List.getD_eq_getElem?_getD]
  · rw [if_neg c, List.getElem?_append_right (by omega), hlen]
    by_cases c2 : k = i
    · rw [if_pos c2, c2, Nat.sub_self]
      rfl
    · rw [if_neg c2, show k - i = (k - 1 - i) + 1 by omega, List.getElem?_cons_succ, List.getElem?_drop, List.getD_eq_getElem?_getD, show i + (k - 1 - i) = k - 1 by omega]
theorem mem_insA {l : List Nat} {i v x : Nat} : x ∈ insA l i v ↔ x = v ∨ x ∈ l := by
  unfold insA
  rw [List.mem_append, List.mem_cons]
  constructor
  · rintro (h | h | h)
    · exact Or.inr (List.mem_of_mem_take h)
    · exact Or.inl h
    · exact Or.inr (List.mem_of_mem_drop h)
  · rintro (h | h)
    · exact Or.inr (Or.inl h)
    · rw [← List.take_append_drop i l, List.mem_append] at h
      exact h.elim Or.inl (fun z => Or.inr (Or.inr z))
theorem insA_map {l : List Nat} {i v : Nat} : (insA l i v).map nI = (l.map nI).take i ++ nI v :: (l.map nI).drop i := by
  unfold insA
  rw [List.map_append, List.map_cons, List.map_take, List.map_drop]
/-- the way with both visits of ride n -/
def wayOf (ws : List Nat) (n i j : Nat) : List Nat := insA (insA ws i (2 * n)) j (2 * n + 1)
theorem wayOf_len {ws : List Nat} {n i j : Nat} (hi : i ≤ ws.length) (hj : j ≤ ws.length + 1) : (wayOf ws n i j).length = ws.length + 2 := by
  unfold wayOf
  rw [insA_len (by rw [insA_len hi]; exact hj), insA_len hi]
theorem gN_wayOf {ws : List Nat} {n i j k : Nat} (hi : i ≤ ws.length) (hj : j ≤ ws.length + 1) : gN (wayOf ws n i j) k = if k < j then (if k < i then gN ws k else if k = i then 2 * n else gN ws (k - 1)) else if k = j then 2 * n + 1 else (if k - 1 < i then gN ws (k - 1) else if k - 1 = i then 2 * n else gN ws (k - 2)) := by
  unfold wayOf
  rw [gN_insA (by rw [insA_len hi]; exact hj), gN_insA hi, gN_insA hi]
  rfl
theorem lay_eq {sv sd : RV} {ws : List Nat} {n i j : Nat} (hn : n < 17) (hl : ws.length ≤ 32) (hi : i ≤ ws.length) (hj : j ≤ ws.length + 1) : f_X4_lay sv sd (ws.map nI) (nI n) (nI i) (nI j) = rvR sd 11 ((wayOf ws n i j).map nI) := by
  unfold f_X4_lay
  dsimp only [yl]
  rw [rvR_eq, rvR_rvR, rvR_eq, rvR_rvR]
  have e0 : rCopy 34 (ws.map nI) = ws.map nI := List.take_of_length_le (by rw [List.length_map]; omega)
  have e1 : rIns 34 (ws.map nI) (nI i) (f_X6_pickUp (nI n)) = (insA ws i (2 * n)).map nI := by
    unfold rIns
    rw [nI_clamp (by omega), List.length_map, if_neg (by rintro (h | h | h); exact nI_pos (by omega) h; omega; omega), insA_map]
    unfold f_X6_pickUp
    rw [ix2]
  have e2 : rIns 34 ((insA ws i (2 * n)).map nI) (nI j) (f_X6_setDown (nI n)) = (wayOf ws n i j).map nI := by
    unfold rIns wayOf
    rw [nI_clamp (by omega), List.length_map, insA_len hi, if_neg (by rintro (h | h | h); exact nI_pos (by omega) h; omega; omega), insA_map (l := insA ws i (2 * n))]
    unfold f_X6_setDown
    rw [ix2, nI_1]
  rw [e0, e1, e2]
/-- a way with one ride more is a way -/
theorem wayOf_ok {ws : List Nat} {n i j : Nat} (hw : wsOk ws n) (hl : ws.length ≤ 32) (hij : i < j) (hj : j ≤ ws.length + 1) : wsOk (wayOf ws n i j) (n + 1) := by
  obtain ⟨-, hv, hd, ho⟩ := hw
  have hlen := wayOf_len (n := n) (i := i) (j := j) (ws := ws) (by omega) hj
  have hg : ∀ k, gN (wayOf ws n i j) k = _ := fun k => gN_wayOf (n := n) (i := i) (j := j) (k := k) (ws := ws) (by omega) hj
  -- where a visit of the way comes from
  have hsrc : ∀ k, k < ws.length + 2 → (k = i ∧ gN (wayOf ws n i j) k = 2 * n) ∨ (k = j ∧ gN (wayOf ws n i j) k = 2 * n + 1) ∨ (k ≠ i ∧ k ≠ j ∧ ∃ q, q < ws.length ∧ gN (wayOf ws n i j) k = gN ws q ∧ q + (if i < k then 1 else 0) + (if j < k then 1 else 0) = k) := by
    intro k hk
    rw [hg]
    by_cases c1 : k < j
    · rw [if_pos c1]
      by_cases c2 : k < i
      · rw [if_pos c2]
        refine Or.inr (Or.inr ⟨by omega, by omega, k, by omega, rfl, ?_⟩)
        rw [if_neg (by omega), if_neg (by omega)]
        omega
      · rw [if_neg c2]
        by_cases c3 : k = i
        · rw [if_pos c3]
          exact Or.inl ⟨c3, rfl⟩
        · rw [if_neg c3]
          refine Or.inr (Or.inr ⟨c3, by omega, k - 1, by omega, rfl, ?_⟩)
          rw [if_pos (by omega), if_neg (by omega)]
          omega
    · rw [if_neg c1]
      by_cases c2 : k = j
      · rw [if_pos c2]
        exact Or.inr (Or.inl ⟨c2, rfl⟩)
      · rw [if_neg c2, if_neg (by omega), if_neg (by omega)]
        refine Or.inr (Or.inr ⟨by omega, c2, k - 2, by omega, rfl, ?_⟩)
        rw [if_pos (by omega), if_pos (by omega)]
        omega
  refine ⟨by omega, ?_, ?_, ?_⟩
  · intro k hk
    rw [hlen] at hk
    rcases hsrc k hk with ⟨-, e⟩ | ⟨-, e⟩ | ⟨-, -, q, hq, e, -⟩
    · omega
    · omega
    · have := hv q hq
      omega
  · intro p q hpq hq
    rw [hlen] at hq
    rcases hsrc p (by omega) with ⟨e0, e⟩ | ⟨e0, e⟩ | ⟨a0, a1, x, hx, e, e0⟩ <;> rcases hsrc q hq with ⟨f0, f⟩ | ⟨f0, f⟩ | ⟨b0, b1, y, hy, f, f0⟩ <;> rw [e, f]
    · omega
    · omega
    · have := hv y hy; omega
    · omega
    · omega
    · have := hv y hy; omega
    · have := hv x hx; omega
    · have := hv x hx; omega
    · exact hd x y (by split at e0 <;> split at e0 <;> split at f0 <;> split at f0 <;> omega) hy
  · intro p q hpq hq
    rw [hlen] at hq
    rcases hsrc p (by omega) with ⟨e0, e⟩ | ⟨e0, e⟩ | ⟨a0, a1, x, hx, e, e0⟩ <;> rcases hsrc q hq with ⟨f0, f⟩ | ⟨f0, f⟩ | ⟨b0, b1, y, hy, f, f0⟩ <;> rw [e, f]
    · omega
    · omega
    · have := hv y hy; omega
    · omega
    · omega
    · have := hv y hy; omega
    · have := hv x hx; omega
    · have := hv x hx; omega
    · exact ho x y (by split at e0 <;> split at e0 <;> split at f0 <;> split at f0 <;> omega) hy
