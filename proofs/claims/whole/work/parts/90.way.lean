/-! ===== a ride is put into a way ===== -/
def insA (l : List Nat) (i v : Nat) : List Nat := l.take i ++ v :: l.drop i
theorem insA_len {l : List Nat} {i v : Nat} (h : i ≤ l.length) : (insA l i v).length = l.length + 1 := by
  unfold insA
  simp
  omega
theorem gN_out {l : List Nat} {k : Nat} (h : l.length ≤ k) : gN l k = 0 := by
  unfold gN
  rw [List.getD_eq_getElem?_getD, List.getElem?_eq_none h]
  rfl
theorem gN_insA {l : List Nat} {i v k : Nat} (h : i ≤ l.length) : gN (insA l i v) k = if k < i then gN l k else if k = i then v else gN l (k - 1) := by
  unfold gN insA
  rw [List.getD_eq_getElem?_getD]
  have hlen : (l.take i).length = i := by simp; omega
  by_cases c : k < i
  · rw [if_pos c, List.getElem?_append_left (by omega), List.getElem?_take_of_lt c, List.getD_eq_getElem?_getD]
  · rw [if_neg c, List.getElem?_append_right (by omega), hlen]
    by_cases c2 : k = i
    · rw [if_pos c2, c2, Nat.sub_self]
      rfl
    · rw [if_neg c2, show k - i = (k - 1 - i) + 1 by omega, List.getElem?_cons_succ, List.getElem?_drop, List.getD_eq_getElem?_getD, show i + (k - 1 - i) = k - 1 by omega]
theorem mem_insA {l : List Nat} {i v x : Nat} : x ∈ insA l i v ↔ x = v ∨ x ∈ l := by
  unfold insA
  rw [List.mem_append, List.mem_cons]
  constructor
  · rintro (h | h | h)
    · exact Or.inr (List.mem_of_mem_take h)
    · exact Or.inl h
    · exact Or.inr (List.mem_of_mem_drop h)
  · rintro (h | h)
    · exact Or.inr (Or.inl h)
    · rw [← List.take_append_drop i l, List.mem_append] at h
      exact h.elim Or.inl (fun z => Or.inr (Or.inr z))
theorem insA_map {l : List Nat} {i v : Nat} : (insA l i v).map nI = (l.map nI).take i ++ nI v :: (l.map nI).drop i := by
  unfold insA
  rw [List.map_append, List.map_cons, List.map_take, List.map_drop]
/-- the way with both visits of ride n -/
def wayOf (ws : List Nat) (n i j : Nat) : List Nat := insA (insA ws i (2 * n)) j (2 * n + 1)
theorem wayOf_len {ws : List Nat} {n i j : Nat} (hi : i ≤ ws.length) (hj : j ≤ ws.length + 1) : (wayOf ws n i j).length = ws.length + 2 := by
  unfold wayOf
  rw [insA_len (by rw [insA_len hi]; exact hj), insA_len hi]
theorem gN_wayOf {ws : List Nat} {n i j k : Nat} (hi : i ≤ ws.length) (hj : j ≤ ws.length + 1) : gN (wayOf ws n i j) k = if k < j then (if k < i then gN ws k else if k = i then 2 * n else gN ws (k - 1)) else if k = j then 2 * n + 1 else (if k - 1 < i then gN ws (k - 1) else if k - 1 = i then 2 * n else gN ws (k - 2)) := by
  unfold wayOf
  rw [gN_insA (by rw [insA_len hi]; exact hj), gN_insA hi, gN_insA hi]
  rfl
theorem lay_eq {sv sd : RV} {ws : List Nat} {n i j : Nat} (hn : n < 17) (hl : ws.length ≤ 32) (hi : i ≤ ws.length) (hj : j ≤ ws.length + 1) : f_X4_lay sv sd (ws.map nI) (nI n) (nI i) (nI j) = rvR sd 11 ((wayOf ws n i j).map nI) := by
  unfold f_X4_lay
  dsimp only [yl]
  rw [rvR_eq, rvR_rvR, rvR_eq, rvR_rvR]
  have e0 : rCopy 34 (ws.map nI) = ws.map nI := List.take_of_length_le (by rw [List.length_map]; omega)
  have e1 : rIns 34 (ws.map nI) (nI i) (f_X6_pickUp (nI n)) = (insA ws i (2 * n)).map nI := by
    unfold rIns
    rw [nI_clamp (by omega), List.length_map, if_neg (by rintro (h | h | h); exact nI_pos (by omega) h; omega; omega), insA_map]
    unfold f_X6_pickUp
    rw [ix2]
  have e2 : rIns 34 ((insA ws i (2 * n)).map nI) (nI j) (f_X6_setDown (nI n)) = (wayOf ws n i j).map nI := by
    unfold rIns wayOf
    rw [nI_clamp (by omega), List.length_map, insA_len hi, if_neg (by rintro (h | h | h); exact nI_pos (by omega) h; omega; omega), insA_map (l := insA ws i (2 * n))]
    unfold f_X6_setDown
    rw [ix2, nI_1]
  rw [e0, e1, e2]
/-- a way with one ride more is a way -/
theorem wayOf_ok {ws : List Nat} {n i j : Nat} (hw : wsOk ws n) (hl : ws.length ≤ 32) (hij : i < j) (hj : j ≤ ws.length + 1) : wsOk (wayOf ws n i j) (n + 1) := by
  obtain ⟨-, hv, hd, ho⟩ := hw
  have hlen := wayOf_len (n := n) (i := i) (j := j) (ws := ws) (by omega) hj
  have hg : ∀ k, gN (wayOf ws n i j) k = _ := fun k => gN_wayOf (n := n) (i := i) (j := j) (k := k) (ws := ws) (by omega) hj
  -- where a visit of the way comes from
  have hsrc : ∀ k, k < ws.length + 2 → (k = i ∧ gN (wayOf ws n i j) k = 2 * n) ∨ (k = j ∧ gN (wayOf ws n i j) k = 2 * n + 1) ∨ (k ≠ i ∧ k ≠ j ∧ ∃ q, q < ws.length ∧ gN (wayOf ws n i j) k = gN ws q ∧ q + (if i < k then 1 else 0) + (if j < k then 1 else 0) = k) := by
    intro k hk
    rw [hg]
    by_cases c1 : k < j
    · rw [if_pos c1]
      by_cases c2 : k < i
      · rw [if_pos c2]
        refine Or.inr (Or.inr ⟨by omega, by omega, k, by omega, rfl, ?_⟩)
        rw [if_neg (by omega), if_neg (by omega)]
        omega
      · rw [if_neg c2]
        by_cases c3 : k = i
        · rw [if_pos c3]
          exact Or.inl ⟨c3, rfl⟩
        · rw [if_neg c3]
          refine Or.inr (Or.inr ⟨c3, by omega, k - 1, by omega, rfl, ?_⟩)
          rw [if_pos (by omega), if_neg (by omega)]
          omega
    · rw [if_neg c1]
      by_cases c2 : k = j
      · rw [if_pos c2]
        exact Or.inr (Or.inl ⟨c2, rfl⟩)
      · rw [if_neg c2, if_neg (by omega), if_neg (by omega)]
        refine Or.inr (Or.inr ⟨by omega, c2, k - 2, by omega, rfl, ?_⟩)
        rw [if_pos (by omega), if_pos (by omega)]
        omega
  refine ⟨by omega, ?_, ?_, ?_⟩
  · intro k hk
    rw [hlen] at hk
    rcases hsrc k hk with ⟨-, e⟩ | ⟨-, e⟩ | ⟨-, -, q, hq, e, -⟩
    · omega
    · omega
    · have := hv q hq
      omega
  · intro p q hpq hq
    rw [hlen] at hq
    rcases hsrc p (by omega) with ⟨e0, e⟩ | ⟨e0, e⟩ | ⟨a0, a1, x, hx, e, e0⟩ <;> rcases hsrc q hq with ⟨f0, f⟩ | ⟨f0, f⟩ | ⟨b0, b1, y, hy, f, f0⟩ <;> rw [e, f]
    · omega
    · omega
    · have := hv y hy; omega
    · omega
    · omega
    · have := hv y hy; omega
    · have := hv x hx; omega
    · have := hv x hx; omega
    · exact hd x y (by split at e0 <;> split at e0 <;> split at f0 <;> split at f0 <;> omega) hy
  · intro p q hpq hq
    rw [hlen] at hq
    rcases hsrc p (by omega) with ⟨e0, e⟩ | ⟨e0, e⟩ | ⟨a0, a1, x, hx, e, e0⟩ <;> rcases hsrc q hq with ⟨f0, f⟩ | ⟨f0, f⟩ | ⟨b0, b1, y, hy, f, f0⟩ <;> rw [e, f]
    · omega
    · omega
    · have := hv y hy; omega
    · omega
    · omega
    · have := hv y hy; omega
    · have := hv x hx; omega
    · have := hv x hx; omega
    · exact ho x y (by split at e0 <;> split at e0 <;> split at f0 <;> split at f0 <;> omega) hy
theorem mem_wayOf {ws : List Nat} {n i j x : Nat} : x ∈ wayOf ws n i j ↔ x = 2 * n + 1 ∨ x = 2 * n ∨ x ∈ ws := by
  unfold wayOf
  rw [mem_insA, mem_insA]
/-- the reference lays it -/
theorem q_laysWay {m : MV} {ws : List Nat} {n : Nat} {K : MV → Prop} (i j : Nat) {ri pk se : Int32} (hn : n < 17) (hri : ri = nI n) (hpk : pk = nI i) (hse : se = nI j) (hl : ws.length ≤ 32) (hij : i < j) (hj : j ≤ ws.length + 1) (h5 : m.2 1 5 = nI ws.length) (hr : ∀ k, k < ws.length → m.2 1 (152 + k) = nI (gN ws k)) (hK : ∀ m', scr m m' → wayR m' (wayOf ws n i j) → K m') : PO_X7_laysWay ri pk se K m := by
  subst hri hpk hse
  have hlen := wayOf_len (n := n) (i := i) (j := j) (ws := ws) (by omega) hj
  have hg : ∀ k, gN (wayOf ws n i j) k = _ := fun k => gN_wayOf (n := n) (i := i) (j := j) (k := k) (ws := ws) (by omega) hj
  refine ⟨fun w m' x4 x5 => ∃ k, k ≤ ws.length + 2 ∧ x5 = nI k ∧ x4 = nI (k - (if i < k then 1 else 0) - (if j < k then 1 else 0)) ∧ w = ws.length + 2 - k ∧ scr m m' ∧ m'.1 10 = nI k ∧ ∀ q, q < k → m'.2 9 q = nI (gN (wayOf ws n i j) q), ?_, ?_⟩
  · rintro w m' x4 x5 ⟨k, hk, rfl, rfl, rfl, hs, h10, h9⟩
    unfold wp_X7_laysWay_11
    rw [scr_s hs]
    refine ⟨vp_in_nI (n := 5) (by omega) (by omega), ?_⟩
    rw [show m.2 1 (5 : Int32).toNatClampNeg = nI ws.length from h5, show nI ws.length + 2 = nI (ws.length + 2) from nI_add _ 2]
    by_cases c : ws.length + 2 ≤ k
    · rw [if_pos ((nI_leI (by omega) (by omega)).mpr c)]
      refine hK m' hs ⟨?_, by omega, fun q hq => h9 q (by omega)⟩
      rw [h10, hlen, show k = ws.length + 2 by omega]
    · rw [if_neg (fun z => c ((nI_leI (by omega) (by omega)).mp z))]
      -- what each turn ends with
      have fin : ∀ (x : Int32) (y : Nat), x = nI (gN (wayOf ws n i j) k) → y = k + 1 - (if i < k + 1 then 1 else 0) - (if j < k + 1 then 1 else 0) → wp_X7_laysWay_82 (nI n) (nI i) (nI j) (fun m9 x49 x59 => ∃ w9, w9 < ws.length + 2 - k ∧ ∃ k, k ≤ ws.length + 2 ∧ x59 = nI k ∧ x49 = nI (k - (if i < k then 1 else 0) - (if j < k then 1 else 0)) ∧ w9 = ws.length + 2 - k ∧ scr m m9 ∧ m9.1 10 = nI k ∧ ∀ q, q < k → m9.2 9 q = nI (gN (wayOf ws n i j) q)) K (mA m' 9 k x) (nI y) (nI k) := by
        intro x y hx hy
        unfold wp_X7_laysWay_82
        dsimp only [yl]
        refine ⟨_, by omega, k + 1, by omega, nI_1 k, by rw [hy], rfl, scr_I (scr_A hs (by omega)) (by omega), ?_, fun q hq => ?_⟩
        · rw [mI_at]
          show m'.1 10 + 1 = _
          rw [h10, nI_1]
        · show (mA m' 9 k x).2 9 q = _
          rw [mA_at]
          by_cases e : q = k
          · rw [e, upd_at, hx]
          · rw [upd_ne e]
            exact h9 q (by omega)
      have hin : vp_in (nI k) 36 := vp_in_nI (by omega) (by omega)
      have hgk := hg k
      have hboth : (k = i ∨ k = j) → wp_X7_laysWay_36 (nI n) (nI i) (nI j) (fun m9 x49 x59 => ∃ w9, w9 < ws.length + 2 - k ∧ ∃ k, k ≤ ws.length + 2 ∧ x59 = nI k ∧ x49 = nI (k - (if i < k then 1 else 0) - (if j < k then 1 else 0)) ∧ w9 = ws.length + 2 - k ∧ scr m m9 ∧ m9.1 10 = nI k ∧ ∀ q, q < k → m9.2 9 q = nI (gN (wayOf ws n i j) q)) K m' (nI (k - (if i < k then 1 else 0) - (if j < k then 1 else 0))) (nI k) := by
        intro hk2
        unfold wp_X7_laysWay_36
        rw [nI_clamp (by omega), ix2]
        by_cases c2 : k = j
        · rw [if_pos (show nI k = nI j by rw [c2])]
          refine ⟨hin, ?_⟩
          dsimp only [yl]
          unfold wp_X7_laysWay_58
          refine fin _ _ ?_ ?_
          · rw [hgk, if_neg (by omega), if_pos c2, nI_1]
          · rw [if_pos (by omega), if_neg (by omega), if_pos (by omega), if_pos (by omega)]
            omega
        · rw [if_neg (fun z => c2 ((nI_eq (by omega) (by omega)).mp z))]
          refine ⟨hin, ?_⟩
          dsimp only [yl]
          unfold wp_X7_laysWay_58
          refine fin _ _ ?_ ?_
          · rw [hgk, if_pos (by omega), if_neg (by omega), if_pos (by omega), Int32.add_zero]
          · rw [if_neg (by omega), if_neg (by omega), if_pos (by omega), if_neg (by omega)]
            omega
      by_cases c1 : k = i
      · rw [if_pos (by rw [c1])]
        exact hboth (Or.inl c1)
      · rw [if_neg (fun z => c1 ((nI_eq (by omega) (by omega)).mp z))]
        by_cases c2 : k = j
        · rw [if_pos (by rw [c2])]
          exact hboth (Or.inr c2)
        · rw [if_neg (fun z => c2 ((nI_eq (by omega) (by omega)).mp z))]
          obtain ⟨nx, hnx⟩ : ∃ nx, nx = k - (if i < k then 1 else 0) - (if j < k then 1 else 0) := ⟨_, rfl⟩
          rw [← hnx]
          have hnl : nx < ws.length := by
            rw [hnx]
            split <;> split <;> omega
          have hgn : gN (wayOf ws n i j) k = gN ws nx := by
            rw [hgk, hnx]
            by_cases d1 : k < j
            · rw [if_pos d1, if_neg (c := j < k) (by omega)]
              by_cases d2 : k < i
              · rw [if_pos d2, if_neg (by omega)]
                rfl
              · rw [if_neg d2, if_neg c1, if_pos (by omega)]
                rfl
            · rw [if_neg d1, if_neg c2, if_neg (by omega), if_neg (by omega), if_pos (by omega), if_pos (by omega)]
              rfl
          rw [show (152 : Int32) + nI nx = nI (152 + nx) by rw [show (152 : Int32) = nI 152 from rfl, nI_add], nI_clamp (by omega), nI_clamp (by omega), hr nx hnl, nI_1]
          refine ⟨vp_in_nI (by omega) (by omega), hin, ?_⟩
          dsimp only [yl]
          refine fin _ _ (by rw [hgn]) ?_
          rw [hnx]
          split <;> split <;> split <;> split <;> omega
  · unfold wp_X7_laysWay_0
    dsimp only [yl]
    exact ⟨_, 0, by omega, rfl, by rw [if_neg (by omega), if_neg (by omega)]; rfl, rfl, scr_I (scr_refl m) (by omega), mI_at _ _ _, fun q hq => absurd hq (Nat.not_lt_zero q)⟩
