/-! ===== how many visits there are ===== -/
theorem cnt_range (xs : List Int32) (how : Int32) : cntOf xs how = ((List.range xs.length).filter (fun r => decide (gA xs r = how))).length := by
  have e : xs = (List.range xs.length).map (gA xs) := by
    apply List.ext_getElem
    · simp
    · intro i h1 h2
      rw [List.getElem_map, List.getElem_range]
      unfold gA
      rw [List.getD_eq_getElem?_getD, List.getElem?_eq_getElem h1]
      rfl
  have e2 : cntOf xs how = cntOf ((List.range xs.length).map (gA xs)) how := by rw [← e]
  rw [e2, ← List.countP_eq_length_filter]
  unfold cntOf
  rw [List.countP_map]
  rfl
theorem len_eq {l1 l2 : List Nat} {f : Nat → Nat} (h1 : l1.Nodup) (h2 : l2.Nodup) (hf : ∀ a b, f a = f b → a = b) (h3 : ∀ v, v ∈ l1 → ∃ r, r ∈ l2 ∧ f r = v) (h4 : ∀ r, r ∈ l2 → f r ∈ l1) : l1.length = l2.length := by
  have hm : (l2.map f).Nodup := by
    rw [List.nodup_iff_pairwise_ne, List.pairwise_map]
    exact (List.nodup_iff_pairwise_ne.mp h2).imp (fun hne e => hne (hf _ _ e))
  have a := List.Nodup.length_le_of_subset h1 (l₂ := l2.map f) (fun v hv => by
    obtain ⟨r, hr, e⟩ := h3 v hv
    exact List.mem_map.mpr ⟨r, hr, e⟩)
  have b := List.Nodup.length_le_of_subset hm (l₂ := l1) (fun v hv => by
    obtain ⟨r, hr, e⟩ := List.mem_map.mp hv
    rw [← e]
    exact h4 r hr)
  rw [List.length_map] at a b
  omega
def evN (ws : List Nat) : Nat := (ws.filter (fun v => decide (v % 2 = 0))).length
def odN (ws : List Nat) : Nat := (ws.filter (fun v => decide (v % 2 = 1))).length
theorem evod (ws : List Nat) : evN ws + odN ws = ws.length := by
  unfold evN odN
  induction ws with
  | nil => rfl
  | cons v l ih =>
    rw [List.filter_cons, List.filter_cons]
    by_cases c : v % 2 = 0
    · rw [if_pos (by simpa using c), if_neg (by simp; omega), List.length_cons, List.length_cons]
      omega
    · rw [if_neg (by simpa using c), if_pos (by simp; omega), List.length_cons, List.length_cons]
      omega
theorem ws_nodup {ws : List Nat} {n : Nat} (hw : wsOk ws n) : ws.Nodup := by
  rw [List.nodup_iff_pairwise_ne]
  exact (wsOk_iff.mp hw).2.2.imp (fun h => h.1)
theorem evN_eq {d : RV} {n : Nat} {ws : List Nat} (hd : dayOk d n ws) : evN ws = cntOf (d.1 8) 0 := by
  have hw := hd.2.2.2.2.2.1.2.1
  have hm := hd.2.2.2.2.2.1.2.2.2
  have hv := (wsOk_iff.mp hw).2.1
  rw [cnt_range, dayOk_l8 hd]
  unfold evN
  refine len_eq (f := fun r => 2 * r) (List.Nodup.sublist List.filter_sublist (ws_nodup hw)) (List.Nodup.sublist List.filter_sublist List.nodup_range) (fun a b h => by have h' : 2 * a = 2 * b := h; omega) ?_ ?_
  · intro v h
    obtain ⟨h1, h2⟩ := List.mem_filter.mp h
    have h3 : v % 2 = 0 := by simpa using h2
    have h4 := hv v h1
    refine ⟨v / 2, List.mem_filter.mpr ⟨List.mem_range.mpr (by omega), ?_⟩, show 2 * (v / 2) = v by omega⟩
    have h5 := (hm (v / 2) (by omega)).1.mp (by rw [show 2 * (v / 2) = v by omega]; exact h1)
    simpa using h5
  · intro r h
    obtain ⟨h1, h2⟩ := List.mem_filter.mp h
    have h3 : gA (d.1 8) r = 0 := by simpa using h2
    exact List.mem_filter.mpr ⟨(hm r (List.mem_range.mp h1)).1.mpr h3, by simp⟩
theorem odN_eq {d : RV} {n : Nat} {ws : List Nat} (hd : dayOk d n ws) : odN ws = cntOf (d.1 8) 0 + cntOf (d.1 8) 1 := by
  have hw := hd.2.2.2.2.2.1.2.1
  have hm := hd.2.2.2.2.2.1.2.2.2
  have hv := (wsOk_iff.mp hw).2.1
  have hs : cntOf (d.1 8) 0 + cntOf (d.1 8) 1 = ((List.range n).filter (fun r => decide (gA (d.1 8) r = 0 ∨ gA (d.1 8) r = 1))).length := by
    rw [cnt_range, cnt_range, dayOk_l8 hd]
    induction List.range n with
    | nil => rfl
    | cons r l ih =>
      rw [List.filter_cons, List.filter_cons, List.filter_cons]
      by_cases c0 : gA (d.1 8) r = 0
      · have c1 : ¬ gA (d.1 8) r = 1 := by rw [c0]; decide
        rw [if_pos (by simpa using c0), if_neg (by simpa using c1), if_pos (by simpa using Or.inl c0), List.length_cons, List.length_cons]
        omega
      · by_cases c1 : gA (d.1 8) r = 1
        · rw [if_neg (by simpa using c0), if_pos (by simpa using c1), if_pos (by simpa using Or.inr c1), List.length_cons, List.length_cons]
          omega
        · rw [if_neg (by simpa using c0), if_neg (by simpa using c1), if_neg (by simpa using ⟨c0, c1⟩)]
          exact ih
  rw [hs]
  unfold odN
  refine len_eq (f := fun r => 2 * r + 1) (List.Nodup.sublist List.filter_sublist (ws_nodup hw)) (List.Nodup.sublist List.filter_sublist List.nodup_range) (fun a b h => by have h' : 2 * a + 1 = 2 * b + 1 := h; omega) ?_ ?_
  · intro v h
    obtain ⟨h1, h2⟩ := List.mem_filter.mp h
    have h3 : v % 2 = 1 := by simpa using h2
    have h4 := hv v h1
    refine ⟨v / 2, List.mem_filter.mpr ⟨List.mem_range.mpr (by omega), ?_⟩, show 2 * (v / 2) + 1 = v by omega⟩
    have h5 := (hm (v / 2) (by omega)).2.mp (by rw [show 2 * (v / 2) + 1 = v by omega]; exact h1)
    simpa using h5
  · intro r h
    obtain ⟨h1, h2⟩ := List.mem_filter.mp h
    have h3 : gA (d.1 8) r = 0 ∨ gA (d.1 8) r = 1 := by simpa using h2
    exact List.mem_filter.mpr ⟨(hm r (List.mem_range.mp h1)).2.mpr h3, by simp⟩
/-- who is aboard behind k visits -/
def aK (d : RV) (ws : List Nat) (k : Nat) : Int := ((TK d ws k).2 2).toInt
theorem aK_next {d : RV} {n k : Nat} {ws : List Nat} (hd : dayOk d n ws) (hk : k < ws.length) : aK d ws (k + 1) = if gN ws k % 2 = 0 then aK d ws k + 1 else aK d ws k - 1 := by
  have hw := hd.2.2.2.2.2.1.2.1
  have hn := hd.1
  have hwl := hw.1
  obtain ⟨-, -, s2, -⟩ := TK_step (d := d) (by omega) hw hk
  obtain ⟨-, -, -, -, -, -, -, -, fe, -⟩ := dayTF hd k (by omega)
  unfold aK
  rw [s2]
  unfold sAb
  by_cases ev : gN ws k % 2 = 0
  · rw [if_pos ev, if_pos ev, (bd_add (y := 1) (c := 1) (e := 1) fe ⟨by rw [t32_1]; omega, by rw [t32_1]; omega⟩ (by omega) (by omega)).2, t32_1]
  · rw [if_neg ev, if_neg ev, (bd_add (y := -1) (c := -1) (e := -1) fe ⟨by rw [t32_m1]; omega, by rw [t32_m1]; omega⟩ (by omega) (by omega)).2, t32_m1]
    omega
theorem aK_all {d : RV} {n : Nat} {ws : List Nat} (hd : dayOk d n ws) : ∀ m k, k + m = ws.length → aK d ws ws.length = aK d ws k + evN (ws.drop k) - odN (ws.drop k) := by
  intro m
  induction m with
  | zero =>
    intro k hk
    rw [List.drop_of_length_le (by omega), show k = ws.length by omega]
    show _ = _ + (0 : Nat) - ((0 : Nat) : Int)
    omega
  | succ m ih =>
    intro k hk
    rw [ih (k + 1) (by omega), aK_next hd (by omega), drop_cons (k := k) (by omega)]
    unfold evN odN
    rw [List.filter_cons, List.filter_cons]
    by_cases c : gN ws k % 2 = 0
    · rw [if_pos c, if_pos (by simpa using c), if_neg (by simp; omega), List.length_cons]
      omega
    · rw [if_neg c, if_neg (by simpa using c), if_pos (by simp; omega), List.length_cons]
      omega
theorem aK_0 {d : RV} {ws : List Nat} (hl : (d.1 8).length < 1000) : aK d ws 0 = (cntOf (d.1 8) 1 : Int) := by
  have h1 : cntOf (d.1 8) 1 ≤ (d.1 8).length := List.countP_le_length
  show (nStand (d.1 8) 1).toInt = _
  unfold nStand
  rw [nI_toInt (by omega)]
theorem aK_end {d : RV} {n : Nat} {ws : List Nat} (hd : dayOk d n ws) : (TK d ws ws.length).2 2 = 0 := by
  have h1 := aK_all hd ws.length 0 (by omega)
  have hn := hd.1
  rw [List.drop_zero, evN_eq hd, odN_eq hd, aK_0 (by rw [dayOk_l8 hd]; omega)] at h1
  rw [fa_eq, t32_0]
  unfold aK at h1
  omega
/-- never more aboard than seats -/
theorem ld_all {d : RV} {n : Nat} {ws : List Nat} (hd : dayOk d n ws) : ∀ k, k ≤ ws.length → ldOk (gA (d.1 0) 0).toInt (aK d ws k) (ws.drop k) := by
  intro k
  induction k with
  | zero => exact fun _ => hd.2.2.2.2.2.2
  | succ k ih =>
    intro hk
    have h := ih (by omega)
    rw [drop_cons (k := k) (by omega)] at h
    rw [aK_next hd (by omega)]
    exact h.2
theorem load_le {d : RV} {n k : Nat} {ws : List Nat} (hd : dayOk d n ws) (hk : k ≤ ws.length) : aK d ws k ≤ (gA (d.1 0) 0).toInt := ldOk_head (ld_all hd k hk)
