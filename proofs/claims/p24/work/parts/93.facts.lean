/-! ===== the route as it is driven ===== -/
theorem run_dom {d : RV} {n k : Nat} {ws : List Nat} (hd : dayOk d n ws) : ∀ m, k + m ≤ ws.length → domP d (pK d ws k) (fK d ws k) (pK d ws (k + m)) (fK d ws (k + m)) := by
  intro m
  have hn := hd.1
  have hw := hd.2.2.2.2.2.1.2.1
  have hb := hd.2.2.1
  induction m with
  | zero => exact fun _ => domP_rf d _ _
  | succ m ih =>
    intro hm
    obtain ⟨e1, e2⟩ := next_K (k := k + m) (by omega) hw hb (dayTF hd (k + m) (by omega)) (by omega)
    rw [← Nat.add_assoc, e1, e2]
    exact domP_skip hb.2.1 (S3_ge hb) _ (ih (by omega))
theorem fK_mono {d : RV} {n k : Nat} {ws : List Nat} (hd : dayOk d n ws) (hk : k < ws.length) : tK d ws k ≤ fK d ws (k + 1) := by
  have hn := hd.1
  have hw := hd.2.2.2.2.2.1.2.1
  obtain ⟨-, e2⟩ := next_K (by omega) hw hd.2.2.1 (dayTF hd k (by omega)) hk
  have := S3_ge hd.2.2.1
  omega
theorem now_le {d : RV} {n : Nat} {ws : List Nat} (h : invP d n ws) : ∀ k, k < ws.length → (d.2 0).toInt ≤ tK d ws k := by
  have hd := h.1.1
  intro k
  induction k with
  | zero =>
    intro hk
    have h1 := h.2
    have hc := drop_cons (ws := ws) (k := 0) hk
    rw [List.drop_zero] at hc
    rw [hc] at h1
    exact h1
  | succ k ih =>
    intro hk
    have h1 := ih (by omega)
    have h2 := fK_mono hd (k := k) (by omega)
    have h3 := tK_ge (ws := ws) (k := k + 1) hd.2.2.1
    omega
/-- where a visit stands -/
theorem place_of {d : RV} {n v : Nat} {ws : List Nat} (hd : dayOk d n ws) (hv : v ∈ ws) : ∃ k, k < ws.length ∧ gN ws k = v := mem_gN hv
theorem tabP_at {d : RV} {n r : Nat} {ws : List Nat} (hd : dayOk d n ws) (hr : r < n) : ((¬ 2 * r ∈ ws) → gA ((TK d ws ws.length).1 3) r = gA (d.1 9) r) ∧ ((¬ 2 * r + 1 ∈ ws) → gA ((TK d ws ws.length).1 4) r = gA (d.1 10) r) ∧ (∀ k, k < ws.length → gN ws k = 2 * r → (gA ((TK d ws ws.length).1 3) r).toInt = tK d ws k ∧ gA ((TK d ws ws.length).1 3) r = sTime d (TK d ws k) (2 * r)) ∧ (∀ k, k < ws.length → gN ws k = 2 * r + 1 → (gA ((TK d ws ws.length).1 4) r).toInt = tK d ws k ∧ gA ((TK d ws ws.length).1 4) r = sTime d (TK d ws k) (2 * r + 1)) := by
  have hwl := hd.2.2.2.2.2.1.2.1.1
  obtain ⟨-, -, -, -, -, -, -, -, -, ff1, ff2, fg1, fg2⟩ := dayTF hd ws.length (Nat.le_refl _)
  refine ⟨fun h => ff1 r hr (fun p hp e => h (by rw [← e]; exact gN_mem hp)), fun h => fg1 r hr (fun p hp e => h (by rw [← e]; exact gN_mem hp)), fun k hk e => ?_, fun k hk e => ?_⟩
  · have h1 := ff2 r k hk e
    refine ⟨?_, h1⟩
    rw [h1, ← e]
    exact time_K hd.2.2.1 (dayTF hd k (by omega)) (by omega)
  · have h1 := fg2 r k hk e
    refine ⟨?_, h1⟩
    rw [h1, ← e]
    exact time_K hd.2.2.1 (dayTF hd k (by omega)) (by omega)
/-- what holds asks of a ride -/
theorem hold_ride {d : RV} {n r : Nat} {ws : List Nat} (h : invP d n ws) (hr : r < n) :
    ((gA (d.1 8) r = 0 ∨ gA (d.1 8) r = 1 ∨ gA (d.1 8) r = 2) ∧ wtI d r ≤ (gA ((TK d ws ws.length).1 3) r).toInt ∧ (gA ((TK d ws ws.length).1 3) r).toInt + skI d r ≤ (gA ((TK d ws ws.length).1 4) r).toInt ∧ (gA (d.1 8) r = 0 ∨ gA (d.1 8) r = 1 → (gA ((TK d ws ws.length).1 4) r).toInt ≤ byI d r)) ∨
    (gA (d.1 8) r = 3 ∧ gA ((TK d ws ws.length).1 4) r = -6 ∧ gA ((TK d ws ws.length).1 3) r = -6) ∨ (gA (d.1 8) r = 4 ∧ gA ((TK d ws ws.length).1 4) r = -6 ∧ 0 ≤ (gA ((TK d ws ws.length).1 3) r).toInt) := by
  obtain ⟨⟨hd, hlt, hrf, hst⟩, hft⟩ := h
  have hn := hd.1
  have hw := hd.2.2.2.2.2.1.2.1
  have hm := hd.2.2.2.2.2.1.2.2.2
  have hb := hd.2.2.1
  have hwl := hw.1
  obtain ⟨t1, t2, t3, t4⟩ := tabP_at hd hr
  obtain ⟨m1, m2⟩ := hm r hr
  have h0 := hrf r hr
  unfold rideF at h0
  obtain ⟨i, j, hi, hj, g3, g4, g7, -⟩ := hb.2.2.2.1 r hr
  rcases h0 with h0 | h0 | h0 | h0 | h0
  · -- booked
    obtain ⟨p, hp, ep⟩ := mem_gN (m1.mpr h0.1)
    obtain ⟨q, hq, eq⟩ := mem_gN (m2.mpr (Or.inl h0.1))
    have hpq : p < q := by
      rcases Nat.lt_trichotomy p q with c | c | c
      · exact c
      · subst c; omega
      · exact absurd ⟨by rw [ep]; omega, by rw [ep, eq]⟩ (hw.2.2.2 q p c hp)
    obtain ⟨a1, -⟩ := t3 p hp ep
    obtain ⟨a2, -⟩ := t4 q hq eq
    refine Or.inl ⟨Or.inl h0.1, ?_, ?_, fun _ => ?_⟩
    · rw [a1]
      unfold tK
      have := tmI_wt (d := d) (p := pK d ws p) (f := fK d ws p) (v := gN ws p) (by omega)
      rw [ep, show 2 * r / 2 = r by omega] at this
      rw [ep]
      exact this
    · rw [a1, a2]
      obtain ⟨e1, e2⟩ := next_K (by omega) hw hb (dayTF hd p (by omega)) hp
      have hdm := run_dom hd (k := p + 1) (q - (p + 1)) (by omega) (sSt d (gN ws q))
      rw [show p + 1 + (q - (p + 1)) = q by omega, e1, e2] at hdm
      have htq : tK d ws q = fK d ws q + dI d (pK d ws q) (sSt d (gN ws q)) := tmI_down (by omega)
      have hs1 : sSt d (gN ws p) = nI i := by
        unfold sSt
        rw [ep, stopOf_eq (by omega), if_pos (by omega), show 2 * r / 2 = r by omega, g3]
      have hs2 : sSt d (gN ws q) = nI j := by
        unfold sSt
        rw [eq, stopOf_eq (by omega), if_neg (by omega), show (2 * r + 1) / 2 = r by omega, g4]
      have hsk : skI d r = dI d (nI i) (nI j) := by
        unfold skI dI
        rw [g7]
      have hS := S3_ge hb
      rw [hs1, hs2] at hdm
      rw [htq, hs2, hsk]
      omega
    · rw [a2]
      have := late_at (by omega) hw hb (dayTF hd) hlt hq (by omega)
      rw [eq, show (2 * r + 1) / 2 = r by omega] at this
      exact this
  · -- aboard
    have hnp : ¬ 2 * r ∈ ws := fun z => by
      have := m1.mp z
      rw [h0.1] at this
      exact absurd this (by decide)
    obtain ⟨q, hq, eq⟩ := mem_gN (m2.mpr (Or.inr h0.1))
    obtain ⟨a2, -⟩ := t4 q hq eq
    rw [t1 hnp]
    refine Or.inl ⟨Or.inr (Or.inl h0.1), h0.2.1, ?_, fun _ => ?_⟩
    · rw [a2]
      have hdm := run_dom hd (k := 0) q (by omega) (sSt d (gN ws q))
      rw [Nat.zero_add] at hdm
      have htq : tK d ws q = fK d ws q + dI d (pK d ws q) (sSt d (gN ws q)) := tmI_down (by omega)
      have hs2 : sSt d (gN ws q) = gA (d.1 4) r := by
        unfold sSt
        rw [eq, stopOf_eq (by omega), if_neg (by omega), show (2 * r + 1) / 2 = r by omega]
      rw [hs2] at hdm
      rw [htq, hs2]
      have h3 := h0.2.2.1
      have hdm' : (d.2 2).toInt + dI d (d.2 1) (gA (d.1 4) r) ≤ fK d ws q + dI d (pK d ws q) (gA (d.1 4) r) := hdm
      unfold pkI at h3
      omega
    · rw [a2]
      have := late_at (by omega) hw hb (dayTF hd) hlt hq (by omega)
      rw [eq, show (2 * r + 1) / 2 = r by omega] at this
      exact this
  all_goals
    have hnp : ¬ 2 * r ∈ ws := fun z => by
      have := m1.mp z
      rw [h0.1] at this
      exact absurd this (by decide)
    have hnd : ¬ 2 * r + 1 ∈ ws := fun z => by
      have := m2.mp z
      rw [h0.1] at this
      rcases this with z | z
      · exact absurd z (by decide)
      · exact absurd z (by decide)
    rw [t1 hnp, t2 hnd]
  · exact Or.inl ⟨Or.inr (Or.inr h0.1), h0.2.1, h0.2.2, fun z => by rw [h0.1] at z; rcases z with z | z <;> exact absurd z (by decide)⟩
  · exact Or.inr (Or.inl ⟨h0.1, h0.2.2, h0.2.1⟩)
  · exact Or.inr (Or.inr ⟨h0.1, h0.2.2, h0.2.1⟩)
/-- what holds asks of a visit -/
theorem hold_visit {d : RV} {n k : Nat} {ws : List Nat} (h : invP d n ws) (hk : k < ws.length) :
    gA ((TK d ws ws.length).1 0) k = sTime d (TK d ws k) (gN ws k) ∧ gA ((TK d ws ws.length).1 1) k = (TK d ws (k + 1)).2 2 ∧ 0 ≤ (gA ((TK d ws ws.length).1 2) k).toInt ∧ (sTime d (TK d ws k) (gN ws k)).toInt = tK d ws k ∧ (TK d ws (k + 1)).2 1 = sTime d (TK d ws k) (gN ws k) + gA (d.1 0) 2 ∧ (TK d ws (k + 1)).2 2 = sAb (TK d ws k) (gN ws k) ∧ gN ws k / 2 < n ∧ (gN ws k % 2 = 0 → gA ((TK d ws ws.length).1 3) (gN ws k / 2) = sTime d (TK d ws k) (gN ws k)) ∧ (gN ws k % 2 = 1 → gA ((TK d ws ws.length).1 4) (gN ws k / 2) = sTime d (TK d ws k) (gN ws k)) := by
  have hd := h.1.1
  have hn := hd.1
  have hw := hd.2.2.2.2.2.1.2.1
  have hwl := hw.1
  have hv := hw.2.1 k hk
  obtain ⟨-, -, -, -, -, fb, -⟩ := dayTF hd ws.length (Nat.le_refl _)
  obtain ⟨b0, b1, b2⟩ := fb k hk
  obtain ⟨-, s1, s2, -⟩ := TK_step (d := d) (by omega) hw hk
  obtain ⟨-, -, -, -, -, -, fc, -⟩ := dayTF hd k (by omega)
  have hb := hd.2.2.1
  have ht := time_K hb (dayTF hd k (by omega)) (by omega)
  obtain ⟨c1, c2⟩ := sCome_bd (v := gN ws k) hb.2.1 fc (by omega)
  have t1 := sTime_bd (v := gN ws k) hb.2.1 hb.2.2.1 fc (by omega)
  obtain ⟨-, -, t3, t4⟩ := tabP_at hd (r := gN ws k / 2) (by omega)
  refine ⟨b0, by rw [b1, s2], ?_, ht, s1, s2, by omega, fun ev => ?_, fun ev => ?_⟩
  · rw [b2, (bd_sub t1 c1 (by omega) (by omega)).2, ht, c2]
    have := tmI_ge d (pK d ws k) (fK d ws k) (gN ws k)
    unfold tK
    unfold pK fK at this ⊢
    show (0 : Int) ≤ _ - (((TK d ws k).2 1).toInt + dI d ((TK d ws k).2 0) (sSt d (gN ws k)))
    omega
  · have := (t3 k hk (by omega)).2
    rw [this, show 2 * (gN ws k / 2) = gN ws k by omega]
  · have := (t4 k hk (by omega)).2
    rw [this, show 2 * (gN ws k / 2) + 1 = gN ws k by omega]
