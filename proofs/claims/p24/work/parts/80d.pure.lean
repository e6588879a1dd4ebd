theorem err_neg {d : RV} {fr to wa bt : Int32} (h : f_X6_errorOf d fr to wa bt ≠ 0) : f_X6_errorOf d fr to wa bt < 0 := by
  unfold f_X6_errorOf at h ⊢
  dsimp only [yl] at h ⊢
  split
  · decide
  rename_i c1
  rw [if_neg c1] at h
  split
  · decide
  rename_i c2
  rw [if_neg c2] at h
  split
  · decide
  rename_i c3
  rw [if_neg c3] at h
  split
  · decide
  rename_i c4
  rw [if_neg c4] at h
  split
  · decide
  rename_i c5
  rw [if_neg c5] at h
  split
  · decide
  rename_i c6
  rw [if_neg c6] at h
  split
  · rename_i c7
    rw [if_pos c7] at h
    exact absurd rfl h
  · decide
theorem cnt0 {xs : List Int32} {how : Int32} (h : ∀ k, k < xs.length → gA xs k ≠ how) : nStand xs how = 0 := by
  unfold nStand
  have e : cntOf xs how = 0 := by
    unfold cntOf
    rw [List.countP_eq_zero]
    intro x hx
    obtain ⟨k, hk, e⟩ := List.getElem_of_mem hx
    have h1 := h k hk
    unfold gA at h1
    rw [List.getD_eq_getElem?_getD, List.getElem?_eq_getElem hk] at h1
    simp only [Option.getD_some] at h1
    rw [e] at h1
    simpa using h1
  rw [e]
  rfl
/-- a day without a route: nobody is aboard -/
theorem no_route {d : RV} {n : Nat} {ws : List Nat} (hd : dayOk d n ws) (h : ws = []) : nStand (d.1 8) 1 = 0 := by
  subst h
  have hm := hd.2.2.2.2.2.1.2.2.2
  refine cnt0 (fun k hk e => ?_)
  rw [dayOk_l8 hd] at hk
  have := (hm k hk).2.mpr (Or.inr e)
  exact absurd this (by simp)
/-! ===== undo, save, restore ===== -/
theorem gV_last {xs : List RV} {d : RV} (h : 0 < xs.length) : gV xs (xs.length - 1) = (xs.getLast?).getD d := by
  unfold gV
  rw [List.getD_eq_getElem?_getD, List.getLast?_eq_getElem?, List.getElem?_eq_getElem (by omega)]
  rfl
/-! ===== visits leave the route ===== -/
def wsR (a b : Nat) : Prop := a ≠ b ∧ ¬ (b % 2 = 0 ∧ a = b + 1)
theorem wsOk_iff {ws : List Nat} {n : Nat} : wsOk ws n ↔ ws.length ≤ 34 ∧ (∀ v, v ∈ ws → v < 2 * n) ∧ ws.Pairwise wsR := by
  constructor
  · rintro ⟨h1, h2, h3, h4⟩
    refine ⟨h1, fun v hv => ?_, ?_⟩
    · obtain ⟨k, hk, e⟩ := mem_gN hv
      rw [← e]
      exact h2 k hk
    · rw [List.pairwise_iff_getElem]
      intro i j hi hj hij
      rw [← gN_get hi, ← gN_get hj]
      exact ⟨h3 i j hij hj, h4 i j hij hj⟩
  · rintro ⟨h1, h2, h3⟩
    rw [List.pairwise_iff_getElem] at h3
    refine ⟨h1, fun j hj => h2 _ (gN_mem hj), fun p q hpq hq => ?_, fun p q hpq hq => ?_⟩
    · rw [gN_get (k := p) (by omega), gN_get (k := q) hq]
      exact (h3 p q (by omega) hq hpq).1
    · rw [gN_get (k := p) (by omega), gN_get (k := q) hq]
      exact (h3 p q (by omega) hq hpq).2
def offN (ws : List Nat) (r : Nat) : List Nat := ws.filter (fun v => decide (¬ v / 2 = r))
theorem offN_mem {ws : List Nat} {r v : Nat} : v ∈ offN ws r ↔ v ∈ ws ∧ ¬ v / 2 = r := by
  unfold offN
  rw [List.mem_filter, decide_eq_true_eq]
theorem offN_ok {ws : List Nat} {n r : Nat} (h : wsOk ws n) : wsOk (offN ws r) n := by
  rw [wsOk_iff] at h ⊢
  obtain ⟨h1, h2, h3⟩ := h
  refine ⟨?_, fun v hv => h2 v (offN_mem.mp hv).1, ?_⟩
  · exact Nat.le_trans (List.length_filter_le _ _) h1
  · exact List.Pairwise.filter _ h3
theorem offN_len {ws : List Nat} {r : Nat} : (offN ws r).length ≤ ws.length := List.length_filter_le _ _
theorem offN_cons {v : Nat} {l : List Nat} {r : Nat} : offN (v :: l) r = if v / 2 = r then offN l r else v :: offN l r := by
  unfold offN
  rw [List.filter_cons]
  by_cases c : v / 2 = r
  · rw [if_pos c, if_neg (by simp [c])]
  · rw [if_neg c, if_pos (by simp [c])]
theorem fOff_map {r : Nat} (hr : r < 17) : ∀ {ws : List Nat}, (∀ v, v ∈ ws → v < 34) → fOff (ws.map nI) (nI r) = (offN ws r).map nI := by
  intro ws
  induction ws with
  | nil => intro _; rfl
  | cons v l ih =>
    intro h
    have hv := h v List.mem_cons_self
    rw [List.map_cons, fOff_cons, offN_cons, vis_ride hv, ih (fun x hx => h x (List.mem_cons_of_mem _ hx))]
    by_cases c : v / 2 = r
    · rw [if_pos c, if_pos (by rw [c])]
    · rw [if_neg c, if_neg (fun z => c ((nI_eq (by omega) (by omega)).mp z))]
      rfl
/-- without a ride's visits not more are aboard -/
theorem ld_off {S : Int} {r : Nat} : ∀ {ws : List Nat} {a b : Int}, ws.Pairwise wsR → ldOk S a ws → ((b = a ∧ (2 * r + 1 ∈ ws → 2 * r ∈ ws)) ∨ (b = a - 1 ∧ 2 * r ∉ ws)) → ldOk S b (offN ws r) := by
  intro ws
  induction ws with
  | nil =>
    intro a b _ h hb
    have h' : a ≤ S := h
    show b ≤ S
    rcases hb with ⟨e, -⟩ | ⟨e, -⟩ <;> omega
  | cons v l ih =>
    intro a b hp h hb
    obtain ⟨h1, h2⟩ := h
    rw [List.pairwise_cons] at hp
    obtain ⟨hv, hp⟩ := hp
    rw [offN_cons]
    by_cases c : v / 2 = r
    · rw [if_pos c]
      by_cases ev : v % 2 = 0
      · rw [if_pos ev] at h2
        have e : v = 2 * r := by omega
        rcases hb with ⟨e1, -⟩ | ⟨-, e2⟩
        · refine ih hp h2 (Or.inr ⟨by omega, fun z => ?_⟩)
          exact (hv _ z).1 e
        · exact absurd (by rw [e]; exact List.mem_cons_self) e2
      · rw [if_neg ev] at h2
        have e : v = 2 * r + 1 := by omega
        rcases hb with ⟨-, e2⟩ | ⟨e1, -⟩
        · have h3 := e2 (by rw [e]; exact List.mem_cons_self)
          rw [List.mem_cons] at h3
          rcases h3 with h3 | h3
          · omega
          · exact absurd ⟨by omega, e⟩ (hv _ h3).2
        · refine ih hp h2 (Or.inl ⟨by omega, fun z => ?_⟩)
          exact absurd e (hv _ z).1
    · rw [if_neg c]
      refine ⟨by rcases hb with ⟨e, -⟩ | ⟨e, -⟩ <;> omega, ?_⟩
      refine ih hp h2 ?_
      rcases hb with ⟨e1, e2⟩ | ⟨e1, e2⟩
      · refine Or.inl ⟨by rw [e1], fun z => ?_⟩
        have h3 := e2 (List.mem_cons_of_mem _ z)
        rw [List.mem_cons] at h3
        exact h3.elim (fun q => absurd q (by omega)) id
      · refine Or.inr ⟨by split <;> omega, fun z => e2 (List.mem_cons_of_mem _ z)⟩
theorem nStand_set {xs : List Int32} {r : Nat} {how : Int32} (h : r < xs.length) (hl : xs.length < 1000) (h1 : how ≠ 1) : (nStand (xs.set r how) 1).toInt = (nStand xs 1).toInt - (if gA xs r = 1 then 1 else 0) := by
  have e : xs[r] = gA xs r := by unfold gA; rw [List.getD_eq_getElem?_getD, List.getElem?_eq_getElem h]; rfl
  have hc1 : cntOf xs 1 ≤ xs.length := List.countP_le_length
  have hc2 : cntOf (xs.set r how) 1 ≤ (xs.set r how).length := List.countP_le_length
  rw [List.length_set] at hc2
  unfold nStand
  rw [nI_toInt (by omega), nI_toInt (by omega)]
  have hs : cntOf (xs.set r how) 1 = cntOf xs 1 - (if gA xs r = 1 then 1 else 0) := by
    unfold cntOf
    rw [List.countP_set h, e]
    simp only [decide_eq_true_eq, if_neg h1, Nat.add_zero]
  rw [hs]
  by_cases c : gA xs r = 1
  · rw [if_pos c, if_pos c]
    have hpos : 0 < cntOf xs 1 := by
      unfold cntOf
      rw [List.countP_pos_iff]
      exact ⟨xs[r], List.getElem_mem h, by rw [e]; simpa using c⟩
    omega
  · rw [if_neg c, if_neg c]
    omega
theorem base_eq {d : RV} {r : Nat} {n : Nat} {ws : List Nat} (hd : dayOk d n ws) (hr : r < n) : (fBase d (nI r)).1 = d.1 ∧ (fBase d (nI r)).2 0 = d.2 0 ∧ bd ((fBase d (nI r)).2 2) 0 2100 ∧ ∃ i, i < 12 ∧ (fBase d (nI r)).2 1 = nI i := by
  refine ⟨fBase_1 d (nI r), ?_⟩
  have hb := hd.2.2.1
  unfold fBase
  by_cases c : f_X0_isOnItsWay d = 0
  · rw [if_pos c]
    exact ⟨rfl, hd.2.2.2.1, hb.2.2.2.2⟩
  · rw [if_neg c]
    by_cases c2 : f_X6_rideOf (rAt (d.1 11) 0) = nI r
    · rw [if_pos c2]
      have hon : 0 < ws.length ∧ d.2 2 < d.2 0 := by
        have h11 := hd.2.2.2.2.2.1.1
        have hwl := hd.2.2.2.2.2.1.2.2.1
        have hn := hd.1
        unfold f_X0_isOnItsWay rLen at c
        dsimp only [yl] at c
        rw [h11, List.length_map] at c
        by_cases d1 : nI ws.length ≤ 0
        · rw [if_pos d1] at c; exact absurd rfl c
        · rw [if_neg d1] at c
          by_cases d2 : d.2 0 ≤ d.2 2
          · rw [if_pos d2] at c; exact absurd rfl c
          · refine ⟨Nat.pos_of_ne_zero (fun z => d1 (by rw [z]; decide)), Int32.not_le.mp d2⟩
      have e : f_X0_endAtFirst d = rvI (rvI d 2 (if d.2 2 + f_X0_minutes d (d.2 1) (f_X0_stopOf d (rAt (d.1 11) 0)) < d.2 0 then d.2 0 else d.2 2 + f_X0_minutes d (d.2 1) (f_X0_stopOf d (rAt (d.1 11) 0)))) 1 (f_X0_stopOf d (rAt (d.1 11) 0)) := rfl
      rw [e]
      have hbm := min_bd hb.2.1.1 hb.2.1.2 (d.2 1) (f_X0_stopOf d (rAt (d.1 11) 0))
      have hfr : bd (d.2 2) 0 2000 := by
        have h1 := hd.2.2.2.2.1
        have h2 := hd.2.2.2.1
        rw [fa_lt] at hon
        exact ⟨h2.1, by have := h1.2; omega⟩
      refine ⟨rfl, ?_, ?_⟩
      · show bd (if _ then _ else _) 0 2100
        split
        · exact bd_wide hd.2.2.2.2.1 (by omega) (by omega)
        · exact bd_wide (bd_add hfr hbm (by omega) (by omega)).1 (by omega) (by omega)
      · show ∃ i, i < 12 ∧ f_X0_stopOf d (rAt (d.1 11) 0) = nI i
        have h11 := hd.2.2.2.2.2.1.1
        rw [show rAt (d.1 11) (0 : Int32) = gA (d.1 11) 0 from rAt_gA (i := 0) (by omega), h11, gA_map hon.1]
        have := hd.1
        exact sSt_at hb.2.2.2.1 (hd.2.2.2.2.2.1.2.1.2.1 0 hon.1) (by omega)
    · rw [if_neg c2]
      exact ⟨rfl, hd.2.2.2.1, hb.2.2.2.2⟩
