/-! ===== the search: the way that is laid keeps all promises ===== -/
theorem dns_mem {n i j : Nat} {w : Nat × Nat} (h : w ∈ dnsOf n i j) : w.1 = i ∧ j ≤ w.2 ∧ w.2 ≤ n + 1 := by
  unfold dnsOf at h
  obtain ⟨q, hq, rfl⟩ := List.mem_map.mp h
  rw [List.mem_range'_1] at hq
  exact ⟨rfl, by omega, by omega⟩
theorem ways_mem {n i : Nat} {w : Nat × Nat} (h : w ∈ waysFrom n i) : i ≤ w.1 ∧ w.1 < w.2 ∧ w.2 ≤ n + 1 := by
  unfold waysFrom at h
  obtain ⟨q, hq, hw⟩ := List.mem_flatMap.mp h
  rw [List.mem_range'_1] at hq
  have := dns_mem hw
  omega
theorem dns_len (n i j : Nat) : (dnsOf n i j).length ≤ n + 2 := by
  unfold dnsOf
  rw [List.length_map, List.length_range']
  omega
theorem ways_len (n : Nat) : ∀ m i, n + 1 - i = m → (waysFrom n i).length ≤ m * (n + 2) := by
  intro m
  induction m with
  | zero =>
    intro i h
    rw [waysFrom_end (by omega)]
    exact Nat.zero_le _
  | succ m ih =>
    intro i h
    rw [waysFrom_step (by omega), List.length_append, Nat.succ_mul]
    have h1 := ih (i + 1) (by omega)
    have h2 := dns_len n i (i + 1)
    omega
/-- what is known of the search behind c ways that were taken -/
def fndP (d1 : RV) (ws : List Nat) (n p0 : Nat) (s : RV × RV × RV) (c : Nat) : Prop := (∃ x, s.2.1 = rvR d1 11 x) ∧ ∃ q, q ≤ c ∧ s.1.2 0 = nI q ∧ (q = 0 ∨ ∃ i j, p0 ≤ i ∧ i < j ∧ j ≤ ws.length + 1 ∧ s.1.2 5 = nI i ∧ s.1.2 6 = nI j ∧ wayFl d1 ws n i j)
theorem fnd_step {d : RV} {n p0 i j c : Nat} {ws : List Nat} {d1 : RV} {s : RV × RV × RV} (hd : dayOk d n ws) (hp : p0 ≤ i) (hij : i < j) (hj : j ≤ ws.length + 1) (hc : c < 100000) (h : fndP d1 ws n p0 s c) : fndP d1 ws n p0 (fWay d (nI n) s (nI i) (nI j)) (c + 1) := by
  have hn := hd.1
  have h11 := hd.2.2.2.2.2.1.1
  have hwl := hd.2.2.2.2.2.1.2.2.1
  obtain ⟨⟨x, hx⟩, q, hqc, hq, hb⟩ := h
  have hlay : f_X4_lay s.1 s.2.1 (d.1 11) (nI n) (nI i) (nI j) = dayW2 d1 ws n i j := by
    rw [h11, lay_eq (by omega) (by omega) (by omega) hj, hx, rvR_rvR]
    rfl
  have hfw : fWay d (nI n) s (nI i) (nI j) = (if (fKeeps T0 (dayW2 d1 ws n i j)).1 = 0 then s.1 else f_X4_takeWay s.1 (fKeeps T0 (dayW2 d1 ws n i j)).2 (nI n) (nI i) (nI j), dayW2 d1 ws n i j, (fKeeps T0 (dayW2 d1 ws n i j)).2) := by
    unfold fWay
    rw [hlay]
  rw [hfw]
  refine ⟨⟨_, rfl⟩, ?_⟩
  dsimp only
  rcases keeps_TK (d := dayW2 d1 ws n i j) (ws := wayOf ws n i j) (rvR_eq _ _ _) with ⟨hke, hfl⟩ | ⟨hke, -⟩
  · rw [hke, if_neg (fun z => absurd (show (1 : Int32) = 0 from z) (by decide))]
    by_cases c0 : q = 0
    · obtain ⟨t0, -, -, -, -, t5, t6⟩ := take_first (sv := s.1) (st := TK (dayW2 d1 ws n i j) (wayOf ws n i j) (wayOf ws n i j).length) (ri := nI n) (pk := nI i) (dn := nI j) (by rw [hq, c0]; rfl)
      exact ⟨q + 1, by omega, by rw [t0, hq, nI_1], Or.inr ⟨i, j, hp, hij, hj, t5, t6, hfl⟩⟩
    · obtain ⟨t0, -, tt⟩ := take_more (sv := s.1) (st := TK (dayW2 d1 ws n i j) (wayOf ws n i j) (wayOf ws n i j).length) (ri := nI n) (pk := nI i) (dn := nI j) (by rw [hq]; exact nI_ne0 (by omega) (by omega))
      refine ⟨q + 1, by omega, by rw [t0, hq, nI_1], Or.inr ?_⟩
      obtain ⟨i0, j0, g1, g2, g3, g4, g5, g6⟩ := hb.resolve_left c0
      split at tt
      · obtain ⟨-, -, -, t5, t6⟩ := tt
        exact ⟨i0, j0, g1, g2, g3, by rw [t5]; exact g4, by rw [t6]; exact g5, g6⟩
      · obtain ⟨-, -, -, t5, t6⟩ := tt
        exact ⟨i, j, hp, hij, hj, t5, t6, hfl⟩
  · rw [hke, if_pos rfl]
    exact ⟨q, by omega, hq, hb⟩
theorem fnd_fold {d : RV} {n p0 : Nat} {ws : List Nat} {d1 : RV} (hd : dayOk d n ws) : ∀ (l : List (Nat × Nat)) (s : RV × RV × RV) (c : Nat), (∀ w, w ∈ l → p0 ≤ w.1 ∧ w.1 < w.2 ∧ w.2 ≤ ws.length + 1) → c + l.length < 100000 → fndP d1 ws n p0 s c → fndP d1 ws n p0 (fFold d (nI n) l s) (c + l.length) := by
  intro l
  induction l with
  | nil => exact fun s c _ _ h => h
  | cons w l ih =>
    intro s c hl hc h
    rw [List.length_cons] at hc
    obtain ⟨h1, h2, h3⟩ := hl w List.mem_cons_self
    have := ih (fWay d (nI n) s (nI w.1) (nI w.2)) (c + 1) (fun w' hw => hl w' (List.mem_cons_of_mem _ hw)) (by omega) (fnd_step hd h1 h2 h3 (by omega) h)
    rw [List.length_cons, show c + (l.length + 1) = c + 1 + l.length by omega]
    exact this
theorem find_E {d sv st : RV} {n : Nat} {ws : List Nat} {fr to wa bt : Int32} (hd : dayOk d n ws) : (fFind d fr to wa bt sv st).1 = 0 ∨ ((fFind d fr to wa bt sv st).1 = 1 ∧ ∃ i j, fP0 d ≤ i ∧ i < j ∧ j ≤ ws.length + 1 ∧ wayFl (fDay1 d fr to wa bt) ws n i j ∧ (fFind d fr to wa bt sv st).2.2.1 = dayW2 (fDay1 d fr to wa bt) ws n i j) := by
  have hn := hd.1
  have h11 := hd.2.2.2.2.2.1.1
  have hwl := hd.2.2.2.2.2.1.2.2.1
  have hlen : (d.1 11).length = ws.length := by rw [h11, List.length_map]
  have hri := day1_ride (fr := fr) (to := to) (wa := wa) (bt := bt) hd
  have hwy := ways_len ws.length _ (fP0 d) rfl
  have hlt : (waysFrom ws.length (fP0 d)).length < 100000 := by
    have h1 : (ws.length + 1 - fP0 d) * (ws.length + 2) ≤ 33 * 34 := Nat.mul_le_mul (by omega) (by omega)
    omega
  have hF : fndP (fDay1 d fr to wa bt) ws n (fP0 d) (fTried d fr to wa bt sv st) (0 + (waysFrom ws.length (fP0 d)).length) := by
    unfold fTried
    rw [hri, hlen]
    refine fnd_fold hd _ _ 0 (fun w hw => ways_mem hw) (by omega) ⟨⟨(fDay1 d fr to wa bt).1 11, (rvR_self _ _).symm⟩, 0, Nat.le_refl _, rfl, Or.inl rfl⟩
  obtain ⟨⟨x, hx⟩, q, hqc, hq, hb⟩ := hF
  unfold fFind fFindEnd
  rw [hri]
  by_cases c : q = 0
  · rw [if_pos (by rw [hq, c]; decide)]
    exact Or.inl rfl
  · rw [if_neg (by rw [hq, fa_le, nI_toInt (by omega), t32_0]; omega)]
    refine Or.inr ⟨rfl, ?_⟩
    obtain ⟨i, j, g1, g2, g3, g4, g5, g6⟩ := hb.resolve_left c
    refine ⟨i, j, g1, g2, g3, g6, ?_⟩
    show f_X4_lay (fTried d fr to wa bt sv st).1 (fTried d fr to wa bt sv st).2.1 (d.1 11) (nI n) ((fTried d fr to wa bt sv st).1.2 5) ((fTried d fr to wa bt sv st).1.2 6) = _
    rw [g4, g5, h11, lay_eq (by omega) (by omega) (by omega) g3, hx, rvR_rvR]
    rfl
/-! ===== what the search finds doesn't depend on what it found before ===== -/
def svE (a b : RV) : Prop := a.2 0 = b.2 0 ∧ (a.2 0 ≠ 0 → a.2 1 = b.2 1 ∧ a.2 4 = b.2 4 ∧ a.2 5 = b.2 5 ∧ a.2 6 = b.2 6)
def svR (s t : RV × RV × RV) : Prop := s.2.1 = t.2.1 ∧ svE s.1 t.1
theorem take_E {a b st : RV} {ri pk dn : Int32} (h : svE a b) : svE (f_X4_takeWay a st ri pk dn) (f_X4_takeWay b st ri pk dn) := by
  obtain ⟨h0, h1⟩ := h
  by_cases c : a.2 0 = 0
  · obtain ⟨t0, t1, -, -, t4, t5, t6⟩ := take_first (st := st) (ri := ri) (pk := pk) (dn := dn) c
    obtain ⟨u0, u1, -, -, u4, u5, u6⟩ := take_first (st := st) (ri := ri) (pk := pk) (dn := dn) (show b.2 0 = 0 by rw [← h0]; exact c)
    exact ⟨by rw [t0, u0, h0], fun _ => ⟨by rw [t1, u1], by rw [t4, u4], by rw [t5, u5], by rw [t6, u6]⟩⟩
  · obtain ⟨g1, g4, g5, g6⟩ := h1 c
    obtain ⟨t0, t4, tt⟩ := take_more (st := st) (ri := ri) (pk := pk) (dn := dn) c
    obtain ⟨u0, u4, uu⟩ := take_more (st := st) (ri := ri) (pk := pk) (dn := dn) (show b.2 0 ≠ 0 by rw [← h0]; exact c)
    refine ⟨by rw [t0, u0, h0], fun _ => ?_⟩
    rw [← g1] at uu
    by_cases c2 : a.2 1 ≤ st.2 1
    · rw [if_pos c2] at tt uu
      obtain ⟨t1, -, -, t5, t6⟩ := tt
      obtain ⟨u1, -, -, u5, u6⟩ := uu
      exact ⟨by rw [t1, u1, g1], by rw [t4, u4, g4], by rw [t5, u5, g5], by rw [t6, u6, g6]⟩
    · rw [if_neg c2] at tt uu
      obtain ⟨t1, -, -, t5, t6⟩ := tt
      obtain ⟨u1, -, -, u5, u6⟩ := uu
      exact ⟨by rw [t1, u1], by rw [t4, u4, g4], by rw [t5, u5], by rw [t6, u6]⟩
theorem way_E {d : RV} {ri pk dn : Int32} {s t : RV × RV × RV} (h : svR s t) : svR (fWay d ri s pk dn) (fWay d ri t pk dn) := by
  obtain ⟨h1, h2⟩ := h
  have hl : f_X4_lay s.1 s.2.1 (d.1 11) ri pk dn = f_X4_lay t.1 t.2.1 (d.1 11) ri pk dn := by rw [h1]; rfl
  unfold fWay
  rw [hl]
  refine ⟨rfl, ?_⟩
  dsimp only
  split
  · exact h2
  · exact take_E h2
theorem fold_E {d : RV} {ri : Int32} : ∀ (l : List (Nat × Nat)) {s t : RV × RV × RV}, svR s t → svR (fFold d ri l s) (fFold d ri l t) := by
  intro l
  induction l with
  | nil => exact fun h => h
  | cons w l ih => exact fun h => ih (way_E h)
theorem find_same (d : RV) (fr to wa bt : Int32) (sv st sv' st' : RV) : (fFind d fr to wa bt sv st).1 = (fFind d fr to wa bt sv' st').1 ∧ ((fFind d fr to wa bt sv st).1 ≠ 0 → (fFind d fr to wa bt sv st).2.2.1 = (fFind d fr to wa bt sv' st').2.2.1) := by
  have h : svR (fTried d fr to wa bt sv st) (fTried d fr to wa bt sv' st') := by
    unfold fTried
    exact fold_E _ ⟨rfl, rfl, fun h => absurd rfl h⟩
  obtain ⟨h1, h2, h3⟩ := h
  unfold fFind fFindEnd
  rw [h2] at h3 ⊢
  by_cases c : (fTried d fr to wa bt sv' st').1.2 0 ≤ 0
  · rw [if_pos c, if_pos c]
    exact ⟨rfl, fun h => absurd rfl h⟩
  · rw [if_neg c, if_neg c]
    refine ⟨rfl, fun _ => ?_⟩
    obtain ⟨-, -, g5, g6⟩ := h3 (fun z => c (by rw [z]; decide))
    show f_X4_lay (fTried d fr to wa bt sv st).1 (fTried d fr to wa bt sv st).2.1 (d.1 11) (fRide d fr to wa bt) ((fTried d fr to wa bt sv st).1.2 5) ((fTried d fr to wa bt sv st).1.2 6) = f_X4_lay (fTried d fr to wa bt sv' st').1 (fTried d fr to wa bt sv' st').2.1 (d.1 11) (fRide d fr to wa bt) ((fTried d fr to wa bt sv' st').1.2 5) ((fTried d fr to wa bt sv' st').1.2 6)
    rw [g5, g6, h1]
    rfl
