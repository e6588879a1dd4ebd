/-! ===== the whole day in the reference's cells ===== -/
def relC (s : Nat → Int32) (d : RV) : Prop := s 3 = nI (d.1 1).length ∧ s 4 = nI (d.1 8).length ∧ s 5 = nI (d.1 11).length ∧ s 8 = d.2 2 ∧ ∀ k, k < (d.1 11).length → s (152 + k) = gA (d.1 11) k
def relS (s : Nat → Int32) (d : RV) (n : Nat) : Prop := relD s d n ∧ relC s d
/-- the rides that stand in the route are those that are booked or aboard -/
def rtOk (d : RV) (n : Nat) (ws : List Nat) : Prop := d.1 11 = ws.map nI ∧ wsOk ws n ∧ ws.length ≤ 2 * n ∧ ∀ r, r < n → (2 * r ∈ ws ↔ gA (d.1 8) r = 0) ∧ (2 * r + 1 ∈ ws ↔ (gA (d.1 8) r = 0 ∨ gA (d.1 8) r = 1))
/-- at no time more rides aboard than seats -/
def ldOk (S : Int) : Int → List Nat → Prop
  | a, [] => a ≤ S
  | a, v :: l => a ≤ S ∧ ldOk S (if v % 2 = 0 then a + 1 else a - 1) l
def dayOk (d : RV) (n : Nat) (ws : List Nat) : Prop := n ≤ 16 ∧ lenD d n ∧ bdD d n ∧ bd (d.2 2) 0 2100 ∧ bd (d.2 0) 0 2000 ∧ rtOk d n ws ∧ ldOk (gA (d.1 0) 0).toInt (nStand (d.1 8) 1).toInt ws
/-- what a question may write -/
def scr (m m' : MV) : Prop := (∀ j, j ≠ 0 → j ≠ 10 → j ≠ 14 → j ≠ 15 → j ≠ 16 → m'.1 j = m.1 j) ∧ (∀ j, j ≠ 9 → j ≠ 11 → j ≠ 12 → j ≠ 13 → m'.2 j = m.2 j)
theorem scr_refl (m : MV) : scr m m := ⟨fun _ _ _ _ _ _ => rfl, fun _ _ _ _ _ => rfl⟩
theorem scr_trans {a b c : MV} (h : scr a b) (h2 : scr b c) : scr a c := ⟨fun j h0 h1 h3 h4 h5 => (h2.1 j h0 h1 h3 h4 h5).trans (h.1 j h0 h1 h3 h4 h5), fun j h0 h1 h3 h4 => (h2.2 j h0 h1 h3 h4).trans (h.2 j h0 h1 h3 h4)⟩
theorem scr_of_fr {a b : MV} (h : frM a b) : scr a b := ⟨fun j _ _ h1 h3 h4 => h.1 j h1 h3 h4, fun j _ h1 h3 h4 => h.2 j h1 h3 h4⟩
theorem scr_I {m m' : MV} {k : Nat} {x : Int32} (h : scr m m') (hk : k = 0 ∨ k = 10 ∨ k = 14 ∨ k = 15 ∨ k = 16) : scr m (mI m' k x) := ⟨fun j h0 h1 h2 h3 h4 => by rw [mI_ne (by omega)]; exact h.1 j h0 h1 h2 h3 h4, h.2⟩
theorem scr_A {m m' : MV} {k i : Nat} {x : Int32} (h : scr m m') (hk : k = 9 ∨ k = 11 ∨ k = 12 ∨ k = 13) : scr m (mA m' k i x) := ⟨h.1, fun j h0 h1 h2 h3 => by rw [mA_ne (by omega)]; exact h.2 j h0 h1 h2 h3⟩
theorem scr_s {m m' : MV} (h : scr m m') : m'.2 1 = m.2 1 := h.2 1 (by omega) (by omega) (by omega) (by omega)
theorem gA_map {ws : List Nat} {k : Nat} (h : k < ws.length) : gA (ws.map nI) k = nI (gN ws k) := by
  unfold gA
  rw [List.getD_eq_getElem?_getD, List.getElem?_map, List.getElem?_eq_getElem h, gN_get h]
  rfl
theorem gN_mem {ws : List Nat} {k : Nat} (h : k < ws.length) : gN ws k ∈ ws := by
  rw [gN_get h]
  exact List.getElem_mem h
theorem mem_gN {ws : List Nat} {v : Nat} (h : v ∈ ws) : ∃ k, k < ws.length ∧ gN ws k = v := by
  obtain ⟨k, hk, e⟩ := List.getElem_of_mem h
  exact ⟨k, hk, by rw [gN_get hk]; exact e⟩
/-- the route is the way -/
theorem q_laysRoute {m : MV} {ws : List Nat} {K : MV → Prop} (h5 : m.2 1 5 = nI ws.length) (hl : ws.length ≤ 34) (hr : ∀ k, k < ws.length → m.2 1 (152 + k) = nI (gN ws k)) (hK : ∀ m', scr m m' → wayR m' ws → K m') : PO_X7_laysRoute K m := by
  refine ⟨fun w m' x1 => ∃ k, k ≤ ws.length ∧ x1 = nI k ∧ w = ws.length - k ∧ scr m m' ∧ m'.1 10 = nI ws.length ∧ ∀ j, j < k → m'.2 9 j = nI (gN ws j), ?_, ?_⟩
  · rintro w m' x1 ⟨k, hk, rfl, rfl, hs, h10, h9⟩
    unfold wp_X7_laysRoute_12
    rw [h10]
    by_cases c : ws.length ≤ k
    · rw [if_pos ((nI_leI (by omega) (by omega)).mpr c)]
      exact hK m' hs ⟨h10, hl, fun j hj => h9 j (by omega)⟩
    · rw [if_neg (fun z => c ((nI_leI (by omega) (by omega)).mp z))]
      rw [show (152 : Int32) + nI k = nI (152 + k) by rw [show (152 : Int32) = nI 152 from rfl, nI_add], nI_clamp (by omega), nI_clamp (by omega), scr_s hs, hr k (by omega)]
      refine ⟨vp_in_nI (by omega) (by omega), vp_in_nI (by omega) (by omega), ?_⟩
      dsimp only [yl]
      refine ⟨_, by omega, k + 1, by omega, nI_1 k, rfl, scr_A hs (by omega), h10, fun j hj => ?_⟩
      rw [mA_at]
      by_cases e : j = k
      · rw [e, upd_at]
      · rw [upd_ne e]; exact h9 j (by omega)
  · unfold wp_X7_laysRoute_0
    refine ⟨vp_in_nI (n := 5) (by omega) (by omega), ?_⟩
    dsimp only [yl]
    refine ⟨_, 0, by omega, rfl, rfl, scr_I (scr_refl m) (by omega), ?_, fun j hj => absurd hj (Nat.not_lt_zero j)⟩
    rw [mI_at]
    exact h5
def drvR (m m' : MV) (d : RV) (ws : List Nat) : Prop := scr m m' ∧ wayR m' ws ∧ m'.1 14 = (TK d ws ws.length).2 3 ∧ m'.1 15 = (TK d ws ws.length).2 1 ∧ arrOk m' d ws ws.length
theorem dayOk_way {s : Nat → Int32} {d : RV} {n : Nat} {ws : List Nat} (hd : dayOk d n ws) (hR : relS s d n) : s 5 = nI ws.length ∧ ∀ k, k < ws.length → s (152 + k) = nI (gN ws k) := by
  obtain ⟨-, -, -, -, -, ⟨h11, -⟩, -⟩ := hd
  obtain ⟨-, -, -, h5, -, hr⟩ := hR
  rw [h11, List.length_map] at h5 hr
  exact ⟨h5, fun k hk => by rw [hr k hk, gA_map hk]⟩
theorem dayOk_s4 {s : Nat → Int32} {d : RV} {n : Nat} {ws : List Nat} (hd : dayOk d n ws) (hR : relS s d n) : s 4 = nI n := by
  rw [hR.2.2.1, hd.2.1.2.2.2.2.2.2.2.2.1]
theorem q_drivesRoute {m : MV} {d : RV} {n : Nat} {ws : List Nat} {K : MV → Prop} (hd : dayOk d n ws) (hR : relS (m.2 1) d n) (hK : ∀ m', drvR m m' d ws → K m') : PO_X7_drivesRoute K m := by
  obtain ⟨h5, hr⟩ := dayOk_way hd hR
  have h4 := dayOk_s4 hd hR
  obtain ⟨hn, hl, hb, hf, -, ⟨-, hw, -⟩, -⟩ := id hd
  unfold PO_X7_drivesRoute wp_X7_drivesRoute_0
  refine q_laysRoute h5 hw.1 hr ?_
  intro m1 hs hway
  have e1 := scr_s hs
  refine ⟨vp_in_nI (n := 8) (by omega) (by omega), ?_⟩
  refine q_drives (d := d) (ws := ws) n (by omega) (Nat.le_refl _) hw hl hb (by rw [e1]; exact hR.1) hway (by rw [e1]; exact h4) (by rw [List.take_of_length_le (by rw [hl.2.2.2.2.2.2.2.2.1]; omega)]) (by rw [e1]; exact hR.2.2.2.2.1) (bd_wide hf (by omega) (by omega)) ?_
  rintro m2 ⟨⟨hfr, h14, harr, -⟩, h15⟩
  exact hK m2 ⟨scr_trans hs (scr_of_fr hfr), ⟨by rw [hfr.1 10 (by omega) (by omega) (by omega)]; exact hway.1, hway.2.1, fun j hj => by rw [hfr.2 9 (by omega) (by omega) (by omega)]; exact hway.2.2 j hj⟩, h14, h15, harr⟩
/-! ===== the questions about a day ===== -/
theorem in_cases (x : Int32) (a b : Nat) (ha : a < 1000) (hb : b < 3000) : (f_X7_in x (nI a) (nI b) = 0 ∧ ∀ w, a ≤ w → w ≤ b → x ≠ nI w) ∨ (f_X7_in x (nI a) (nI b) = 1 ∧ ∃ w, a ≤ w ∧ w ≤ b ∧ x = nI w) := by
  unfold f_X7_in
  have ea := nI_toInt (n := a) (by omega)
  have eb := nI_toInt (n := b) (by omega)
  by_cases c : x < nI a
  · rw [if_pos c]
    refine Or.inl ⟨rfl, fun w h1 h2 e => ?_⟩
    rw [e, fa_lt, ea, nI_toInt (by omega)] at c
    omega
  · rw [if_neg c]
    by_cases c2 : nI b < x
    · rw [if_pos c2]
      refine Or.inl ⟨rfl, fun w h1 h2 e => ?_⟩
      rw [e, fa_lt, eb, nI_toInt (by omega)] at c2
      omega
    · rw [if_neg c2]
      rw [fa_lt, ea] at c
      rw [fa_lt, eb] at c2
      obtain ⟨w, hw, e⟩ := bd_nat (x := x) (hi := b) ⟨by omega, by omega⟩
      refine Or.inr ⟨rfl, w, ?_, hw, e⟩
      rw [e, nI_toInt (by omega)] at c
      omega
theorem in_has {n : Nat} {x : Int32} (h : n < 1000) : f_X7_in x 0 (nI n - 1) = if x < 0 then 0 else if nI n ≤ x then 0 else 1 := by
  unfold f_X7_in
  have e := fb_subI (x := nI n) (y := 1) (by rw [nI_toInt (by omega), t32_1]; omega) (by rw [nI_toInt (by omega), t32_1]; omega)
  rw [nI_toInt (by omega), t32_1] at e
  split
  · rfl
  · by_cases c : nI n ≤ x
    · rw [if_pos c, if_pos (by rw [fa_le, nI_toInt (by omega)] at c; rw [fa_lt, e]; omega)]
    · rw [if_neg c, if_neg (by rw [fa_le, nI_toInt (by omega)] at c; rw [fa_lt, e]; omega)]
theorem hasRide_eq (d : RV) (i : Int32) : f_X0_hasRide d i = if i < 0 then 0 else if nI (d.1 8).length ≤ i then 0 else 1 := rfl
theorem hasStop_eq (d : RV) (i : Int32) : f_X0_hasStop d i = if i < 0 then 0 else if nI (d.1 1).length ≤ i then 0 else 1 := rfl
theorem has_ex {n : Nat} {x : Int32} (h : n < 1000) (h2 : (if x < 0 then (0 : Int32) else if nI n ≤ x then 0 else 1) ≠ 0) : ∃ r, r < n ∧ x = nI r := by
  by_cases c : x < 0
  · rw [if_pos c] at h2
    exact absurd rfl h2
  · rw [if_neg c] at h2
    by_cases c2 : nI n ≤ x
    · rw [if_pos c2] at h2
      exact absurd rfl h2
    · rw [fa_lt, t32_0] at c
      rw [fa_le, nI_toInt (by omega)] at c2
      obtain ⟨w, hw, e⟩ := bd_nat (x := x) (hi := n) ⟨by omega, by omega⟩
      refine ⟨w, ?_, e⟩
      rw [e, nI_toInt (by omega)] at c2
      omega
theorem q_isRide {m : MV} {d : RV} {ri : Int32} {K : Int32 → Prop} (h4 : m.2 1 4 = nI (d.1 8).length) (hl : (d.1 8).length < 1000) (hK : K (f_X0_hasRide d ri)) : PO_X7_isRide m ri K := by
  unfold PO_X7_isRide wp_X7_isRide_0
  refine ⟨vp_in_nI (n := 4) (by omega) (by omega), ?_⟩
  dsimp only [yl]
  rw [show m.2 1 (4 : Int32).toNatClampNeg = nI (d.1 8).length from h4, in_has hl, ← hasRide_eq]
  exact hK
theorem q_isStop {m : MV} {d : RV} {st : Int32} {K : Int32 → Prop} (h3 : m.2 1 3 = nI (d.1 1).length) (hl : (d.1 1).length < 1000) (hK : K (f_X0_hasStop d st)) : PO_X7_isStop m st K := by
  unfold PO_X7_isStop wp_X7_isStop_0
  refine ⟨vp_in_nI (n := 3) (by omega) (by omega), ?_⟩
  dsimp only [yl]
  rw [show m.2 1 (3 : Int32).toNatClampNeg = nI (d.1 1).length from h3, in_has hl, ← hasStop_eq]
  exact hK
