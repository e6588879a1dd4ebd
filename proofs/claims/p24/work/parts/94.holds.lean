/-! ===== holds answers 1 ===== -/
theorem h_191 {d p t : RV} {xs : List RV} {X26 : RV → Int32 → Int32 → Int32 → Int32 → Int32 → Int32 → Int32 → Prop} {X237 : RV → Int32 → Int32 → Int32 → Int32 → Int32 → Int32 → Int32 → Prop} {K : Int32 → RV → Prop} {x1 x2 x3 x4 x5 x6 x7 x8 : Int32} (hs : (sF d x7 = -5 ∧ ¬ x8 ≤ 1) ∨ (¬ sF d x7 = -5 ∧ x8 ≤ 1)) (hX : ∀ t', X26 t' x1 x2 x3 x4 x5 x6 (x7 + 1)) : wp_L_holds_191 d p xs X26 X237 K t x1 x2 x3 x4 x5 x6 x7 x8 1 := by
  unfold wp_L_holds_191
  rw [if_neg (by decide)]
  dsimp only [yl]
  rw [spare_c]
  rcases hs with ⟨a, b⟩ | ⟨a, b⟩
  · rw [if_pos a, if_neg b, if_pos rfl]
    exact hX _
  · rw [if_neg a, if_pos b, if_pos rfl]
    exact hX _
def rdOk (d : RV) (x7 x8 x9 x10 : Int32) : Prop := (¬ 3 ≤ x8 ∧ ¬ x9 < rF d x7 2 ∧ ¬ x10 < x9 + rF d x7 7) ∨ (3 ≤ x8 ∧ x10 = -6 ∧ ((x8 = 4 ∧ ¬ x9 < 0) ∨ (¬ x8 = 4 ∧ x9 < 0)))
theorem h_111 {d p t : RV} {xs : List RV} {X26 : RV → Int32 → Int32 → Int32 → Int32 → Int32 → Int32 → Int32 → Prop} {X237 : RV → Int32 → Int32 → Int32 → Int32 → Int32 → Int32 → Int32 → Prop} {K : Int32 → RV → Prop} {x1 x2 x3 x4 x5 x6 x7 x8 x9 x10 : Int32} (hx : rdOk d x7 x8 x9 x10) (hs : (sF d x7 = -5 ∧ ¬ x8 ≤ 1) ∨ (¬ sF d x7 = -5 ∧ x8 ≤ 1)) (hX : ∀ t', X26 t' x1 x2 x3 x4 x5 x6 (x7 + 1)) : wp_L_holds_111 d p xs X26 X237 K t x1 x2 x3 x4 x5 x6 x7 x8 x9 x10 := by
  unfold wp_L_holds_111
  rcases hx with ⟨a, b, c⟩ | ⟨a, b, ⟨c, e⟩ | ⟨c, e⟩⟩
  · rw [if_neg a]
    dsimp only [yl]
    simp only [ride_c]
    rw [if_neg b, if_neg c]
    exact h_191 hs hX
  · rw [if_pos a, if_pos b, if_pos c, if_neg e, if_pos rfl]
    exact h_191 hs hX
  · rw [if_pos a, if_pos b, if_neg c, if_pos e, if_pos rfl]
    exact h_191 hs hX
theorem h_79 {d p t : RV} {xs : List RV} {X26 : RV → Int32 → Int32 → Int32 → Int32 → Int32 → Int32 → Int32 → Prop} {X237 : RV → Int32 → Int32 → Int32 → Int32 → Int32 → Int32 → Int32 → Prop} {K : Int32 → RV → Prop} {x1 x2 x3 x4 x5 x6 x7 x8 x9 x10 : Int32} (hx : rdOk d x7 x8 x9 x10) (hs : (sF d x7 = -5 ∧ ¬ x8 ≤ 1) ∨ (¬ sF d x7 = -5 ∧ x8 ≤ 1)) (hX : ∀ t', X26 t' x1 x2 x3 x4 (x5 + (if x8 = 1 then 1 else 0)) (x6 + (if x8 = 2 then 1 else 0)) (x7 + 1)) : wp_L_holds_79 d p xs X26 X237 K t x1 x2 x3 x4 x5 x6 x7 x8 x9 x10 := by
  unfold wp_L_holds_79 wp_L_holds_95
  by_cases c1 : x8 = 1
  · have c2 : ¬ x8 = 2 := by rw [c1]; decide
    rw [if_pos c1, if_neg c2] at hX
    rw [if_pos c1, if_neg c2]
    exact h_111 hx hs hX
  · by_cases c2 : x8 = 2
    · rw [if_neg c1, if_pos c2] at hX
      rw [if_neg c1, if_pos c2]
      exact h_111 hx hs hX
    · rw [if_neg c1, if_neg c2] at hX
      rw [if_neg c1, if_neg c2]
      exact h_111 hx hs hX
theorem h_292 {d p t : RV} {xs : List RV} {X26 : RV → Int32 → Int32 → Int32 → Int32 → Int32 → Int32 → Int32 → Prop} {X237 : RV → Int32 → Int32 → Int32 → Int32 → Int32 → Int32 → Int32 → Prop} {K : Int32 → RV → Prop} {x1 x2 x3 x4 x5 x6 x7 x8 x9 x10 : Int32} (h1 : ¬ x10 < x1) (h2 : ¬ x10 < cF d 3) (h3 : vF d x7 4 = x2) (h4 : x9 = 0 → x10 = rF d x8 5 ∧ vF d x7 2 = rF d x8 0) (h5 : ¬ x9 = 0 → x10 = rF d x8 6 ∧ vF d x7 2 = rF d x8 1) (h6 : 0 ≤ vF d x7 5) (hX : ∀ t', X237 t' (x10 + cF d 11) x2 x3 x4 x5 x6 (x7 + 1)) : wp_L_holds_292 d p xs X26 X237 K t x1 x2 x3 x4 x5 x6 x7 x8 x9 x10 := by
  unfold wp_L_holds_292
  rw [if_neg h1]
  dsimp only [yl]
  simp only [ride_c, visit_c, cnt_c (wh := 3) (by decide) (by decide), cnt_c (wh := 11) (by decide) (by decide)]
  rw [if_neg h2, if_pos h3]
  by_cases c : x9 = 0
  · obtain ⟨a, b⟩ := h4 c
    rw [if_pos c, if_pos a, if_pos b, if_pos h6]
    exact hX _
  · obtain ⟨a, b⟩ := h5 c
    rw [if_neg c, if_pos a, if_pos b, if_pos h6]
    exact hX _
theorem nI_ite {c : Prop} [Decidable c] (a : Nat) : nI (a + if c then 1 else 0) = nI a + (if c then 1 else 0 : Int32) := by
  split
  · exact (nI_1 a).symm
  · rw [Nat.add_zero, Int32.add_zero]
theorem gA_get {xs : List Int32} {i : Nat} (h : i < xs.length) : xs[i] = gA xs i := by
  unfold gA
  rw [List.getD_eq_getElem?_getD, List.getElem?_eq_getElem h]
  rfl
set_option maxHeartbeats 1000000 in
/-- a ride, as holds asks for it -/
theorem ride_ok {d : RV} {n k : Nat} {ws : List Nat} (h : invP d n ws) (hk : k < n) : rdOk d (nI k) (gA (d.1 8) k) (rF d (nI k) 5) (rF d (nI k) 6) ∧ ((sF d (nI k) = -5 ∧ ¬ gA (d.1 8) k ≤ 1) ∨ (¬ sF d (nI k) = -5 ∧ gA (d.1 8) k ≤ 1)) := by
  have hd := h.1.1
  have hn := hd.1
  have l8 := dayOk_l8 hd
  have hb := hd.2.2.1
  obtain ⟨-, -, q2, -, q5, q6, q7⟩ := rF_at (d := d) (k := k) (by omega) (by omega)
  have qs := sF_at (d := d) (k := k) (by omega) (by omega)
  have hT : fFollow T0 d = TK d ws ws.length := (dayTab hd).2
  rw [hT] at q5 q6 qs
  have hwt : 0 ≤ wtI d k ∧ wtI d k ≤ 600 := hb.2.2.1.1 k
  have hby : 0 ≤ byI d k ∧ byI d k ≤ 900 := hb.2.2.1.2.1 k
  obtain ⟨i, j, hi, hj, g3, g4, g7, -⟩ := hb.2.2.2.1 k hk
  have hsk : 0 ≤ skI d k ∧ skI d k ≤ 60 := by
    unfold skI
    rw [g7]
    exact min_bd hb.2.1.1 hb.2.1.2 _ _
  rcases hold_ride h hk with ⟨a1, a2, a3, a4⟩ | ⟨a1, a2, a3⟩ | ⟨a1, a2, a3⟩
  · have hle : ¬ 3 ≤ gA (d.1 8) k := by rcases a1 with e | e | e <;> rw [e] <;> decide
    have hbd := fb_rng (gA ((TK d ws ws.length).1 3) k)
    have hbd2 := fb_rng (gA ((TK d ws ws.length).1 4) k)
    have hadd := fb_addI (x := gA ((TK d ws ws.length).1 3) k) (y := gA (d.1 7) k) (by unfold skI at a3 hsk; omega) (by unfold skI at a3 hsk; omega)
    refine ⟨Or.inl ⟨hle, ?_, ?_⟩, ?_⟩
    · rw [q5, q2, fa_lt]
      unfold wtI at a2
      omega
    · rw [q6, q5, q7, fa_lt, hadd]
      unfold skI at a3
      omega
    · rcases a1 with e | e | e
      · have hs := a4 (Or.inl e)
        refine Or.inr ⟨?_, by rw [e]; decide⟩
        rw [qs, if_pos e, fa_eq]
        unfold byI at hs hby
        unfold skI at a3 hsk
        rw [fb_subI (by omega) (by omega), show (-5 : Int32).toInt = -5 by decide]
        omega
      · have hs := a4 (Or.inr e)
        refine Or.inr ⟨?_, by rw [e]; decide⟩
        rw [qs, if_neg (by rw [e]; decide), if_pos e, fa_eq]
        unfold byI at hs hby
        unfold skI at a3 hsk
        rw [fb_subI (by omega) (by omega), show (-5 : Int32).toInt = -5 by decide]
        omega
      · refine Or.inl ⟨?_, by rw [e]; decide⟩
        rw [qs, if_neg (by rw [e]; decide), if_neg (by rw [e]; decide)]
  · refine ⟨Or.inr ⟨by rw [a1]; decide, by rw [q6]; exact a2, Or.inr ⟨by rw [a1]; decide, by rw [q5, a3]; decide⟩⟩, Or.inl ⟨?_, by rw [a1]; decide⟩⟩
    rw [qs, if_neg (by rw [a1]; decide), if_neg (by rw [a1]; decide)]
  · refine ⟨Or.inr ⟨by rw [a1]; decide, by rw [q6]; exact a2, Or.inl ⟨a1, ?_⟩⟩, Or.inl ⟨?_, by rw [a1]; decide⟩⟩
    · rw [q5, fa_lt, t32_0]
      omega
    · rw [qs, if_neg (by rw [a1]; decide), if_neg (by rw [a1]; decide)]
set_option maxHeartbeats 1000000 in
theorem p_L_holds {d p t : RV} {xs : List RV} (hi : invD d) : PO_L_holds d p xs (fun r _ => r = 1) t := by
  obtain ⟨n, ws, h⟩ := hi
  have hd := h.1.1
  have hn := hd.1
  have l8 := dayOk_l8 hd
  have hw := hd.2.2.2.2.2.1.2.1
  have hwl := hw.1
  have h11 := hd.2.2.2.2.2.1.1
  have hlen : (d.1 11).length = ws.length := by rw [h11, List.length_map]
  have hT : fFollow T0 d = TK d ws ws.length := (dayTab hd).2
  refine ⟨fun w _ x1 x2 x3 x4 x5 x6 x7 => ∃ k, k ≤ n ∧ x1 = 0 ∧ x2 = nStand (d.1 8) 1 ∧ x3 = nI ws.length ∧ x4 = nI (cntOf ((d.1 8).take k) 0) ∧ x5 = nI (cntOf ((d.1 8).take k) 1) ∧ x6 = nI (cntOf ((d.1 8).take k) 2) ∧ x7 = nI k ∧ w = 100 + (n - k), fun w _ x1 x2 x3 x4 x5 x6 x7 => ∃ k, k ≤ ws.length ∧ x1 = (if k = 0 then 0 else (TK d ws k).2 1) ∧ x2 = (TK d ws k).2 2 ∧ x3 = nI ws.length ∧ x4 = nI (cntOf (d.1 8) 0) ∧ x5 = nI (cntOf (d.1 8) 1) ∧ x6 = nI (cntOf (d.1 8) 2) ∧ x7 = nI k ∧ w = ws.length - k, ?_, ?_, ?_⟩
  · rintro w t' x1 x2 x3 x4 x5 x6 x7 ⟨k, hk, rfl, rfl, rfl, rfl, rfl, rfl, rfl, rfl⟩
    unfold wp_L_holds_26
    dsimp only [yl]
    simp only [ride_c, cnt_c (wh := 1) (by decide) (by decide), cF_1]
    unfold rLen
    rw [l8]
    by_cases c : n ≤ k
    · rw [if_pos ((nI_leI (by omega) (by omega)).mpr c)]
      refine ⟨_, ?_, 0, by omega, by rw [if_pos rfl], by first | rfl | trivial, by first | rfl | trivial, ?_, ?_, ?_, by first | rfl | trivial, by first | rfl | trivial⟩
      · omega
      · rw [List.take_of_length_le (by omega)]
      · rw [List.take_of_length_le (by omega)]
      · rw [List.take_of_length_le (by omega)]
    · rw [if_neg (fun z => c ((nI_leI (by omega) (by omega)).mp z))]
      have hk' : k < n := by omega
      obtain ⟨r1, r2⟩ := ride_ok h hk'
      obtain ⟨-, -, -, q4, -⟩ := rF_at (d := d) (k := k) (by omega) (by omega)
      rw [q4]
      have hc : ∀ how, nI (cntOf ((d.1 8).take (k + 1)) how) = nI (cntOf ((d.1 8).take k) how) + (if gA (d.1 8) k = how then 1 else 0) := by
        intro how
        rw [cntOf_take_succ (by omega), nI_ite, gA_get (by omega)]
      have hX : ∀ x4', x4' = nI (cntOf ((d.1 8).take (k + 1)) 0) → ∀ t' : RV, ∃ w9, w9 < 100 + (n - k) ∧ ∃ k', k' ≤ n ∧ (0 : Int32) = 0 ∧ nStand (d.1 8) 1 = nStand (d.1 8) 1 ∧ nI ws.length = nI ws.length ∧ x4' = nI (cntOf ((d.1 8).take k') 0) ∧ nI (cntOf ((d.1 8).take k) 1) + (if gA (d.1 8) k = 1 then 1 else 0) = nI (cntOf ((d.1 8).take k') 1) ∧ nI (cntOf ((d.1 8).take k) 2) + (if gA (d.1 8) k = 2 then 1 else 0) = nI (cntOf ((d.1 8).take k') 2) ∧ nI k + 1 = nI k' ∧ w9 = 100 + (n - k') := fun x4' e _ => ⟨_, by omega, k + 1, by omega, rfl, rfl, rfl, e, (hc 1).symm, (hc 2).symm, nI_1 k, rfl⟩
      have h0 := hc 0
      by_cases c0 : gA (d.1 8) k = 0
      · rw [if_pos c0] at h0 ⊢
        exact h_79 r1 r2 (hX _ h0.symm)
      · rw [if_neg c0] at h0 ⊢
        exact h_79 r1 r2 (hX _ h0.symm)
  · rintro w t' x1 x2 x3 x4 x5 x6 x7 ⟨k, hk, rfl, rfl, rfl, rfl, rfl, rfl, rfl, rfl⟩
    unfold wp_L_holds_237
    by_cases c : ws.length ≤ k
    · rw [if_pos ((nI_leI (by omega) (by omega)).mpr c)]
      have ek : k = ws.length := by omega
      subst ek
      dsimp only [yl]
      simp only [cnt_c (wh := 4) (by decide) (by decide), cnt_c (wh := 5) (by decide) (by decide), cnt_c (wh := 6) (by decide) (by decide), cF_4, cF_5, cF_6, hT]
      have he1 := evN_eq hd
      have he2 := odN_eq hd
      have he3 := evod ws
      have h444 : ∀ t9 : RV, wp_L_holds_444 d p xs (fun (t9 : RV) (x19 : Int32) (x29 : Int32) (x39 : Int32) (x49 : Int32) (x59 : Int32) (x69 : Int32) (x79 : Int32) => ∃ w9, w9 < ws.length - ws.length ∧ ∃ k, k ≤ n ∧ x19 = 0 ∧ x29 = nStand (d.1 8) 1 ∧ x39 = nI ws.length ∧ x49 = nI (cntOf ((d.1 8).take k) 0) ∧ x59 = nI (cntOf ((d.1 8).take k) 1) ∧ x69 = nI (cntOf ((d.1 8).take k) 2) ∧ x79 = nI k ∧ w9 = 100 + (n - k)) (fun (t9 : RV) (x19 : Int32) (x29 : Int32) (x39 : Int32) (x49 : Int32) (x59 : Int32) (x69 : Int32) (x79 : Int32) => ∃ w9, w9 < ws.length - ws.length ∧ ∃ k, k ≤ ws.length ∧ x19 = (if k = 0 then 0 else (TK d ws k).2 1) ∧ x29 = (TK d ws k).2 2 ∧ x39 = nI ws.length ∧ x49 = nI (cntOf (d.1 8) 0) ∧ x59 = nI (cntOf (d.1 8) 1) ∧ x69 = nI (cntOf (d.1 8) 2) ∧ x79 = nI k ∧ w9 = ws.length - k) (fun (r : Int32) (_ : RV) => r = 1) t9 (nI ws.length) := by
        intro t9
        unfold wp_L_holds_444
        dsimp only [yl]
        have hv := vF_end d (by omega)
        unfold rLen at hv
        rw [hlen] at hv
        rw [visit_c]
        split
        · exact (rfl : (1 : Int32) = 1)
        · rename_i hne
          exact absurd hv hne
      rw [if_pos (aK_end hd), if_pos ?_, if_pos (show nI (cntOf (d.1 8) 1) = nStand (d.1 8) 1 from rfl), if_pos (show nI (cntOf (d.1 8) 2) = nStand (d.1 8) 2 from rfl)]
      · by_cases cz : nI ws.length = 0
        · rw [if_pos cz]
          exact h444 _
        · have hz : ¬ ws.length = 0 := fun z => cz (by rw [z]; rfl)
          rw [if_neg cz, if_neg hz, if_pos rfl]
          exact h444 _
      · rw [show (2 : Int32) = nI 2 from rfl, nI_mul, nI_add]
        congr 1
        omega
    · rw [if_neg (fun z => c ((nI_leI (by omega) (by omega)).mp z))]
      have hk' : k < ws.length := by omega
      have hv := hw.2.1 k hk'
      obtain ⟨f1, f2, f3, f4, f5, f6, f7, f8, f9⟩ := hold_visit h hk'
      obtain ⟨v0, v1, v2, v3, v4, v5⟩ := vF_at (d := d) (k := k) (by omega) (by omega)
      rw [h11, gA_map hk'] at v0 v1 v2
      rw [hT] at v3 v4 v5
      rw [vis_ride (by omega)] at v0
      rw [vis_down (by omega)] at v1
      rw [stopOf_eq (by omega)] at v2
      rw [f1] at v3
      rw [f2] at v4
      obtain ⟨q0, q1, -, -, q5, q6, -⟩ := rF_at (d := d) (k := gN ws k / 2) (by omega) (by omega)
      rw [hT] at q5 q6
      dsimp only [yl]
      simp only [visit_c]
      rw [v0, v1]
      have c11 : cF d 11 = gA (d.1 0) 2 := by rw [cF_11]; exact rAt_gA (i := 2) (by omega)
      have hx1 : ¬ sTime d (TK d ws k) (gN ws k) < (if k = 0 then 0 else (TK d ws k).2 1) := by
        have hge := tK_ge (ws := ws) (k := k) hd.2.2.1
        rw [fa_lt, f4]
        by_cases cz : k = 0
        · rw [if_pos cz, t32_0]
          subst cz
          have h0 : fK d ws 0 = (d.2 2).toInt := rfl
          have := hd.2.2.2.1.1
          omega
        · rw [if_neg cz]
          unfold fK at hge
          omega
      have hx2 : ¬ sTime d (TK d ws k) (gN ws k) < cF d 3 := by
        rw [cF_3, fa_lt, f4]
        have := now_le h k hk'
        omega
      have h6 : 0 ≤ vF d (nI k) 5 := by
        rw [v5, fa_le, t32_0]
        exact f3
      have hX : ∀ x2', x2' = (TK d ws (k + 1)).2 2 → ∀ t' : RV, ∃ w9, w9 < ws.length - k ∧ ∃ k', k' ≤ ws.length ∧ sTime d (TK d ws k) (gN ws k) + cF d 11 = (if k' = 0 then 0 else (TK d ws k').2 1) ∧ x2' = (TK d ws k').2 2 ∧ nI ws.length = nI ws.length ∧ nI (cntOf (d.1 8) 0) = nI (cntOf (d.1 8) 0) ∧ nI (cntOf (d.1 8) 1) = nI (cntOf (d.1 8) 1) ∧ nI (cntOf (d.1 8) 2) = nI (cntOf (d.1 8) 2) ∧ nI k + 1 = nI k' ∧ w9 = ws.length - k' := fun x2' e _ => ⟨_, by omega, k + 1, by omega, by rw [if_neg (by omega), c11, f5], e, rfl, rfl, rfl, rfl, nI_1 k, rfl⟩
      by_cases ev : gN ws k % 2 = 0
      · have hab : (TK d ws k).2 2 + 1 = (TK d ws (k + 1)).2 2 := by rw [f6]; unfold sAb; rw [if_pos ev]
        rw [if_pos (show nI (gN ws k % 2) = 0 by rw [ev]; rfl), if_neg (by decide)]
        unfold wp_L_holds_270
        dsimp only [yl]
        simp only [visit_c]
        rw [if_pos trivial, v3]
        refine h_292 hx1 hx2 (by rw [v4, hab]) (fun _ => ⟨by rw [q5]; exact (f8 ev).symm, by rw [v2, if_pos ev, q0]⟩) (fun z => absurd rfl z) h6 (hX _ hab)
      · have od : gN ws k % 2 = 1 := by omega
        have hab : (TK d ws k).2 2 + (-1) = (TK d ws (k + 1)).2 2 := by rw [f6]; unfold sAb; rw [if_neg ev]
        rw [if_neg (show ¬ nI (gN ws k % 2) = 0 by rw [od]; decide), if_pos rfl]
        unfold wp_L_holds_270
        dsimp only [yl]
        simp only [visit_c]
        rw [if_neg (by decide), v3]
        refine h_292 hx1 hx2 (by rw [v4, hab]) (fun z => absurd z (by decide)) (fun _ => ⟨by rw [q6]; exact (f9 od).symm, by rw [v2, if_neg ev, q1]⟩) h6 (hX _ hab)
  · unfold wp_L_holds_0
    dsimp only [yl]
    simp only [cnt_c (wh := 5) (by decide) (by decide), cnt_c (wh := 2) (by decide) (by decide), cF_5, cF_2]
    refine ⟨_, 0, by omega, by first | rfl | trivial, by first | rfl | trivial, ?_, by first | rfl | trivial, by first | rfl | trivial, by first | rfl | trivial, by first | rfl | trivial, by first | rfl | trivial⟩
    unfold rLen
    rw [hlen]
/-! ===== areKept answers 1 behind a booking ===== -/
set_option maxHeartbeats 1000000 in
theorem p_L_areKept {d p t : RV} {xs : List RV} (hi : keptD d) : PO_L_areKept d p xs (fun r _ => r = 1) t := by
  obtain ⟨n, ws, h, hfl⟩ := hi
  have hd := h.1.1
  have hn := hd.1
  have l8 := dayOk_l8 hd
  have hw := hd.2.2.2.2.2.1.2.1
  have hm := hd.2.2.2.2.2.1.2.2.2
  have hb := hd.2.2.1
  have hwl := hw.1
  have h11 := hd.2.2.2.2.2.1.1
  have hlen : (d.1 11).length = ws.length := by rw [h11, List.length_map]
  have hT : fFollow T0 d = TK d ws ws.length := (dayTab hd).2
  refine ⟨fun w _ x1 x2 => ∃ k, k ≤ ws.length ∧ x1 = 1 ∧ x2 = nI k ∧ w = 100 + (ws.length - k), fun w _ x1 x2 => ∃ k, k ≤ n ∧ x1 = 1 ∧ x2 = nI k ∧ w = n - k, ?_, ?_, ?_⟩
  · rintro w t' x1 x2 ⟨k, hk, rfl, rfl, rfl⟩
    unfold wp_L_areKept_4
    dsimp only [yl]
    simp only [visit_c, cnt_c (wh := 2) (by decide) (by decide), cnt_c (wh := 9) (by decide) (by decide), cF_2, cF_9]
    unfold rLen
    rw [hlen]
    by_cases c : ws.length ≤ k
    · rw [if_pos ((nI_leI (by omega) (by omega)).mpr c)]
      exact ⟨n - 0, by omega, 0, by omega, by first | rfl | trivial, by first | rfl | trivial, by first | rfl | trivial⟩
    · have hk' : k < ws.length := by omega
      rw [if_neg (fun z => c ((nI_leI (by omega) (by omega)).mp z)), if_neg (by decide)]
      obtain ⟨-, f2, -⟩ := hold_visit h hk'
      obtain ⟨-, -, -, -, v4, -⟩ := vF_at (d := d) (k := k) (by omega) (by omega)
      rw [hT, f2] at v4
      have hle := load_le hd (k := k + 1) (by omega)
      rw [v4, if_neg (show ¬ rAt (d.1 0) 0 < (TK d ws (k + 1)).2 2 by rw [show rAt (d.1 0) (0 : Int32) = gA (d.1 0) 0 from rAt_gA (i := 0) (by omega), fa_lt]; unfold aK at hle; omega)]
      unfold wp_L_areKept_38
      exact ⟨100 + (ws.length - (k + 1)), by omega, k + 1, by omega, by first | rfl | trivial, nI_1 k, by first | rfl | trivial⟩
  · rintro w t' x1 x2 ⟨k, hk, rfl, rfl, rfl⟩
    unfold wp_L_areKept_46
    dsimp only [yl]
    simp only [ride_c, spare_c, cnt_c (wh := 1) (by decide) (by decide), cnt_c (wh := 11) (by decide) (by decide), cnt_c (wh := 10) (by decide) (by decide), cF_1, cF_10, cF_11]
    unfold rLen
    rw [l8]
    by_cases c : n ≤ k
    · rw [if_pos ((nI_leI (by omega) (by omega)).mpr c)]
      exact by first | exact ⟨rfl, rfl⟩ | trivial | exact rfl
    · have hk' : k < n := by omega
      rw [if_neg (fun z => c ((nI_leI (by omega) (by omega)).mp z))]
      obtain ⟨-, -, -, q4, q5, q6, q7⟩ := rF_at (d := d) (k := k) (by omega) (by omega)
      have qs := sF_at (d := d) (k := k) (by omega) (by omega)
      rw [hT] at q5 q6 qs
      rw [q4, q5, q6, q7]
      have hnext : ∀ t9 : RV, wp_L_areKept_121 d p xs (fun (t9 : RV) (x19 : Int32) (x29 : Int32) => ∃ w9, w9 < n - k ∧ ∃ k, k ≤ ws.length ∧ x19 = 1 ∧ x29 = nI k ∧ w9 = 100 + (ws.length - k)) (fun (t9 : RV) (x19 : Int32) (x29 : Int32) => ∃ w9, w9 < n - k ∧ ∃ k, k ≤ n ∧ x19 = 1 ∧ x29 = nI k ∧ w9 = n - k) (fun (r : Int32) (_ : RV) => r = 1) t9 1 (nI k) := by
        intro t9
        unfold wp_L_areKept_121
        exact ⟨n - (k + 1), by omega, k + 1, by omega, by first | rfl | trivial, nI_1 k, by first | rfl | trivial⟩
      by_cases c2 : 2 ≤ gA (d.1 8) k
      · rw [if_pos c2]
        exact hnext _
      · rw [if_neg c2, if_neg (by decide)]
        have hby : 0 ≤ byI d k ∧ byI d k ≤ 900 := hb.2.2.1.2.1 k
        have hwt : 0 ≤ wtI d k ∧ wtI d k ≤ 600 := hb.2.2.1.1 k
        obtain ⟨i, j, hi, hj, g3, g4, g7, -⟩ := hb.2.2.2.1 k hk'
        have hsk : 0 ≤ skI d k ∧ skI d k ≤ 60 := by
          unfold skI
          rw [g7]
          exact min_bd hb.2.1.1 hb.2.1.2 _ _
        have hS : 0 ≤ S3 d ∧ S3 d ≤ 5 := hb.1.2.2
        have hSl : 0 ≤ (gA (d.1 0) 1).toInt ∧ (gA (d.1 0) 1).toInt ≤ 60 := hb.1.2.1
        rcases hold_ride h hk' with ⟨a1, a2, a3, a4⟩ | ⟨a1, -⟩ | ⟨a1, -⟩
        · have hs01 : gA (d.1 8) k = 0 ∨ gA (d.1 8) k = 1 := by
            rcases a1 with e | e | e
            · exact Or.inl e
            · exact Or.inr e
            · exact absurd (show (2 : Int32) ≤ gA (d.1 8) k by rw [e]; decide) c2
          have hle := a4 hs01
          obtain ⟨t1, t2, t3, t4⟩ := tabP_at hd hk'
          obtain ⟨m1, m2⟩ := hm k hk'
          obtain ⟨q, hq, eq⟩ := mem_gN (m2.mpr hs01)
          obtain ⟨b1, -⟩ := t4 q hq eq
          -- the detour
          have hfd := (flag_down (by omega) hw hq hb (dayTF hd q (by omega)) (by omega) (hfl q hq)).2
          have hpk : gA ((TK d ws q).1 3) k = gA ((TK d ws ws.length).1 3) k := by
            obtain ⟨-, -, -, -, -, -, -, -, -, ff1, ff2, -⟩ := dayTF hd q (by omega)
            by_cases hp : 2 * k ∈ ws
            · obtain ⟨p', hp', ep⟩ := mem_gN hp
              have hpq : p' < q := by
                rcases Nat.lt_trichotomy p' q with c' | c' | c'
                · exact c'
                · subst c'; omega
                · exact absurd ⟨by rw [ep]; omega, by rw [ep, eq]⟩ (hw.2.2.2 q p' c' hp')
              rw [ff2 k p' hpq ep, (t3 p' hp' ep).2]
            · rw [ff1 k hk' (fun p' hp' e => hp (by rw [← e]; exact gN_mem (by omega))), t1 hp]
          unfold sLate at hfd
          rw [eq, show (2 * k + 1) / 2 = k by omega, hpk] at hfd
          have hP : 0 ≤ (gA ((TK d ws ws.length).1 3) k).toInt := by omega
          generalize gA ((TK d ws ws.length).1 3) k = PK at *
          generalize gA ((TK d ws ws.length).1 4) k = DN at *
          have hx1 : (PK + gA (d.1 0) 2).toInt = PK.toInt + S3 d := fb_addI (by have h9 := hS; unfold S3 at h9; omega) (by have h9 := hS; unfold S3 at h9; omega)
          have hx2 : (PK + gA (d.1 0) 2 + gA (d.1 7) k).toInt = PK.toInt + S3 d + skI d k := by
            rw [fb_addI (by have h9 := hsk; unfold skI at h9; omega) (by have h9 := hsk; unfold skI at h9; omega), hx1]
            rfl
          have hx3 : (PK + gA (d.1 0) 2 + gA (d.1 7) k + gA (d.1 0) 1).toInt = PK.toInt + S3 d + skI d k + (gA (d.1 0) 1).toInt := by
            rw [fb_addI (by omega) (by omega), hx2]
          rw [hx3, ← b1] at hfd
          have hx4 : (DN - PK).toInt = DN.toInt - PK.toInt := fb_subI (by omega) (by omega)
          have hx5 : (DN - PK - gA (d.1 0) 2).toInt = DN.toInt - PK.toInt - S3 d := by
            rw [fb_subI (by have h9 := hS; unfold S3 at h9; omega) (by have h9 := hS; unfold S3 at h9; omega), hx4]
            rfl
          have hx6 : (gA (d.1 7) k + gA (d.1 0) 1).toInt = skI d k + (gA (d.1 0) 1).toInt := fb_addI (by have h9 := hsk; unfold skI at h9; omega) (by have h9 := hsk; unfold skI at h9; omega)
          have hsp : ¬ sF d (nI k) < 0 := by
            have e : sF d (nI k) = gA (d.1 6) k - DN := by
              rw [qs]
              rcases hs01 with e | e
              · rw [if_pos e]
              · rw [if_neg (by rw [e]; decide), if_pos e]
            rw [e, fa_lt, t32_0, fb_subI (by unfold byI at hby hle; omega) (by unfold byI at hby hle; omega)]
            unfold byI at hle
            omega
          rw [if_neg hsp, show rAt (d.1 0) (2 : Int32) = gA (d.1 0) 2 from rAt_gA (i := 2) (by omega), show rAt (d.1 0) (1 : Int32) = gA (d.1 0) 1 from rAt_gA (i := 1) (by omega), if_neg (show ¬ gA (d.1 7) k + gA (d.1 0) 1 < DN - PK - gA (d.1 0) 2 by rw [fa_lt, hx5, hx6]; omega)]
          exact hnext _
        · exact absurd (show (2 : Int32) ≤ gA (d.1 8) k by rw [a1]; decide) c2
        · exact absurd (show (2 : Int32) ≤ gA (d.1 8) k by rw [a1]; decide) c2
  · exact ⟨_, 0, by omega, rfl, rfl, rfl⟩
