/-! ===== the history of the reference ===== -/
def dayS (s : Nat → Int32) (d : RV) : Prop := ∃ n ws, dayOk d n ws ∧ relS s d n
theorem relS_congr {s s' : Nat → Int32} {d : RV} {n : Nat} {ws : List Nat} (hd : dayOk d n ws) (h : ∀ x, x < 186 → s' x = s x) (hR : relS s d n) : relS s' d n := by
  have hn := hd.1
  have h11 := hd.2.2.2.2.2.1.1
  have hwl := hd.2.2.2.2.2.1.2.2.1
  have hll : (d.1 11).length = ws.length := by rw [h11, List.length_map]
  obtain ⟨⟨⟨s0, s1, s2⟩, hst, hri, s6, s7⟩, c3, c4, c5, c8, crt⟩ := hR
  refine ⟨⟨⟨by rw [h _ (by omega)]; exact s0, by rw [h _ (by omega)]; exact s1, by rw [h _ (by omega)]; exact s2⟩, fun i hi => by rw [h _ (by omega), h _ (by omega)]; exact hst i hi, fun r hr => ?_, by rw [h _ (by omega)]; exact s6, by rw [h _ (by omega)]; exact s7⟩, by rw [h _ (by omega)]; exact c3, by rw [h _ (by omega)]; exact c4, by rw [h _ (by omega)]; exact c5, by rw [h _ (by omega)]; exact c8, fun k hk => by rw [h _ (by omega)]; exact crt k hk⟩
  rw [h _ (by omega), h _ (by omega), h _ (by omega), h _ (by omega), h _ (by omega), h _ (by omega), h _ (by omega)]
  exact hri r hr
theorem dayS_congr {s s' : Nat → Int32} {d : RV} (h : ∀ x, x < 186 → s' x = s x) (hR : dayS s d) : dayS s' d := by
  obtain ⟨n, ws, hd, hr⟩ := hR
  exact ⟨n, ws, hd, relS_congr hd h hr⟩
def gV (xs : List RV) (k : Nat) : RV := xs.getD k T0
def hisR (m : MV) (xs : List RV) : Prop := xs.length ≤ 6 ∧ m.1 4 = nI xs.length ∧ ∀ k, k < xs.length → dayS (fun x => m.2 3 (186 * k + x)) (gV xs k)
def recP (m m' : MV) (ys : List RV) : Prop := (∀ j, j ≠ 4 → m'.1 j = m.1 j) ∧ (∀ j, j ≠ 3 → m'.2 j = m.2 j) ∧ hisR m' ys
theorem gV_app {xs : List RV} {d : RV} {k : Nat} : gV (xs ++ [d]) k = if k < xs.length then gV xs k else if k = xs.length then d else T0 := by
  unfold gV
  rw [List.getD_eq_getElem?_getD]
  by_cases c : k < xs.length
  · rw [if_pos c, List.getElem?_append_left c, List.getD_eq_getElem?_getD]
  · rw [if_neg c, List.getElem?_append_right (by omega)]
    by_cases c2 : k = xs.length
    · rw [if_pos c2, c2, Nat.sub_self]
      rfl
    · rw [if_neg c2, List.getElem?_eq_none (by simp; omega)]
      rfl
theorem gV_drop {xs : List RV} {k : Nat} : gV (xs.drop 1) k = gV xs (k + 1) := by
  unfold gV
  rw [List.getD_eq_getElem?_getD, List.getElem?_drop, List.getD_eq_getElem?_getD, Nat.add_comm]
theorem n186 (k x : Nat) : (186 : Int32) * nI k + nI x = nI (186 * k + x) := by
  rw [show (186 : Int32) = nI 186 from rfl, nI_mul, nI_add]
theorem q_records {m : MV} {d : RV} {xs : List RV} {K : MV → Prop} (hd : dayS (m.2 1) d) (hH : hisR m xs) (hK : ∀ m', recP m m' (fHist xs d) → K m') : PO_X7_records K m := by
  obtain ⟨hl6, h4, hrow⟩ := hH
  have hback : ∀ (ys : List RV) (m' : MV) (k : Nat), ys = (if 6 ≤ xs.length then xs.drop 1 else xs) → (∀ j, j ≠ 4 → m'.1 j = m.1 j) → (∀ j, j ≠ 3 → m'.2 j = m.2 j) → m'.1 4 = nI ys.length → (∀ q, q < ys.length → dayS (fun x => m'.2 3 (186 * q + x)) (gV ys q)) → (∀ x, x < 186 → m'.2 3 (186 * ys.length + x) = m.2 1 x) → ys.length ≤ 5 → K (mI m' 4 (m'.1 4 + 1)) := by
    intro ys m' k hys h1 h2 h3 h5 h6 h7
    refine hK _ ⟨fun j hj => by rw [mI_ne hj]; exact h1 j hj, h2, ?_⟩
    have e : fHist xs d = ys ++ [d] := by unfold fHist; rw [hys]
    rw [e]
    refine ⟨by simp; omega, by rw [mI_at, h3, nI_1]; simp, ?_⟩
    intro q hq
    rw [List.length_append, List.length_singleton] at hq
    rw [gV_app]
    by_cases c : q < ys.length
    · rw [if_pos c]
      exact h5 q c
    · rw [if_neg c, if_pos (by omega), show q = ys.length by omega]
      exact dayS_congr h6 hd
  obtain ⟨ys, hys⟩ : ∃ ys, ys = (if 6 ≤ xs.length then xs.drop 1 else xs) := ⟨_, rfl⟩
  have hyl : ys.length ≤ 5 := by
    rw [hys]
    split
    · simp; omega
    · omega
  refine ⟨fun w m' x1 => ∃ k, k ≤ 930 ∧ x1 = nI k ∧ w = 930 - k + 1000 ∧ xs.length = 6 ∧ m'.1 = m.1 ∧ (∀ j, j ≠ 3 → m'.2 j = m.2 j) ∧ (∀ x, x < k → m'.2 3 x = m.2 3 (x + 186)) ∧ (∀ x, k ≤ x → m'.2 3 x = m.2 3 x),
    fun w m' x1 => ∃ k, k ≤ 186 ∧ x1 = nI k ∧ w = 186 - k ∧ (∀ j, j ≠ 4 → m'.1 j = m.1 j) ∧ (∀ j, j ≠ 3 → m'.2 j = m.2 j) ∧ m'.1 4 = nI ys.length ∧ (∀ q, q < ys.length → dayS (fun x => m'.2 3 (186 * q + x)) (gV ys q)) ∧ (∀ x, x < k → m'.2 3 (186 * ys.length + x) = m.2 1 x), ?_, ?_, ?_⟩
  · rintro w m' x1 ⟨k, hk, rfl, rfl, hx6, e1, e2, e3, e5⟩
    unfold wp_X7_records_11
    by_cases c : 930 ≤ k
    · rw [if_pos (show (930 : Int32) ≤ nI k from (nI_leI (a := 930) (by omega) (by omega)).mpr c)]
      have hk9 : k = 930 := by omega
      subst hk9
      dsimp only [yl]
      unfold wp_X7_records_50
      have hys6 : ys = xs.drop 1 := by rw [hys, if_pos (by omega)]
      have hy5 : ys.length = 5 := by rw [hys6]; simp; omega
      refine ⟨_, ?_, 0, by omega, rfl, rfl, fun j hj => by rw [mI_ne hj, e1], e2, ?_, ?_, fun x hx => absurd hx (Nat.not_lt_zero x)⟩
      · omega
      · rw [mI_at, e1, h4, hx6, hy5]
        rfl
      · intro q hq
        rw [hys6, gV_drop]
        refine dayS_congr (fun x hx => ?_) (hrow (q + 1) (by omega))
        show m'.2 3 (186 * q + x) = m.2 3 (186 * (q + 1) + x)
        rw [e3 _ (by omega), show 186 * q + x + 186 = 186 * (q + 1) + x by omega]
    · rw [if_neg (fun (z : (930 : Int32) ≤ nI k) => c ((nI_leI (a := 930) (by omega) (by omega)).mp z))]
      rw [show nI k + 186 = nI (k + 186) from nI_add k 186, nI_clamp (by omega), nI_clamp (by omega)]
      refine ⟨vp_in_nI (by omega) (by omega), vp_in_nI (by omega) (by omega), ?_⟩
      dsimp only [yl]
      refine ⟨_, by omega, k + 1, by omega, nI_1 k, rfl, hx6, e1, fun j hj => by rw [mA_ne hj]; exact e2 j hj, fun x hx => ?_, fun x hx => ?_⟩
      · rw [mA_at]
        by_cases cx : x = k
        · rw [cx, upd_at, e5 _ (by omega)]
        · rw [upd_ne cx]; exact e3 x (by omega)
      · rw [mA_at, upd_ne (by omega)]
        exact e5 x (by omega)
  · rintro w m' x1 ⟨k, hk, rfl, rfl, e1, e2, e4, erow, enew⟩
    unfold wp_X7_records_52
    by_cases c : 186 ≤ k
    · rw [if_pos (show (186 : Int32) ≤ nI k from (nI_leI (a := 186) (by omega) (by omega)).mpr c)]
      dsimp only [yl]
      exact hback ys m' k hys e1 e2 e4 erow (fun x hx => enew x (by omega)) hyl
    · rw [if_neg (fun (z : (186 : Int32) ≤ nI k) => c ((nI_leI (a := 186) (by omega) (by omega)).mp z))]
      rw [e4, n186, nI_clamp (by omega), nI_clamp (by omega)]
      refine ⟨vp_in_nI (by omega) (by omega), vp_in_nI (by omega) (by omega), ?_⟩
      dsimp only [yl]
      refine ⟨_, by omega, k + 1, by omega, nI_1 k, rfl, e1, fun j hj => by rw [mA_ne hj]; exact e2 j hj, e4, fun q hq => ?_, fun x hx => ?_⟩
      · refine dayS_congr (fun x hx => ?_) (erow q hq)
        show (mA m' 3 _ _).2 3 (186 * q + x) = m'.2 3 (186 * q + x)
        rw [mA_at, upd_ne (by omega)]
      · rw [mA_at]
        by_cases cx : x = k
        · rw [cx, upd_at, e2 1 (by omega)]
        · rw [upd_ne (by omega)]; exact enew x (by omega)
  · unfold wp_X7_records_0
    rw [h4]
    by_cases c : xs.length = 6
    · rw [if_pos (show nI xs.length = 6 by rw [c]; rfl)]
      exact ⟨_, 0, by omega, rfl, rfl, c, rfl, fun _ _ => rfl, fun x hx => absurd hx (Nat.not_lt_zero x), fun _ _ => rfl⟩
    · rw [if_neg (fun (z : nI xs.length = 6) => c ((nI_eq (b := 6) (by omega) (by omega)).mp z))]
      unfold wp_X7_records_50
      have hysx : ys = xs := by rw [hys, if_neg (by omega)]
      refine ⟨_, 0, by omega, rfl, rfl, fun _ _ => rfl, fun _ _ => rfl, by rw [hysx]; exact h4, ?_, fun x hx => absurd hx (Nat.not_lt_zero x)⟩
      rw [hysx]
      exact hrow
/-! ===== the whole object ===== -/
/-- slots -/
def sltR (m : MV) (a0 a1 : Option RV) : Prop := (m.2 6 0 = (if a0.isSome then 1 else 0) ∧ ∀ d, a0 = some d → dayS (fun x => m.2 5 x) d) ∧ (m.2 6 1 = (if a1.isSome then 1 else 0) ∧ ∀ d, a1 = some d → dayS (fun x => m.2 5 (186 + x)) d)
/-- the pad -/
def padS (m : MV) (p : RV) : Prop := (p.1 0).length ≤ 60 ∧ m.1 8 = nI (p.1 0).length ∧ ∀ k, k < (p.1 0).length → m.2 7 k = gA (p.1 0) k
def modR (m : MV) (d p : RV) (xs : List RV) (a0 a1 : Option RV) : Prop := dayS (m.2 1) d ∧ hisR m xs ∧ sltR m a0 a1 ∧ padS m p
theorem modR_oth {m m' : MV} {d d' p : RV} {xs : List RV} {a0 a1 : Option RV} (h : modR m d p xs a0 a1) (ho : othM m m') (hd : dayS (m'.2 1) d') : modR m' d' p xs a0 a1 := by
  obtain ⟨-, ⟨h1, h2, h3⟩, hs, hp⟩ := h
  obtain ⟨q3, q5, q6, q7, -, q4, q8, -⟩ := ho
  refine ⟨hd, ⟨h1, by rw [q4]; exact h2, by rw [q3]; exact h3⟩, ?_, ?_⟩
  · unfold sltR
    rw [q5, q6]
    exact hs
  · unfold padS
    rw [q7, q8]
    exact hp
theorem modR_qst {m m' : MV} {d p : RV} {n : Nat} {ws : List Nat} {xs : List RV} {a0 a1 : Option RV} (h : modR m d p xs a0 a1) (hd : dayOk d n ws) (hq : qst m m' d n) : modR m' d p xs a0 a1 := modR_oth h hq.2 ⟨n, ws, hd, hq.1⟩
/-- a change recorded: the day may be another -/
theorem modR_rec {m m1 : MV} {d p : RV} {xs ys : List RV} {a0 a1 : Option RV} (h : modR m d p xs a0 a1) (hr : recP m m1 ys) : modR m1 d p ys a0 a1 := by
  obtain ⟨hd, -, hs, hp⟩ := h
  obtain ⟨r1, r2, hh⟩ := hr
  refine ⟨by rw [r2 1 (by omega)]; exact hd, hh, ?_, ?_⟩
  · unfold sltR
    rw [r2 5 (by omega), r2 6 (by omega)]
    exact hs
  · unfold padS
    rw [r2 7 (by omega), r1 8 (by omega)]
    exact hp
