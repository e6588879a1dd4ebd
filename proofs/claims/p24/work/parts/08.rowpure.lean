/-! ===== the Row's methods, pure ===== -/
theorem rowf_lt {xs : List Int32} {h : Nat → Int32} {q : Nat} (hq : q < xs.length) : rowf xs h q = xs[q] := by
  simp [rowf, List.getD, hq]
theorem rowf_self {ys : List Int32} {f : Nat → Int32} (h : ∀ q (hq : q < ys.length), f q = ys[q]) : rowf ys f = f := by
  funext q
  by_cases hq : q < ys.length
  · rw [rowf_lt hq, h q hq]
  · simp [rowf, List.getD, Nat.not_lt.mp hq]
def rowOk (cap : Nat) (ys : List Int32) (n : Int32) (f : Nat → Int32) : Prop := ys.length ≤ cap ∧ n = nI ys.length ∧ ∀ q (hq : q < ys.length), f q = ys[q]
theorem rAt_nI {xs : List Int32} {j : Nat} (h : j < 2147483648) : rAt xs (nI j) = xs.getD j 0 := by
  unfold rAt
  rw [if_neg (nI_pos h), nI_clamp h]
theorem p_X3_length {cap : Nat} {xs : List Int32} {h : Nat → Int32} : PO_X3_length cap (nI xs.length) (rowf xs h) (fun r => r = rLen xs) := rfl
theorem p_X3_at {cap : Nat} {xs : List Int32} {h : Nat → Int32} {p : Int32} (hl : xs.length ≤ cap) (hc : cap < 2147483648) : PO_X3_at cap (nI xs.length) (rowf xs h) p (fun r => r = rAt xs p) := by
  unfold PO_X3_at wp_X3_at_0
  by_cases h0 : p < 0
  · rw [if_pos h0]; unfold rAt; rw [if_pos h0]
  · rw [if_neg h0]
    obtain ⟨j, hj, rfl⟩ := nI_of h0
    rw [rAt_nI hj]
    have e1 : nI xs.length ≤ nI j ↔ xs.length ≤ j := nI_leI (by omega) hj
    have e2 : nI cap ≤ nI j ↔ cap ≤ j := nI_leI hc hj
    by_cases h1 : xs.length ≤ j
    · rw [if_pos (e1.mpr h1)]; simp [List.getD, h1]
    · rw [if_neg (fun q => h1 (e1.mp q)), if_neg (fun q => absurd (e2.mp q) (by omega))]
      have h1 : j < xs.length := by omega
      refine ⟨vp_in_nI (by omega) hc, ?_⟩
      rw [nI_clamp hj, rowf_lt h1]
      simp [List.getD, h1]
theorem p_X3_change {cap : Nat} {xs : List Int32} {h : Nat → Int32} {p v : Int32} (hl : xs.length ≤ cap) (hc : cap < 2147483648) : PO_X3_change cap p v (rowOk cap (rSet xs p v)) (nI xs.length) (rowf xs h) := by
  unfold PO_X3_change wp_X3_change_0
  have base : rowOk cap xs (nI xs.length) (rowf xs h) := ⟨hl, rfl, fun q hq => rowf_lt hq⟩
  by_cases h0 : p < 0
  · rw [if_pos h0]; unfold rSet; rw [if_pos h0]; exact base
  · rw [if_neg h0]
    obtain ⟨j, hj, rfl⟩ := nI_of h0
    have e1 : nI xs.length ≤ nI j ↔ xs.length ≤ j := nI_leI (by omega) hj
    have e2 : nI cap ≤ nI j ↔ cap ≤ j := nI_leI hc hj
    unfold rSet
    rw [if_neg h0, nI_clamp hj]
    by_cases h1 : xs.length ≤ j
    · rw [if_pos (e1.mpr h1), List.set_eq_of_length_le h1]; exact base
    · rw [if_neg (fun q => h1 (e1.mp q)), if_neg (fun q => absurd (e2.mp q) (by omega))]
      refine ⟨vp_in_nI (by omega) hc, by simpa using hl, by simp, fun q hq => ?_⟩
      have hq' : q < xs.length := by simpa using hq
      by_cases e : q = j
      · subst e; simp [upd]
      · rw [show upd (rowf xs h) j v q = rowf xs h q from if_neg e, rowf_lt hq', List.getElem_set_ne (fun z => e z.symm)]
theorem p_X3_insert {cap : Nat} {xs : List Int32} {h : Nat → Int32} {p v : Int32} (hl : xs.length ≤ cap) (hc : cap < 2147483648) : PO_X3_insert cap p v (rowOk cap (rIns cap xs p v)) (nI xs.length) (rowf xs h) := by
  have base : rowOk cap xs (nI xs.length) (rowf xs h) := ⟨hl, rfl, fun q hq => rowf_lt hq⟩
  refine ⟨fun w n f x => ∃ j, p = nI j ∧ n = nI xs.length ∧ x = nI w ∧ j ≤ w ∧ w ≤ xs.length ∧ xs.length < cap ∧ (∀ q, q ≤ w → f q = rowf xs h q) ∧ (∀ q, w < q → q ≤ xs.length → f q = rowf xs h (q - 1)), ?_, ?_⟩
  · rintro w n f x ⟨j, rfl, rfl, rfl, h1, h2, h3, h4, h5⟩
    have hj : j < 2147483648 := by omega
    have hw : w < 2147483648 := by omega
    unfold wp_X3_insert_37
    by_cases c : w ≤ j
    · rw [if_pos ((nI_leI hw hj).mpr c)]
      have e : w = j := by omega
      subst e
      refine ⟨vp_in_nI (by omega) hc, ?_⟩
      have er : rIns cap xs (nI w) v = xs.take w ++ v :: xs.drop w := by
        unfold rIns
        rw [if_neg, nI_clamp hj]
        rw [nI_clamp hj]
        rintro (q | q | q)
        · exact nI_pos hj q
        · omega
        · omega
      have el : (rIns cap xs (nI w) v).length = xs.length + 1 := by rw [er]; simp; omega
      refine ⟨by rw [el]; omega, by rw [el]; exact nI_1 _, fun q hq => ?_⟩
      rw [nI_clamp hj]
      have hq' : q < xs.length + 1 := by rw [el] at hq; exact hq
      rcases Nat.lt_trichotomy q w with c1 | c1 | c1
      · rw [show upd f w v q = f q from if_neg (by omega), h4 q (by omega), rowf_lt (by omega)]
        simp only [er]
        rw [List.getElem_append_left (by simp; omega), List.getElem_take]
      · subst c1
        rw [show upd f q v q = v from if_pos rfl]
        simp only [er]
        rw [List.getElem_append_right (by simp; omega)]
        simp [Nat.min_eq_left h2]
      · rw [show upd f w v q = f q from if_neg (by omega), h5 q c1 (by omega), rowf_lt (by omega)]
        simp only [er]
        rw [List.getElem_append_right (by simp; omega)]
        simp only [List.length_take, Nat.min_eq_left h2]
        obtain ⟨k, rfl⟩ : ∃ k, q = w + (k + 1) := ⟨q - w - 1, by omega⟩
        simp only [Nat.add_sub_cancel_left, List.getElem_cons_succ, List.getElem_drop]
        congr 1
    · rw [if_neg (fun z => c ((nI_leI hw hj).mp z))]
      have em : nI w - 1 = nI (w - 1) := by
        obtain ⟨k, rfl⟩ : ∃ k, w = k + 1 := ⟨w - 1, by omega⟩
        rw [nI_pred]; rfl
      have em2 : nI w + (-1) = nI (w - 1) := by
        obtain ⟨k, rfl⟩ : ∃ k, w = k + 1 := ⟨w - 1, by omega⟩
        rw [pk_m1]; rfl
      rw [em, em2]
      refine ⟨vp_in_nI (by omega) hc, vp_in_nI (by omega) hc, w - 1, by omega, j, rfl, rfl, rfl, by omega, by omega, h3, ?_, ?_⟩
      · intro q hq
        rw [nI_clamp hw, show upd f w _ q = f q from if_neg (by omega)]
        exact h4 q (by omega)
      · intro q hq1 hq2
        rw [nI_clamp hw, nI_clamp (by omega)]
        by_cases e : q = w
        · subst e
          rw [show upd f q (f (q - 1)) q = f (q - 1) from if_pos rfl]
          exact h4 _ (by omega)
        · rw [show upd f w _ q = f q from if_neg e]
          exact h5 q (by omega) hq2
  · unfold wp_X3_insert_0
    by_cases h0 : p < 0
    · rw [if_pos h0]; unfold rIns; rw [if_pos (Or.inl h0)]; exact base
    · rw [if_neg h0]
      obtain ⟨j, hj, rfl⟩ := nI_of h0
      have e1 : nI xs.length < nI j ↔ xs.length < j := nI_ltI (by omega) hj
      have e2 : nI xs.length < nI cap ↔ xs.length < cap := nI_ltI (by omega) hc
      by_cases h1 : xs.length < j
      · rw [if_pos (e1.mpr h1)]; unfold rIns; rw [if_pos (Or.inr (Or.inl (by rw [nI_clamp hj]; exact h1)))]; exact base
      · rw [if_neg (fun q => h1 (e1.mp q)), if_neg (nI_pos (by omega))]
        by_cases h2 : xs.length < cap
        · rw [if_pos (e2.mpr h2)]
          exact ⟨xs.length, j, rfl, rfl, rfl, by omega, Nat.le_refl _, h2, fun q _ => rfl, fun q c1 c2 => absurd c2 (by omega)⟩
        · rw [if_neg (fun q => h2 (e2.mp q))]; unfold rIns; rw [if_pos (Or.inr (Or.inr (by omega)))]; exact base
theorem p_X3_remove {cap : Nat} {xs : List Int32} {h : Nat → Int32} {p : Int32} (hl : xs.length ≤ cap) (hc : cap < 2147483648) : PO_X3_remove cap p (rowOk cap (rDel xs p)) (nI xs.length) (rowf xs h) := by
  have base : rowOk cap xs (nI xs.length) (rowf xs h) := ⟨hl, rfl, fun q hq => rowf_lt hq⟩
  refine ⟨fun w n f x => ∃ j i, p = nI j ∧ n = nI xs.length ∧ x = nI i ∧ w = xs.length - i ∧ j < i ∧ i ≤ xs.length ∧ (∀ q, q < j → f q = rowf xs h q) ∧ (∀ q, j ≤ q → q + 1 < i → f q = rowf xs h (q + 1)) ∧ (∀ q, i ≤ q + 1 → f q = rowf xs h q), ?_, ?_⟩
  · rintro w n f x ⟨j, i, rfl, rfl, rfl, rfl, h1, h2, h3, h4, h5⟩
    have hj : j < 2147483648 := by omega
    have hi : i < 2147483648 := by omega
    unfold wp_X3_remove_29
    by_cases c : xs.length ≤ i
    · rw [if_pos ((nI_leI (by omega) hi).mpr c)]
      have e : i = xs.length := by omega
      subst e
      have er : rDel xs (nI j) = xs.eraseIdx j := by
        unfold rDel
        rw [if_neg (nI_pos hj), nI_clamp hj]
      have el : (rDel xs (nI j)).length = xs.length - 1 := by rw [er]; exact List.length_eraseIdx_of_lt (by omega)
      refine ⟨by rw [el]; omega, ?_, fun q hq => ?_⟩
      · rw [el]
        obtain ⟨k, hk⟩ : ∃ k, xs.length = k + 1 := ⟨xs.length - 1, by omega⟩
        rw [hk, nI_pred]; rfl
      · have hq' : q < xs.length - 1 := by rw [el] at hq; exact hq
        simp only [er, List.getElem_eraseIdx]
        by_cases c1 : q < j
        · rw [dif_pos c1, h3 q c1, rowf_lt (by omega)]
        · rw [dif_neg c1, h4 q (by omega) (by omega), rowf_lt (by omega)]
    · rw [if_neg (fun z => c ((nI_leI (by omega) hi).mp z))]
      have em : nI i - 1 = nI (i - 1) := by
        obtain ⟨k, rfl⟩ : ∃ k, i = k + 1 := ⟨i - 1, by omega⟩
        rw [nI_pred]; rfl
      rw [em, nI_1]
      refine ⟨vp_in_nI (by omega) hc, vp_in_nI (by omega) hc, xs.length - (i + 1), by omega, j, i + 1, rfl, rfl, rfl, rfl, by omega, by omega, ?_, ?_, ?_⟩
      · intro q hq
        rw [nI_clamp (by omega), show upd f (i - 1) _ q = f q from if_neg (by omega)]
        exact h3 q hq
      · intro q hq1 hq2
        rw [nI_clamp (by omega), nI_clamp hi]
        by_cases e : q = i - 1
        · subst e
          rw [show upd f (i - 1) (f i) (i - 1) = f i from if_pos rfl, h5 i (by omega)]
          congr 1; omega
        · rw [show upd f (i - 1) _ q = f q from if_neg e]
          exact h4 q hq1 (by omega)
      · intro q hq
        rw [nI_clamp (by omega), show upd f (i - 1) _ q = f q from if_neg (by omega)]
        exact h5 q (by omega)
  · unfold wp_X3_remove_0
    by_cases h0 : p < 0
    · rw [if_pos h0]; unfold rDel; rw [if_pos h0]; exact base
    · rw [if_neg h0]
      obtain ⟨j, hj, rfl⟩ := nI_of h0
      have e1 : nI xs.length ≤ nI j ↔ xs.length ≤ j := nI_leI (by omega) hj
      have e2 : nI xs.length ≤ nI cap ↔ xs.length ≤ cap := nI_leI (by omega) hc
      by_cases h1 : xs.length ≤ j
      · rw [if_pos (e1.mpr h1)]; unfold rDel; rw [if_neg h0, nI_clamp hj, List.eraseIdx_of_length_le h1]; exact base
      · rw [if_neg (fun q => h1 (e1.mp q)), if_pos (e2.mpr hl), nI_1]
        exact ⟨xs.length - (j + 1), j, j + 1, rfl, rfl, rfl, rfl, by omega, by omega, fun q _ => rfl, fun q c1 c2 => absurd c2 (by omega), fun q _ => rfl⟩
theorem p_X3_clear {cap : Nat} {xs : List Int32} {h : Nat → Int32} : PO_X3_clear cap (rowOk cap []) (nI xs.length) (rowf xs h) := ⟨Nat.zero_le _, rfl, fun q hq => absurd hq (Nat.not_lt_zero _)⟩
theorem p_X3_copy {cap cap' : Nat} {xs ys : List Int32} {h h' : Nat → Int32} (hc : cap < 2147483648) (hy : ys.length ≤ cap') (hc' : cap' < 2147483648) : PO_X3_copy cap cap' (nI ys.length) (rowf ys h') (rowOk cap (rCopy cap ys)) (nI xs.length) (rowf xs h) := by
  have el : (rCopy cap ys).length = min cap ys.length := by simp [rCopy]
  refine ⟨fun w n f x => ∃ i, n = nI (rCopy cap ys).length ∧ x = nI i ∧ w = (rCopy cap ys).length - i ∧ i ≤ (rCopy cap ys).length ∧ ∀ q (hq : q < i), f q = rowf ys h' q, ?_, ?_⟩
  · rintro w n f x ⟨i, rfl, rfl, rfl, h1, h2⟩
    unfold wp_X3_copy_26
    have hi : i < 2147483648 := by omega
    by_cases c : (rCopy cap ys).length ≤ i
    · rw [if_pos ((nI_leI (by omega) hi).mpr c)]
      have e : i = (rCopy cap ys).length := by omega
      refine ⟨by omega, rfl, fun q hq => ?_⟩
      rw [h2 q (by omega), rowf_lt (by omega)]
      simp [rCopy]
    · rw [if_neg (fun z => c ((nI_leI (by omega) hi).mp z)), nI_clamp hi, nI_1]
      refine ⟨vp_in_nI (by omega) hc', vp_in_nI (by omega) hc, _, ?_, i + 1, rfl, rfl, rfl, by omega, fun q hq => ?_⟩
      · omega
      · by_cases e : q = i
        · subst e; exact if_pos rfl
        · rw [show upd f i _ q = f q from if_neg e]; exact h2 q (by omega)
  · unfold wp_X3_copy_0
    refine ⟨_, 0, ?_, rfl, rfl, Nat.zero_le _, fun q hq => absurd hq (Nat.not_lt_zero _)⟩
    rw [el]
    by_cases c : cap < cap'
    · rw [if_pos ((nI_ltI hc hc').mpr c)]
      by_cases c2 : cap < ys.length
      · rw [if_pos ((nI_ltI hc (by omega)).mpr c2), Nat.min_eq_left (by omega)]
      · rw [if_neg (fun z => c2 ((nI_ltI hc (by omega)).mp z)), Nat.min_eq_right (by omega)]
    · rw [if_neg (fun z => c ((nI_ltI hc hc').mp z))]
      by_cases c2 : cap' < ys.length
      · omega
      · rw [if_neg (fun z => c2 ((nI_ltI hc' (by omega)).mp z)), Nat.min_eq_right (by omega)]
