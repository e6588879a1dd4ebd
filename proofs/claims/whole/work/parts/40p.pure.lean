/-! ===== the pad ===== -/
/-- what is left of the characters behind a shift; its lowest character -/
def shE (cs : Int64) (x : Int32) : Int64 := (cs.toUInt64 >>> (x.toInt64.toUInt64 &&& Int64.toUInt64 63)).toInt64
def byE (cs : Int64) (x : Int32) : Int32 := (shE cs x).toInt32 &&& 255
def fSignsN (cs : Int64) : Nat → Nat → Int32
  | 0, k => nI k
  | n + 1, k => if lg_cmp (shE cs (nI (8 * k))) 0 = 0 then nI k else if byE cs (nI (8 * k)) < 33 then 0 else if byE cs (nI (8 * k)) ≤ 126 then fSignsN cs n (k + 1) else 0
def fSigns (cs : Int64) : Int32 := fSignsN cs 8 0
theorem fSignsN_le (cs : Int64) : ∀ n k, ∃ m, m ≤ k + n ∧ fSignsN cs n k = nI m
  | 0, k => ⟨k, Nat.le_refl _, rfl⟩
  | n + 1, k => by
    unfold fSignsN
    split
    · exact ⟨k, by omega, rfl⟩
    · split
      · exact ⟨0, by omega, rfl⟩
      · split
        · obtain ⟨m, h1, h2⟩ := fSignsN_le cs n (k + 1)
          exact ⟨m, by omega, h2⟩
        · exact ⟨0, by omega, rfl⟩
theorem fSigns_le (cs : Int64) : ∃ m, m ≤ 8 ∧ fSigns cs = nI m := by
  obtain ⟨m, h1, h2⟩ := fSignsN_le cs 8 0
  exact ⟨m, by omega, h2⟩
theorem p_X2_signsIn {cs : Int64} : PO_X2_signsIn cs (fun r => r = fSigns cs) := by
  refine ⟨fun w x2 x3 => ∃ k, k ≤ 8 ∧ x2 = nI k ∧ x3 = nI (8 * k) ∧ w = 8 - k ∧ fSignsN cs (8 - k) k = fSigns cs, ?_, ⟨_, 0, by omega, rfl, rfl, rfl, rfl⟩⟩
  rintro w x2 x3 ⟨k, h1, rfl, rfl, rfl, h2⟩
  unfold wp_X2_signsIn_4
  by_cases c : k = 8
  · subst c
    rw [if_pos (by decide)]
    exact h2
  · rw [if_neg (show ¬ (64 : Int32) ≤ nI (8 * k) from fun z => absurd ((nI_leI (by omega) (by omega)).mp (show nI 64 ≤ nI (8 * k) from z)) (by omega))]
    obtain ⟨n, hn⟩ : ∃ n, 8 - k = n + 1 := ⟨8 - k - 1, by omega⟩
    rw [hn] at h2
    unfold fSignsN at h2
    change if lg_cmp (shE cs (nI (8 * k))) 0 = 0 then _ else if byE cs (nI (8 * k)) < 33 then _ else if byE cs (nI (8 * k)) ≤ 126 then _ else _
    by_cases c1 : lg_cmp (shE cs (nI (8 * k))) 0 = 0
    · rw [if_pos c1] at h2 ⊢; exact h2
    · rw [if_neg c1] at h2 ⊢
      by_cases c2 : byE cs (nI (8 * k)) < 33
      · rw [if_pos c2] at h2 ⊢; exact h2
      · rw [if_neg c2] at h2 ⊢
        by_cases c3 : byE cs (nI (8 * k)) ≤ 126
        · rw [if_pos c3] at h2 ⊢
          refine ⟨8 - (k + 1), by omega, k + 1, by omega, nI_1 k, ?_, rfl, ?_⟩
          · show nI (8 * k) + nI 8 = _
            rw [nI_add]; congr 1
          · rw [show 8 - (k + 1) = n by omega]; exact h2
        · rw [if_neg c3] at h2 ⊢; exact h2
def fAppN (cs : Int64) : Nat → List Int32 → List Int32
  | 0, xs => xs
  | n + 1, xs => fAppN cs n (rAdd 60 xs (byE cs (8 * nI n)))
def fApp (cs : Int64) (mo : Int32) (xs : List Int32) : List Int32 := fAppN cs mo.toNatClampNeg xs
theorem p_X2_append {cs : Int64} {mo : Int32} {p : RV} (hm : ∃ cs' : Int64, mo = fSigns cs') : PO_X2_append cs mo (fun p1 => p1 = rvR p 0 (fApp cs mo (p.1 0))) p := by
  obtain ⟨cs', rfl⟩ := hm
  obtain ⟨m, hm8, e⟩ := fSigns_le cs'
  rw [e]
  have hf : fApp cs (nI m) (p.1 0) = fAppN cs m (p.1 0) := by unfold fApp; rw [nI_clamp (by omega)]
  rw [hf]
  refine ⟨fun w p' x4 => ∃ i xs, i ≤ 8 ∧ x4 = nI i - 1 ∧ w = i ∧ p' = rvR p 0 xs ∧ fAppN cs i xs = fAppN cs m (p.1 0), ?_, ⟨_, m, p.1 0, hm8, rfl, rfl, (rvR_self p 0).symm, rfl⟩⟩
  rintro w p' x4 ⟨i, xs, h1, rfl, rfl, rfl, h2⟩
  unfold wp_X2_append_5
  dsimp only [yl]
  cases w with
  | zero =>
    rw [if_pos (by decide)]
    have h2 : xs = fAppN cs m (p.1 0) := h2
    rw [h2]
  | succ k =>
    rw [nI_sub1, if_neg (nI_pos (by omega)), rvR_eq, rvR_rvR, i32_m1]
    exact ⟨k, by omega, k, _, by omega, rfl, rfl, rfl, h2⟩
/-- the fault of what is left of the text, with what was read of it: the bookings' numbers -/
def ffL : List Int32 → Int32 → Int32 → Int32 → List Int32 → Int32 × List Int32
  | [], pl, pa, nu, ns => if nu = -6 then (pl, ns) else if pa = 3 then (-6, rAdd 31 ns nu) else (pl, ns)
  | c :: l, pl, pa, nu, ns =>
    if c < 48 ∨ 57 < c then
      if nu = -6 then (pl, ns)
      else if c = f_X2_endOf pa then ffL l (pl + 1) (if pa = 3 then 0 else pa + 1) (-6) (rAdd 31 ns nu)
      else (pl, ns)
    else if f_X2_withDigit nu (c - 48) < 0 then (pl, ns)
    else if f_X2_withDigit nu (c - 48) ≤ f_X2_mostIn pa then ffL l (pl + 1) pa (f_X2_withDigit nu (c - 48)) ns
    else (pl, ns)
def fFault (p : RV) : Int32 × List Int32 := ffL (p.1 0) 0 0 (-6) []
theorem p_X2_findFault {p : RV} (hl : (p.1 0).length < 2147483648) : PO_X2_findFault (fun r p1 => r = (fFault p).1 ∧ p1 = rvR p 1 (fFault p).2) p := by
  refine ⟨fun w p' x1 x2 x3 => ∃ i ns, i ≤ (p.1 0).length ∧ x3 = nI i ∧ w = (p.1 0).length - i ∧ p' = rvR p 1 ns ∧ ffL ((p.1 0).drop i) (nI i) x1 x2 ns = fFault p, ?_, ?_⟩
  · rintro w p' x1 x2 x3 ⟨i, ns, h1, rfl, rfl, rfl, h2⟩
    unfold wp_X2_findFault_14
    dsimp only [yl]
    rw [rvR_ne (show 0 ≠ 1 by decide), rvR_eq, rvR_rvR]
    unfold rLen
    by_cases c : (p.1 0).length ≤ i
    · rw [if_pos ((nI_leI hl (by omega)).mpr c)]
      have e : i = (p.1 0).length := by omega
      subst e
      rw [List.drop_of_length_le (Nat.le_refl _)] at h2
      unfold ffL at h2
      by_cases c1 : x2 = -6
      · rw [if_pos c1] at h2 ⊢; rw [← h2]; exact ⟨rfl, rfl⟩
      · rw [if_neg c1] at h2 ⊢
        by_cases c2 : x1 = 3
        · rw [if_pos c2] at h2 ⊢; rw [← h2]; exact ⟨rfl, rfl⟩
        · rw [if_neg c2] at h2 ⊢; rw [← h2]; exact ⟨rfl, rfl⟩
    · rw [if_neg (fun z => c ((nI_leI hl (by omega)).mp z)), rAt_lt (by omega) (by omega)]
      rw [List.drop_eq_getElem_cons (by omega)] at h2
      unfold ffL at h2
      generalize (p.1 0)[i] = ch at h2 ⊢
      have other : (ch < 48 ∨ 57 < ch) → (if x2 = -6 then (nI i = (fFault p).1 ∧ rvR p 1 ns = rvR p 1 (fFault p).2) else if ch = f_X2_endOf x1 then (if x1 = 3 then ∃ w9, w9 < (p.1 0).length - i ∧ ∃ i_1 ns_1, i_1 ≤ (p.1 0).length ∧ nI i + 1 = nI i_1 ∧ w9 = (p.1 0).length - i_1 ∧ rvR p 1 (rAdd 31 ns x2) = rvR p 1 ns_1 ∧ ffL ((p.1 0).drop i_1) (nI i_1) 0 (-6) ns_1 = fFault p else ∃ w9, w9 < (p.1 0).length - i ∧ ∃ i_1 ns_1, i_1 ≤ (p.1 0).length ∧ nI i + 1 = nI i_1 ∧ w9 = (p.1 0).length - i_1 ∧ rvR p 1 (rAdd 31 ns x2) = rvR p 1 ns_1 ∧ ffL ((p.1 0).drop i_1) (nI i_1) (x1 + 1) (-6) ns_1 = fFault p) else (nI i = (fFault p).1 ∧ rvR p 1 ns = rvR p 1 (fFault p).2)) := by
        intro q
        rw [if_pos q] at h2
        by_cases c1 : x2 = -6
        · rw [if_pos c1] at h2 ⊢; rw [← h2]; exact ⟨rfl, rfl⟩
        · rw [if_neg c1] at h2 ⊢
          by_cases c2 : ch = f_X2_endOf x1
          · rw [if_pos c2] at h2 ⊢
            by_cases c3 : x1 = 3
            · rw [if_pos c3] at h2 ⊢
              exact ⟨_, by omega, i + 1, _, by omega, nI_1 i, rfl, rfl, by rw [← nI_1]; exact h2⟩
            · rw [if_neg c3] at h2 ⊢
              exact ⟨_, by omega, i + 1, _, by omega, nI_1 i, rfl, rfl, by rw [← nI_1]; exact h2⟩
          · rw [if_neg c2] at h2 ⊢; rw [← h2]; exact ⟨rfl, rfl⟩
      by_cases c1 : ch < 48
      · rw [if_pos c1]; exact other (Or.inl c1)
      · rw [if_neg c1]
        by_cases c2 : 57 < ch
        · rw [if_pos c2]; exact other (Or.inr c2)
        · rw [if_neg c2]
          rw [if_neg (by rintro (q | q); exact c1 q; exact c2 q)] at h2
          by_cases c3 : f_X2_withDigit x2 (ch - 48) < 0
          · rw [if_pos c3] at h2 ⊢; rw [← h2]; exact ⟨rfl, rfl⟩
          · rw [if_neg c3] at h2 ⊢
            by_cases c4 : f_X2_withDigit x2 (ch - 48) ≤ f_X2_mostIn x1
            · rw [if_pos c4] at h2 ⊢
              exact ⟨_, by omega, i + 1, _, by omega, nI_1 i, rfl, rfl, by rw [← nI_1]; exact h2⟩
            · rw [if_neg c4] at h2 ⊢; rw [← h2]; exact ⟨rfl, rfl⟩
  · exact ⟨_, 0, [], Nat.zero_le _, rfl, rfl, rfl, rfl⟩
