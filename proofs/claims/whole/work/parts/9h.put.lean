/-! ===== characters come to the pad ===== -/
theorem lgc0 (r : Int64) : lg_cmp r 0 = 0 ↔ r = 0 := by
  unfold lg_cmp
  by_cases c : r = 0
  · subst c
    simp
  · rw [if_neg c]
    split
    · exact ⟨fun z => absurd z (by decide), fun z => absurd z c⟩
    · exact ⟨fun z => absurd z (by decide), fun z => absurd z c⟩
theorem amt8 : ∀ k : Fin 8, ((nI (8 * k.val)).toInt64.toUInt64 &&& Int64.toUInt64 63).toNat % 64 = 8 * k.val := by decide +kernel
theorem shE_nat (cs : Int64) {k : Nat} (h : k < 8) : (shE cs (nI (8 * k))).toUInt64.toNat = cs.toUInt64.toNat >>> (8 * k) := by
  unfold shE
  rw [UInt64.toUInt64_toInt64, UInt64.toNat_shiftRight, amt8 ⟨k, h⟩]
theorem sh8_nat (x : Int64) : ((x.toUInt64 >>> ((8 : Int32).toInt64.toUInt64 &&& Int64.toUInt64 63)).toInt64).toUInt64.toNat = x.toUInt64.toNat >>> 8 := by
  rw [UInt64.toUInt64_toInt64, UInt64.toNat_shiftRight]
  exact congrArg (x.toUInt64.toNat >>> ·) (amt8 ⟨1, by omega⟩)
theorem i64_of_nat {x y : Int64} (h : x.toUInt64.toNat = y.toUInt64.toNat) : x = y := by
  have h1 : x.toUInt64 = y.toUInt64 := UInt64.toNat_inj.mp h
  rw [← Int64.toInt64_toUInt64 x, h1, Int64.toInt64_toUInt64]
theorem rest8 {cs x : Int64} (h : x.toUInt64.toNat = cs.toUInt64.toNat >>> (8 * 8)) : x = 0 := by
  refine i64_of_nat (y := 0) ?_
  rw [h, Nat.shiftRight_eq_div_pow, Nat.div_eq_of_lt (by have := cs.toUInt64.toNat_lt; omega)]
  rfl
theorem low_byte (r : Int64) : (r &&& 255).toInt32 = r.toInt32 &&& 255 := by
  rw [Int64.toInt32_and]
  rfl
theorem fAppN_list {cs : Int64} : ∀ {n : Nat} {xs : List Int32}, n ≤ 8 → xs.length + n ≤ 60 → (fAppN cs n xs).length = xs.length + n ∧ ∀ i, gA (fAppN cs n xs) i = if i < xs.length then gA xs i else if i < xs.length + n then byE cs (nI (8 * (n - 1 - (i - xs.length)))) else 0 := by
  intro n
  induction n with
  | zero =>
    intro xs _ h
    refine ⟨rfl, fun i => ?_⟩
    show gA xs i = _
    by_cases c : i < xs.length
    · rw [if_pos c]
    · rw [if_neg c, if_neg (by omega), gA_out (by omega)]
  | succ n ih =>
    intro xs h8 h
    have e8 : (8 : Int32) * nI n = nI (8 * n) := by rw [show (8 : Int32) = nI 8 from rfl, nI_mul]
    have er : rAdd 60 xs (byE cs (8 * nI n)) = xs ++ [byE cs (nI (8 * n))] := by rw [rAdd_app (by omega), e8]
    have hl : (xs ++ [byE cs (nI (8 * n))]).length = xs.length + 1 := by simp
    obtain ⟨h1, h2⟩ := ih (xs := xs ++ [byE cs (nI (8 * n))]) (by omega) (by omega)
    have ef : fAppN cs (n + 1) xs = fAppN cs n (xs ++ [byE cs (nI (8 * n))]) := by
      show fAppN cs n (rAdd 60 xs (byE cs (8 * nI n))) = _
      rw [er]
    rw [ef]
    refine ⟨by rw [h1, hl]; omega, fun i => ?_⟩
    rw [h2, hl, gA_app]
    by_cases c : i < xs.length
    · rw [if_pos (by omega), if_pos c, if_pos c]
    · by_cases c2 : i = xs.length
      · rw [if_pos (by omega), if_neg c, if_pos c2, if_neg c, if_pos (by omega), show n + 1 - 1 - (i - xs.length) = n by omega]
      · rw [if_neg (by omega), if_neg c]
        by_cases c3 : i < xs.length + 1 + n
        · rw [if_pos c3, if_pos (by omega), show n - 1 - (i - (xs.length + 1)) = n + 1 - 1 - (i - xs.length) by omega]
        · rw [if_neg c3, if_neg (by omega)]
/-- what laying characters leaves as it is -/
def putF (m m' : MV) : Prop := m'.1 8 = m.1 8 ∧ m'.1 4 = m.1 4 ∧ m'.2 1 = m.2 1 ∧ m'.2 3 = m.2 3 ∧ m'.2 5 = m.2 5 ∧ m'.2 6 = m.2 6
theorem zz_put {m : MV} {d p : RV} {xs : List RV} {a0 a1 : Option RV} {cs : Int64} {K : Int32 → MV → Prop} {T : Int32 × RV} (hT : f_X6_put p cs = T) (hM : modR m d p xs a0 a1) (hK : ∀ m', modR m' d T.2 xs a0 a1 → K T.1 m') : PO_X7_put cs K m := by
  obtain ⟨hS, hH, hslt, hp60, hp8, hp7⟩ := id hM
  unfold f_X6_put rLen at hT
  dsimp only [yl] at hT
  have hsame : ∀ m', scr m m' → modR m' d p xs a0 a1 := fun m' hs => modR_oth hM (othM_scr2 (scr2_of hs)) (by rw [scr_s hs]; exact hS)
  refine ⟨fun w m' x3 x4 x6 => ∃ k, k ≤ 8 ∧ x3 = nI k ∧ w = 8 - k + 1000 ∧ scr m m' ∧ x4.toUInt64.toNat = cs.toUInt64.toNat >>> (8 * k) ∧ ((x6 = 1 ∧ fSignsN cs (8 - k) k = fSigns cs) ∨ (x6 = 0 ∧ fSigns cs = 0)),
    fun w m' x3 x7 => ∃ n k, n ≤ 8 ∧ k ≤ n ∧ 0 < n ∧ (p.1 0).length + n ≤ 60 ∧ fSigns cs = nI n ∧ x3 = nI n ∧ x7 = nI k ∧ w = n - k ∧ putF m m' ∧ (∀ q, q < (p.1 0).length → m'.2 7 q = m.2 7 q) ∧ (∀ q, q < k → m'.2 7 ((p.1 0).length + q) = byE cs (nI (8 * (n - 1 - q)))), ?_, ?_, ?_⟩
  · rintro w m' x3 x4 x6 ⟨k, hk, rfl, rfl, hs, hx4, hcl⟩
    unfold wp_X7_put_13
    -- the end of the reading
    have h72 : (k = 8 ∨ lg_cmp (x4 &&& 255) 0 = 0) → wp_X7_put_72 cs (fun m9 x39 x49 x69 => ∃ w9, w9 < 8 - k + 1000 ∧ ∃ k, k ≤ 8 ∧ x39 = nI k ∧ w9 = 8 - k + 1000 ∧ scr m m9 ∧ x49.toUInt64.toNat = cs.toUInt64.toNat >>> (8 * k) ∧ ((x69 = 1 ∧ fSignsN cs (8 - k) k = fSigns cs) ∨ (x69 = 0 ∧ fSigns cs = 0))) (fun m9 x39 x79 => ∃ w9, w9 < 8 - k + 1000 ∧ ∃ n k, n ≤ 8 ∧ k ≤ n ∧ 0 < n ∧ (p.1 0).length + n ≤ 60 ∧ fSigns cs = nI n ∧ x39 = nI n ∧ x79 = nI k ∧ w9 = n - k ∧ putF m m9 ∧ (∀ q, q < (p.1 0).length → m9.2 7 q = m.2 7 q) ∧ (∀ q, q < k → m9.2 7 ((p.1 0).length + q) = byE cs (nI (8 * (n - 1 - q))))) K m' (nI k) x4 x6 := by
      intro hend
      unfold wp_X7_put_72 wp_X7_put_88
      have hneg : fSigns cs = 0 → K (-2) m' := by
        intro h0
        rw [if_pos h0] at hT
        subst hT
        exact hK m' (hsame m' hs)
      -- with a character that is 0, the class's reading ends
      have hz : k < 8 → lg_cmp (x4 &&& 255) 0 = 0 → x6 = 1 → fSigns cs = (if lg_cmp x4 0 = 0 then nI k else 0) := by
        intro hk8 hl h6
        have hx : x4 = shE cs (nI (8 * k)) := i64_of_nat (by rw [hx4, shE_nat cs hk8])
        rcases hcl with ⟨-, hc⟩ | ⟨h60, -⟩
        · rw [← hc, show 8 - k = (7 - k) + 1 by omega]
          unfold fSignsN
          rw [← hx]
          have hb : byE cs (nI (8 * k)) = 0 := by
            unfold byE
            rw [← hx, ← low_byte, (lgc0 _).mp hl]
            rfl
          by_cases c1 : lg_cmp x4 0 = 0
          · rw [if_pos c1, if_pos c1]
          · rw [if_neg c1, if_neg c1, hb, if_pos (by decide)]
        · rw [h6] at h60
          exact absurd h60 (by decide)
      by_cases k0 : k = 0
      · rw [k0, if_pos (by decide)]
        refine hneg ?_
        rcases hcl with ⟨h61, -⟩ | ⟨-, h0⟩
        · rw [hz (by omega) (hend.resolve_left (by omega)) h61, k0]
          split <;> rfl
        · exact h0
      rw [if_neg (fun z => k0 ((nI0_iff (by omega)).mp z))]
      rcases hcl with ⟨h61, hc⟩ | ⟨h60, h0⟩
      · rw [h61, if_neg (by decide)]
        by_cases c1 : lg_cmp x4 0 = 0
        · rw [if_pos c1]
          have hsg : fSigns cs = nI k := by
            by_cases c8 : k = 8
            · rw [← hc, c8]
              rfl
            · rw [hz (by omega) (hend.resolve_left c8) h61, if_pos c1]
          have e8 : m'.1 8 = nI (p.1 0).length := (hs.1 8 (by omega) (by omega) (by omega) (by omega) (by omega)).trans hp8
          rw [e8, nI_add]
          by_cases c60 : (p.1 0).length + k ≤ 60
          · rw [if_pos (show nI ((p.1 0).length + k) ≤ 60 from (nI_leI (b := 60) (by omega) (by omega)).mpr c60)]
            exact ⟨_, by omega, k, 0, hk, Nat.zero_le _, by omega, c60, hsg, rfl, rfl, rfl, ⟨hs.1 8 (by omega) (by omega) (by omega) (by omega) (by omega), hs.1 4 (by omega) (by omega) (by omega) (by omega) (by omega), scr_s hs, hs.2 3 (by omega) (by omega) (by omega) (by omega), hs.2 5 (by omega) (by omega) (by omega) (by omega), hs.2 6 (by omega) (by omega) (by omega) (by omega)⟩, fun q hq => by rw [hs.2 7 (by omega) (by omega) (by omega) (by omega)], fun q hq => absurd hq (Nat.not_lt_zero q)⟩
          · rw [if_neg (fun (z : nI ((p.1 0).length + k) ≤ 60) => c60 ((nI_leI (b := 60) (by omega) (by omega)).mp z))]
            rw [hsg, if_neg (nI_ne0 (by omega) (by omega)), nI_add, if_neg (fun (z : nI ((p.1 0).length + k) ≤ 60) => c60 ((nI_leI (b := 60) (by omega) (by omega)).mp z))] at hT
            subst hT
            exact hK m' (hsame m' hs)
        · rw [if_neg c1]
          have k8 : k ≠ 8 := by
            intro e
            rw [e] at hx4
            exact c1 ((lgc0 _).mpr (rest8 hx4))
          refine hneg ?_
          rw [hz (by omega) (hend.resolve_left k8) h61, if_neg c1]
      · rw [h60, if_pos rfl]
        exact hneg h0
    by_cases c8 : 8 ≤ k
    · rw [if_pos (show (8 : Int32) ≤ nI k from (nI_leI (a := 8) (by omega) (by omega)).mpr c8)]
      exact h72 (Or.inl (by omega))
    rw [if_neg (fun (z : (8 : Int32) ≤ nI k) => c8 ((nI_leI (a := 8) (by omega) (by omega)).mp z))]
    by_cases cl : lg_cmp (x4 &&& 255) 0 = 0
    · rw [if_pos cl]
      exact h72 (Or.inr cl)
    rw [if_neg cl]
    have hnext : ∀ b : Int32, ((b = 1 ∧ fSignsN cs (8 - (k + 1)) (k + 1) = fSigns cs) ∨ (b = 0 ∧ fSigns cs = 0)) → wp_X7_put_59 cs (fun m9 x39 x49 x69 => ∃ w9, w9 < 8 - k + 1000 ∧ ∃ k, k ≤ 8 ∧ x39 = nI k ∧ w9 = 8 - k + 1000 ∧ scr m m9 ∧ x49.toUInt64.toNat = cs.toUInt64.toNat >>> (8 * k) ∧ ((x69 = 1 ∧ fSignsN cs (8 - k) k = fSigns cs) ∨ (x69 = 0 ∧ fSigns cs = 0))) (fun m9 x39 x79 => ∃ w9, w9 < 8 - k + 1000 ∧ ∃ n k, n ≤ 8 ∧ k ≤ n ∧ 0 < n ∧ (p.1 0).length + n ≤ 60 ∧ fSigns cs = nI n ∧ x39 = nI n ∧ x79 = nI k ∧ w9 = n - k ∧ putF m m9 ∧ (∀ q, q < (p.1 0).length → m9.2 7 q = m.2 7 q) ∧ (∀ q, q < k → m9.2 7 ((p.1 0).length + q) = byE cs (nI (8 * (n - 1 - q))))) K m' (nI k) x4 b := by
      intro b hb
      unfold wp_X7_put_59
      refine ⟨_, ?_, k + 1, by omega, nI_1 k, rfl, hs, ?_, hb⟩
      · omega
      · rw [sh8_nat, hx4, ← Nat.shiftRight_add]
        congr 1
    rcases hcl with ⟨h61, hc⟩ | ⟨h60, h0⟩
    · rw [h61, if_neg (by decide), low_byte]
      have hx : x4 = shE cs (nI (8 * k)) := i64_of_nat (by rw [hx4, shE_nat cs (by omega)])
      have hb : x4.toInt32 &&& 255 = byE cs (nI (8 * k)) := by unfold byE; rw [← hx]
      rw [show 8 - k = (8 - (k + 1)) + 1 by omega] at hc
      unfold fSignsN at hc
      have hne : ¬ lg_cmp x4 0 = 0 := by
        intro z
        rw [(lgc0 _).mp z] at cl
        exact cl (by decide)
      rw [← hx, if_neg hne] at hc
      rw [hb]
      dsimp only [yl]
      unfold f_X7_in
      by_cases c1 : byE cs (nI (8 * k)) < 33
      · rw [if_pos c1, if_pos rfl]
        rw [if_pos c1] at hc
        unfold wp_X7_put_56
        exact hnext 0 (Or.inr ⟨rfl, hc.symm⟩)
      rw [if_neg c1] at hc
      rw [if_neg c1]
      by_cases c2 : byE cs (nI (8 * k)) ≤ 126
      · rw [if_pos c2] at hc
        rw [if_neg (Int32.not_lt.mpr c2), if_neg (by decide)]
        exact hnext 1 (Or.inl ⟨rfl, hc⟩)
      · rw [if_neg c2] at hc
        rw [if_pos (Int32.not_le.mp c2), if_pos rfl]
        unfold wp_X7_put_56
        exact hnext 0 (Or.inr ⟨rfl, hc.symm⟩)
    · rw [h60, if_pos rfl]
      unfold wp_X7_put_56
      exact hnext 0 (Or.inr ⟨rfl, h0⟩)
  · rintro w m' x3 x7 ⟨n, k, hn8, hkn, hn0, hn60, hsg, rfl, rfl, rfl, ⟨e18, e14, e21, e23, e25, e26⟩, e70, e7⟩
    unfold wp_X7_put_108
    have e8 : m'.1 8 = nI (p.1 0).length := e18.trans hp8
    have hsg0 : ¬ fSigns cs = 0 := by rw [hsg]; exact nI_ne0 hn0 (by omega)
    rw [if_neg hsg0, hsg, nI_add, if_pos (show nI ((p.1 0).length + n) ≤ 60 from (nI_leI (b := 60) (by omega) (by omega)).mpr hn60)] at hT
    by_cases c : n ≤ k
    · rw [if_pos ((nI_leI (by omega) (by omega)).mpr c)]
      dsimp only [yl]
      have hkn' : k = n := by omega
      subst hkn'
      obtain ⟨hl, hg⟩ := fAppN_list (cs := cs) (n := k) (xs := p.1 0) hn8 hn60
      have hfa : fApp cs (nI k) (p.1 0) = fAppN cs k (p.1 0) := by unfold fApp; rw [nI_clamp (by omega)]
      rw [hfa] at hT
      subst hT
      have ea : (mI m' 8 (m'.1 8 + nI k)).1 8 = nI ((p.1 0).length + k) := by rw [mI_at, e8, nI_add]
      rw [ea]
      have el : ((rvR p 0 (fAppN cs k (p.1 0))).1 0).length = (p.1 0).length + k := hl
      have h := hK (mI m' 8 (m'.1 8 + nI k)) ⟨?_, ⟨hH.1, ?_, ?_⟩, ?_, ?_, ?_, ?_⟩
      · have h' : K (nI ((rvR p 0 (fAppN cs k (p.1 0))).1 0).length) (mI m' 8 (m'.1 8 + nI k)) := h
        rw [el] at h'
        exact h'
      · show dayS (m'.2 1) d
        rw [e21]
        exact hS
      · show (mI m' 8 _).1 4 = _
        rw [mI_ne (by omega), e14]
        exact hH.2.1
      · show ∀ q, q < xs.length → dayS (fun x => m'.2 3 (186 * q + x)) (gV xs q)
        rw [e23]
        exact hH.2.2
      · unfold sltR
        show (m'.2 6 0 = _ ∧ ∀ d, a0 = some d → dayS (fun x => m'.2 5 x) d) ∧ (m'.2 6 1 = _ ∧ ∀ d, a1 = some d → dayS (fun x => m'.2 5 (186 + x)) d)
        rw [e25, e26]
        exact hslt
      · show ((rvR p 0 (fAppN cs k (p.1 0))).1 0).length ≤ 60
        omega
      · rw [ea]
        show _ = nI ((rvR p 0 (fAppN cs k (p.1 0))).1 0).length
        rw [el]
      · intro q hq
        have hq' : q < ((rvR p 0 (fAppN cs k (p.1 0))).1 0).length := hq
        rw [el] at hq'
        show m'.2 7 q = gA (fAppN cs k (p.1 0)) q
        rw [hg]
        by_cases cq : q < (p.1 0).length
        · rw [if_pos cq, e70 q cq]
          exact hp7 q cq
        · rw [if_neg cq, if_pos hq']
          have h7 := e7 (q - (p.1 0).length) (by omega)
          rw [show (p.1 0).length + (q - (p.1 0).length) = q by omega] at h7
          exact h7
    · rw [if_neg (fun z => c ((nI_leI (by omega) (by omega)).mp z))]
      rw [e8, nI_add, nI_clamp (by omega)]
      refine ⟨vp_in_nI (by omega) (by omega), ?_⟩
      dsimp only [yl]
      have ej : (8 : Int32) * ((nI n - 1) - nI k) = nI (8 * (n - 1 - k)) := by
        obtain ⟨n', hn'⟩ : ∃ n', n = n' + 1 := ⟨n - 1, by omega⟩
        have es : nI (n' - k) + nI k = nI n' := by rw [nI_add]; congr 1; omega
        rw [hn', nI_pred, ← es, Int32.add_sub_cancel, show (8 : Int32) = nI 8 from rfl, nI_mul, show n' + 1 - 1 - k = n' - k by omega]
      rw [ej, low_byte]
      refine ⟨_, by omega, n, k + 1, hn8, by omega, hn0, hn60, hsg, rfl, nI_1 k, rfl, ⟨e18, e14, e21, e23, e25, e26⟩, fun q hq => ?_, fun q hq => ?_⟩
      · rw [mA_at, upd_ne (by omega)]
        exact e70 q hq
      · rw [mA_at]
        by_cases cq : q = k
        · rw [cq, upd_at]
          rfl
        · rw [upd_ne (by omega)]
          exact e7 q (by omega)
  · unfold wp_X7_put_0
    dsimp only [yl]
    exact ⟨_, 0, by omega, rfl, rfl, scr_I (scr_refl m) (by omega), by rw [Nat.mul_zero, Nat.shiftRight_zero], Or.inl ⟨rfl, rfl⟩⟩
theorem zz_wipe {m : MV} {d p : RV} {xs : List RV} {a0 a1 : Option RV} {K : Int32 → MV → Prop} {T : Int32 × RV} (hT : f_X6_wipe p = T) (hM : modR m d p xs a0 a1) (hK : ∀ m', modR m' d T.2 xs a0 a1 → K T.1 m') : PO_X7_wipe K m := by
  obtain ⟨hS, hH, hslt, hp60, hp8, hp7⟩ := id hM
  unfold f_X6_wipe at hT
  dsimp only [yl] at hT
  subst hT
  unfold PO_X7_wipe wp_X7_wipe_0
  dsimp only [yl]
  rw [show (mI m 0 0).1 8 = rLen (p.1 0) from hp8]
  refine hK (mI (mI m 0 0) 8 0) ⟨hS, ⟨hH.1, hH.2.1, hH.2.2⟩, hslt, Nat.zero_le _, rfl, fun k hk => absurd hk (Nat.not_lt_zero k)⟩
